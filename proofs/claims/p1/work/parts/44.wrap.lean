theorem dL_about_0 : decode cL_about 0 = .ok (.aload_n 2, 1) := by decide +kernel
theorem dL_about_1 : decode cL_about 1 = .ok (.iconst 0, 1) := by decide +kernel
theorem dL_about_15 : decode cL_about 15 = .ok (.iconst 0, 1) := by decide +kernel
theorem dL_about_16 : decode cL_about 16 = .ok (.ireturn, 1) := by decide +kernel
theorem dL_about_2 : decode cL_about 2 = .ok (.aload_n 0, 1) := by decide +kernel
theorem dL_about_3 : decode cL_about 3 = .ok (.iload_n 1, 1) := by decide +kernel
theorem dL_about_4 : decode cL_about 4 = .ok (.invokevirtual 24, 3) := by decide +kernel
theorem dL_about_7 : decode cL_about 7 = .ok (.i2l, 1) := by decide +kernel
theorem dL_about_8 : decode cL_about 8 = .ok (.lastore, 1) := by decide +kernel
theorem dL_about_9 : decode cL_about 9 = .ok (.goto 6, 3) := by decide +kernel
theorem dL_key_0 : decode cL_key 0 = .ok (.aload_n 3, 1) := by decide +kernel
theorem dL_key_1 : decode cL_key 1 = .ok (.iconst 0, 1) := by decide +kernel
theorem dL_key_15 : decode cL_key 15 = .ok (.lconst 0, 1) := by decide +kernel
theorem dL_key_16 : decode cL_key 16 = .ok (.lastore, 1) := by decide +kernel
theorem dL_key_17 : decode cL_key 17 = .ok (.goto 7, 3) := by decide +kernel
theorem dL_key_2 : decode cL_key 2 = .ok (.aload_n 0, 1) := by decide +kernel
theorem dL_key_24 : decode cL_key 24 = .ok (.iconst 0, 1) := by decide +kernel
theorem dL_key_25 : decode cL_key 25 = .ok (.ireturn, 1) := by decide +kernel
theorem dL_key_3 : decode cL_key 3 = .ok (.iload_n 1, 1) := by decide +kernel
theorem dL_key_4 : decode cL_key 4 = .ok (.iload_n 2, 1) := by decide +kernel
theorem dL_key_5 : decode cL_key 5 = .ok (.invokevirtual 15, 3) := by decide +kernel
theorem dL_key_8 : decode cL_key 8 = .ok (.ifCond .eq 7, 3) := by decide +kernel
theorem dL_line_0 : decode cL_line 0 = .ok (.aload_n 3, 1) := by decide +kernel
theorem dL_line_1 : decode cL_line 1 = .ok (.iconst 0, 1) := by decide +kernel
theorem dL_line_15 : decode cL_line 15 = .ok (.lconst 0, 1) := by decide +kernel
theorem dL_line_16 : decode cL_line 16 = .ok (.lastore, 1) := by decide +kernel
theorem dL_line_17 : decode cL_line 17 = .ok (.goto 7, 3) := by decide +kernel
theorem dL_line_2 : decode cL_line 2 = .ok (.aload_n 0, 1) := by decide +kernel
theorem dL_line_24 : decode cL_line 24 = .ok (.iconst 0, 1) := by decide +kernel
theorem dL_line_25 : decode cL_line 25 = .ok (.ireturn, 1) := by decide +kernel
theorem dL_line_3 : decode cL_line 3 = .ok (.iload_n 1, 1) := by decide +kernel
theorem dL_line_4 : decode cL_line 4 = .ok (.iload_n 2, 1) := by decide +kernel
theorem dL_line_5 : decode cL_line 5 = .ok (.invokevirtual 21, 3) := by decide +kernel
theorem dL_line_8 : decode cL_line 8 = .ok (.ifCond .eq 7, 3) := by decide +kernel
theorem dL_set_0 : decode cL_set 0 = .ok (.aload_n 0, 1) := by decide +kernel
theorem dL_set_1 : decode cL_set 1 = .ok (.iload_n 1, 1) := by decide +kernel
theorem dL_set_12 : decode cL_set 12 = .ok (.iconst 0, 1) := by decide +kernel
theorem dL_set_13 : decode cL_set 13 = .ok (.ireturn, 1) := by decide +kernel
theorem dL_set_2 : decode cL_set 2 = .ok (.iload_n 2, 1) := by decide +kernel
theorem dL_set_3 : decode cL_set 3 = .ok (.invokevirtual 30, 3) := by decide +kernel
theorem dL_set_6 : decode cL_set 6 = .ok (.goto 6, 3) := by decide +kernel
theorem dL_shown_0 : decode cL_shown 0 = .ok (.aload_n 2, 1) := by decide +kernel
theorem dL_shown_1 : decode cL_shown 1 = .ok (.iconst 0, 1) := by decide +kernel
theorem dL_shown_15 : decode cL_shown 15 = .ok (.iconst 0, 1) := by decide +kernel
theorem dL_shown_16 : decode cL_shown 16 = .ok (.ireturn, 1) := by decide +kernel
theorem dL_shown_2 : decode cL_shown 2 = .ok (.aload_n 0, 1) := by decide +kernel
theorem dL_shown_3 : decode cL_shown 3 = .ok (.iload_n 1, 1) := by decide +kernel
theorem dL_shown_4 : decode cL_shown 4 = .ok (.invokevirtual 27, 3) := by decide +kernel
theorem dL_shown_7 : decode cL_shown 7 = .ok (.i2l, 1) := by decide +kernel
theorem dL_shown_8 : decode cL_shown 8 = .ok (.lastore, 1) := by decide +kernel
theorem dL_shown_9 : decode cL_shown 9 = .ok (.goto 6, 3) := by decide +kernel
theorem dL_steps_0 : decode cL_steps 0 = .ok (.aload_n 2, 1) := by decide +kernel
theorem dL_steps_1 : decode cL_steps 1 = .ok (.iconst 0, 1) := by decide +kernel
theorem dL_steps_15 : decode cL_steps 15 = .ok (.iconst 0, 1) := by decide +kernel
theorem dL_steps_16 : decode cL_steps 16 = .ok (.ireturn, 1) := by decide +kernel
theorem dL_steps_2 : decode cL_steps 2 = .ok (.aload_n 0, 1) := by decide +kernel
theorem dL_steps_3 : decode cL_steps 3 = .ok (.iload_n 1, 1) := by decide +kernel
theorem dL_steps_4 : decode cL_steps 4 = .ok (.invokevirtual 7, 3) := by decide +kernel
theorem dL_steps_7 : decode cL_steps 7 = .ok (.i2l, 1) := by decide +kernel
theorem dL_steps_8 : decode cL_steps 8 = .ok (.lastore, 1) := by decide +kernel
theorem dL_steps_9 : decode cL_steps 9 = .ok (.goto 6, 3) := by decide +kernel
set_option maxHeartbeats 4000000 in
set_option maxRecDepth 100000 in
theorem w_steps (l : Launch) (dC : Nat → ClassId) (dI : Nat → Nat → Nat) (a_k : Nat) (a_m : Nat) (a_t : Nat) (a_u : Nat) (a_i : Nat) (a_p : Nat) (a_o : Nat) (a_r : Nat) (a_f : Nat) (a_d : Nat) (a_b : Nat) (a_c : Nat) (a_q : Nat) (a_s : Nat) (k_d : ClassId) (k_b : ClassId) (k_c : ClassId) (k_m : ClassId) (cnt : Nat) (n0 : Int32) (pc : Int32) (tk : Int32) (t : Int32) (o_l : Nat) (k_l : ClassId) (fo : Nat → Int64) (hn : n0 = nI cnt) (hc : cnt ≤ 200) (sz : Nat) : Met l yL_steps (Cond.codeWith yL_steps cL_steps 4 (some .int) [(0, 9, 12, 13)] :: zw) ({ frames := 5, cells := 0, slots := 0, locals := 111 }) (va_Pc [.ref a_k, .int n0, .ref o_l] (zc_P (dC, dI) [(a_k, .inr (6, [.ref a_m, .ref a_t, .ref a_u, .ref a_i, .ref a_p])), (a_p, .inr (4, [.ref a_m, .ref a_t, .ref a_u, .ref a_i, .ref a_o, .ref a_r, .ref a_f, .int 0, .int pc, .int 0, .int tk])), (a_t, .inr (5, [.int 0, .int 0, .int 0, .int 0, .int 0, .int 0, .int 0])), (a_u, .inr (2, [.ref a_d, .ref a_b, .ref a_c, .ref a_q, .int 0, .int 0, .int 0, .int 0, .ref a_s, .int 0, .int t])), (a_d, .inl (k_d, 16, .inl (fun _ => 0))), (a_b, .inl (k_b, 16, .inl (fun _ => 0))), (a_c, .inl (k_c, 16, .inl (fun _ => 0))), (a_i, .inr (1, [.int 0, .int 0, .int 7, .int 0, .int 0, .int 0, .int 0])), (a_m, .inl (k_m, 1024, .inl (fun _ => 0))), (o_l, .inl (k_l, 1, .inr (.inl fo)))] [(k_d, .boolean), (k_b, .boolean), (k_c, .boolean), (k_m, .int), (k_l, .long)] sz)) (va_Qi (fun r (u : Nat → Int64) => r = 0 ∧ u (0 : Int32).toNatClampNeg = (nI (4 * cnt) : Int32).toInt64) (fun (u : Nat → Int64) t9 => zc_B (dC, dI) (va_A [(a_k, .inr (6, [.ref a_m, .ref a_t, .ref a_u, .ref a_i, .ref a_p])), (a_p, .inr (4, [.ref a_m, .ref a_t, .ref a_u, .ref a_i, .ref a_o, .ref a_r, .ref a_f, .int 0, .int pc, .int 0, .int tk])), (a_t, .inr (5, [.int 0, .int 0, .int 0, .int 0, .int 0, .int 0, .int 0])), (a_u, .inr (2, [.ref a_d, .ref a_b, .ref a_c, .ref a_q, .int 0, .int 0, .int 0, .int 0, .ref a_s, .int 0, .int t])), (a_d, .inl (k_d, 16, .inl (fun _ => 0))), (a_b, .inl (k_b, 16, .inl (fun _ => 0))), (a_c, .inl (k_c, 16, .inl (fun _ => 0))), (a_i, .inr (1, [.int 0, .int 0, .int 7, .int 0, .int 0, .int 0, .int 0])), (a_m, .inl (k_m, 1024, .inl (fun _ => 0))), (o_l, .inl (k_l, 1, .inr (.inl fo)))] sz) [(o_l, .inl (k_l, 1, .inr (.inl u)))] [(k_d, .boolean), (k_b, .boolean), (k_c, .boolean), (k_m, .int), (k_l, .long)] t9) (va_A [(a_k, .inr (6, [.ref a_m, .ref a_t, .ref a_u, .ref a_i, .ref a_p])), (a_p, .inr (4, [.ref a_m, .ref a_t, .ref a_u, .ref a_i, .ref a_o, .ref a_r, .ref a_f, .int 0, .int pc, .int 0, .int tk])), (a_t, .inr (5, [.int 0, .int 0, .int 0, .int 0, .int 0, .int 0, .int 0])), (a_u, .inr (2, [.ref a_d, .ref a_b, .ref a_c, .ref a_q, .int 0, .int 0, .int 0, .int 0, .ref a_s, .int 0, .int t])), (a_d, .inl (k_d, 16, .inl (fun _ => 0))), (a_b, .inl (k_b, 16, .inl (fun _ => 0))), (a_c, .inl (k_c, 16, .inl (fun _ => 0))), (a_i, .inr (1, [.int 0, .int 0, .int 7, .int 0, .int 0, .int 0, .int 0])), (a_m, .inl (k_m, 1024, .inl (fun _ => 0))), (o_l, .inl (k_l, 1, .inr (.inl fo)))] sz)) 0 0 (va_A [(a_k, .inr (6, [.ref a_m, .ref a_t, .ref a_u, .ref a_i, .ref a_p])), (a_p, .inr (4, [.ref a_m, .ref a_t, .ref a_u, .ref a_i, .ref a_o, .ref a_r, .ref a_f, .int 0, .int pc, .int 0, .int tk])), (a_t, .inr (5, [.int 0, .int 0, .int 0, .int 0, .int 0, .int 0, .int 0])), (a_u, .inr (2, [.ref a_d, .ref a_b, .ref a_c, .ref a_q, .int 0, .int 0, .int 0, .int 0, .ref a_s, .int 0, .int t])), (a_d, .inl (k_d, 16, .inl (fun _ => 0))), (a_b, .inl (k_b, 16, .inl (fun _ => 0))), (a_c, .inl (k_c, 16, .inl (fun _ => 0))), (a_i, .inr (1, [.int 0, .int 0, .int 7, .int 0, .int 0, .int 0, .int 0])), (a_m, .inl (k_m, 1024, .inl (fun _ => 0))), (o_l, .inl (k_l, 1, .inr (.inl fo)))] sz) := by
  refine va_MetW (hh := [(0, 9, 12, 13)]) (cc := cL_steps) (maxL := 4) (ret := (some .int)) (by decide) rfl ?_
  intro p e s m args below meth c s₁ B hml hv
  obtain ⟨rfl, hsz, hP, hK, hD0, hN⟩ := hv
  have hx := B.exec
  have hb := B.bytes
  have hr := B.returns
  have hts : ∀ w ∈ zw, w.before _ s = true := fun w h => atoms_spec (ws := (Cond.codeWith yL_steps cL_steps 4 (some .int) [(0, 9, 12, 13)] :: zw)) B.pre w (List.mem_cons_of_mem _ h)
  have hown : s.vm.findClass RL = some m.cls := findClass_of_methodNamed B.named
  have hlocks := B.notSynchronized
  subst hsz
  have hD := hD0.self (sz := s.heap.size)
  generalize hAe : va_A [(a_k, .inr (6, [.ref a_m, .ref a_t, .ref a_u, .ref a_i, .ref a_p])), (a_p, .inr (4, [.ref a_m, .ref a_t, .ref a_u, .ref a_i, .ref a_o, .ref a_r, .ref a_f, .int 0, .int pc, .int 0, .int tk])), (a_t, .inr (5, [.int 0, .int 0, .int 0, .int 0, .int 0, .int 0, .int 0])), (a_u, .inr (2, [.ref a_d, .ref a_b, .ref a_c, .ref a_q, .int 0, .int 0, .int 0, .int 0, .ref a_s, .int 0, .int t])), (a_d, .inl (k_d, 16, .inl (fun _ => 0))), (a_b, .inl (k_b, 16, .inl (fun _ => 0))), (a_c, .inl (k_c, 16, .inl (fun _ => 0))), (a_i, .inr (1, [.int 0, .int 0, .int 7, .int 0, .int 0, .int 0, .int 0])), (a_m, .inl (k_m, 1024, .inl (fun _ => 0))), (o_l, .inl (k_l, 1, .inr (.inl fo)))] s.heap.size = A at hD ⊢
  have hA : ∀ q : Nat, s.heap.size ≤ q → A q := fun q h => by rw [← hAe]; exact Or.inr h
  have hS : va_S A s.heap s.heap [] := va_S.rf
  have hP : va_P (dC, dI) vwCl [(a_k, .inr (6, [.ref a_m, .ref a_t, .ref a_u, .ref a_i, .ref a_p])), (a_p, .inr (4, [.ref a_m, .ref a_t, .ref a_u, .ref a_i, .ref a_o, .ref a_r, .ref a_f, .int 0, .int pc, .int 0, .int tk])), (a_t, .inr (5, [.int 0, .int 0, .int 0, .int 0, .int 0, .int 0, .int 0])), (a_u, .inr (2, [.ref a_d, .ref a_b, .ref a_c, .ref a_q, .int 0, .int 0, .int 0, .int 0, .ref a_s, .int 0, .int t])), (a_d, .inl (k_d, 16, .inl (fun _ => 0))), (a_b, .inl (k_b, 16, .inl (fun _ => 0))), (a_c, .inl (k_c, 16, .inl (fun _ => 0))), (a_i, .inr (1, [.int 0, .int 0, .int 7, .int 0, .int 0, .int 0, .int 0])), (a_m, .inl (k_m, 1024, .inl (fun _ => 0))), (o_l, .inl (k_l, 1, .inr (.inl fo)))] s.heap := hP
  have hl := lv_entry ([.ref a_k, .int n0, .ref o_l]) (n := 4) (Nat.le_of_ble_eq_true rfl)
  rw [lg_entry_eq]
  generalize (lg_sl ([.ref a_k, .int n0, .ref o_l]) ++ List.replicate (4 - (lg_sl ([.ref a_k, .int n0, .ref o_l])).length) Slot.unset).toArray = ls at hl ⊢
  have hl : lv_has ls 4 [(0, .ref a_k), (1, .int n0), (2, .ref o_l)] := hl
  refine lv_aload_n hx hb dL_steps_0 rfl (lv_at hl 2 rfl) ?_
  refine lv_iconst (v := 0) hx hb dL_steps_1 (by decide) ?_
  refine lv_aload_n hx hb dL_steps_2 rfl (lv_at hl 0 rfl) ?_
  refine lv_iload_n hx hb dL_steps_3 rfl (lv_at hl 1 rfl) ?_
  refine zc_i (wr := [(o_l, .inl (k_l, 1, .inr (.inl fo)))]) hP hD hS hA [0, 1, 2, 3, 4, 5, 6, 7, 8] [9] rfl rfl (by decide) (by decide) (va_runV (As := [.int n0]) (rest := [.int 0, .ref o_l]) ⟨hx, hb, hml, hown, hts⟩ (c_steps l dC dI a_k a_m a_t a_u a_i a_p a_o a_r a_f a_d a_b a_c a_q a_s k_d k_b k_c k_m cnt n0 pc tk t hn hc _) (cwV 1 hts (zg_V zw_585 zw_586 zw_587 zw_83 zw_588) rfl rfl rfl (by decide +kernel) ⟨Nat.le_of_ble_eq_true rfl, Nat.le_of_ble_eq_true rfl⟩) ⟨zc_blind, va_recv hK hP (ci := 6) (q0 := 0) rfl rfl, zc_start hP hD hK hN [0, 1, 2, 3, 4, 5, 6, 7, 8] [0, 1, 2, 3] rfl (by decide) rfl⟩ rfl rfl hl.1 rfl (lv_room (Nat.le_of_ble_eq_true rfl)) dL_steps_4 ⟨Nat.le_of_ble_eq_true rfl, Nat.le_of_ble_eq_true rfl⟩) (fun r_1 u_1 H locs hw hK1 hP hD hS => ?_)
  have hP : va_P (dC, dI) vwCl [(o_l, .inl (k_l, 1, .inr (.inl fo)))] H := hP
  have hD : va_D A [(o_l, .inl (k_l, 1, .inr (.inl fo)))] := hD
  obtain rfl : r_1 = nI (4 * cnt) := hw
  refine lv_i2l (v := (nI (4 * cnt)).toInt64) hx hb dL_steps_7 rfl ?_
  refine va_last hx hb hK hP hD hS 0 4 rfl rfl (show ¬ ((0 : Int32) < 0 ∨ 1 ≤ (0 : Int32).toNatClampNeg) by decide) dL_steps_8 (fun H locs hP hD hS => ?_)
  have hP : va_P (dC, dI) vwCl [(o_l, .inl (k_l, 1, .inr (.inl (vp_updL fo (0 : Int32).toNatClampNeg ((nI (4 * cnt) : Int32).toInt64)))))] H := hP
  have hD : va_D A [(o_l, .inl (k_l, 1, .inr (.inl (vp_updL fo (0 : Int32).toNatClampNeg ((nI (4 * cnt) : Int32).toInt64)))))] := hD
  refine lv_goto (tgt := 15) hx hb dL_steps_9 (by decide) ?_
  refine lv_iconst (v := 0) hx hb dL_steps_15 (by decide) ?_
  have hP9 := hP.sub (ws' := [(o_l, .inl (k_l, 1, .inr (.inl (vp_updL fo (0 : Int32).toNatClampNeg ((nI (4 * cnt) : Int32).toInt64)))))]) [0] rfl
  have hD9 := hD.sub (ws' := [(o_l, .inl (k_l, 1, .inr (.inl (vp_updL fo (0 : Int32).toNatClampNeg ((nI (4 * cnt) : Int32).toInt64)))))]) [0] (by decide) rfl
  have hK9 := hK.sub (tys' := [(k_d, .boolean), (k_b, .boolean), (k_c, .boolean), (k_m, .int), (k_l, .long)]) [0, 1, 2, 3, 4] rfl
  exact W.iret (v := 0) hx hb hr (fun t9 ht hW => ⟨⟨0, (vp_updL fo (0 : Int32).toNatClampNeg ((nI (4 * cnt) : Int32).toInt64)), rfl, ⟨rfl, pk_uLs⟩, by rw [ht]; exact hP9, va_K.moved hW.alike hK9, hD9⟩, hS.F ht⟩) hS.2.2 dL_steps_16
set_option maxHeartbeats 4000000 in
set_option maxRecDepth 100000 in
theorem w_key (l : Launch) (dC : Nat → ClassId) (dI : Nat → Nat → Nat) (a_k : Nat) (a_m : Nat) (a_t : Nat) (a_u : Nat) (a_i : Nat) (a_p : Nat) (a_d : Nat) (a_b : Nat) (a_c : Nat) (a_q : Nat) (a_s : Nat) (k_d : ClassId) (t : Int32) (k : Int32) (b : Int32) (o_l : Nat) (k_l : ClassId) (fo : Nat → Int64) (hk : vp_in k 16) (sz : Nat) : Met l yL_key (Cond.codeWith yL_key cL_key 5 (some .int) [(0, 17, 20, 19)] :: zw) ({ frames := 1, cells := 0, slots := 0, locals := 23 }) (va_Pc [.ref a_k, .int k, .int b, .ref o_l] (zc_P (dC, dI) [(a_k, .inr (6, [.ref a_m, .ref a_t, .ref a_u, .ref a_i, .ref a_p])), (a_u, .inr (2, [.ref a_d, .ref a_b, .ref a_c, .ref a_q, .int 0, .int 0, .int 0, .int 0, .ref a_s, .int 0, .int t])), (a_d, .inl (k_d, 16, .inl (fun _ => 0))), (o_l, .inl (k_l, 1, .inr (.inl fo)))] [(k_d, .boolean), (k_l, .long)] sz)) (va_Qi (fun r (u : Nat → Int64) => r = 0 ∧ u (0 : Int32).toNatClampNeg = (0 : Int64)) (fun (u : Nat → Int64) t9 => zc_B (dC, dI) (va_A [(a_k, .inr (6, [.ref a_m, .ref a_t, .ref a_u, .ref a_i, .ref a_p])), (a_u, .inr (2, [.ref a_d, .ref a_b, .ref a_c, .ref a_q, .int 0, .int 0, .int 0, .int 0, .ref a_s, .int 0, .int t])), (a_d, .inl (k_d, 16, .inl (fun _ => 0))), (o_l, .inl (k_l, 1, .inr (.inl fo)))] sz) [(o_l, .inl (k_l, 1, .inr (.inl u)))] [(k_d, .boolean), (k_l, .long)] t9) (va_A [(a_k, .inr (6, [.ref a_m, .ref a_t, .ref a_u, .ref a_i, .ref a_p])), (a_u, .inr (2, [.ref a_d, .ref a_b, .ref a_c, .ref a_q, .int 0, .int 0, .int 0, .int 0, .ref a_s, .int 0, .int t])), (a_d, .inl (k_d, 16, .inl (fun _ => 0))), (o_l, .inl (k_l, 1, .inr (.inl fo)))] sz)) 0 0 (va_A [(a_k, .inr (6, [.ref a_m, .ref a_t, .ref a_u, .ref a_i, .ref a_p])), (a_u, .inr (2, [.ref a_d, .ref a_b, .ref a_c, .ref a_q, .int 0, .int 0, .int 0, .int 0, .ref a_s, .int 0, .int t])), (a_d, .inl (k_d, 16, .inl (fun _ => 0))), (o_l, .inl (k_l, 1, .inr (.inl fo)))] sz) := by
  refine va_MetW (hh := [(0, 17, 20, 19)]) (cc := cL_key) (maxL := 5) (ret := (some .int)) (by decide) rfl ?_
  intro p e s m args below meth c s₁ B hml hv
  obtain ⟨rfl, hsz, hP, hK, hD0, hN⟩ := hv
  have hx := B.exec
  have hb := B.bytes
  have hr := B.returns
  have hts : ∀ w ∈ zw, w.before _ s = true := fun w h => atoms_spec (ws := (Cond.codeWith yL_key cL_key 5 (some .int) [(0, 17, 20, 19)] :: zw)) B.pre w (List.mem_cons_of_mem _ h)
  have hown : s.vm.findClass RL = some m.cls := findClass_of_methodNamed B.named
  have hlocks := B.notSynchronized
  subst hsz
  have hD := hD0.self (sz := s.heap.size)
  generalize hAe : va_A [(a_k, .inr (6, [.ref a_m, .ref a_t, .ref a_u, .ref a_i, .ref a_p])), (a_u, .inr (2, [.ref a_d, .ref a_b, .ref a_c, .ref a_q, .int 0, .int 0, .int 0, .int 0, .ref a_s, .int 0, .int t])), (a_d, .inl (k_d, 16, .inl (fun _ => 0))), (o_l, .inl (k_l, 1, .inr (.inl fo)))] s.heap.size = A at hD ⊢
  have hA : ∀ q : Nat, s.heap.size ≤ q → A q := fun q h => by rw [← hAe]; exact Or.inr h
  have hS : va_S A s.heap s.heap [] := va_S.rf
  have hP : va_P (dC, dI) vwCl [(a_k, .inr (6, [.ref a_m, .ref a_t, .ref a_u, .ref a_i, .ref a_p])), (a_u, .inr (2, [.ref a_d, .ref a_b, .ref a_c, .ref a_q, .int 0, .int 0, .int 0, .int 0, .ref a_s, .int 0, .int t])), (a_d, .inl (k_d, 16, .inl (fun _ => 0))), (o_l, .inl (k_l, 1, .inr (.inl fo)))] s.heap := hP
  have hl := lv_entry ([.ref a_k, .int k, .int b, .ref o_l]) (n := 5) (Nat.le_of_ble_eq_true rfl)
  rw [lg_entry_eq]
  generalize (lg_sl ([.ref a_k, .int k, .int b, .ref o_l]) ++ List.replicate (5 - (lg_sl ([.ref a_k, .int k, .int b, .ref o_l])).length) Slot.unset).toArray = ls at hl ⊢
  have hl : lv_has ls 5 [(0, .ref a_k), (1, .int k), (2, .int b), (3, .ref o_l)] := hl
  refine lv_aload_n hx hb dL_key_0 rfl (lv_at hl 3 rfl) ?_
  refine lv_iconst (v := 0) hx hb dL_key_1 (by decide) ?_
  refine lv_aload_n hx hb dL_key_2 rfl (lv_at hl 0 rfl) ?_
  refine lv_iload_n hx hb dL_key_3 rfl (lv_at hl 1 rfl) ?_
  refine lv_iload_n hx hb dL_key_4 rfl (lv_at hl 2 rfl) ?_
  refine zc_i (wr := [(o_l, .inl (k_l, 1, .inr (.inl fo)))]) hP hD hS hA [0, 1, 2] [3] rfl rfl (by decide) (by decide) (va_runV (As := [.int k, .int b]) (rest := [.int 0, .ref o_l]) ⟨hx, hb, hml, hown, hts⟩ (c_key l dC dI a_k a_m a_t a_u a_i a_p a_d a_b a_c a_q a_s k_d t k b hk _) (cwV 2 hts (zg_V zw_660 zw_661 zw_662 zw_83 zw_663) rfl rfl rfl (by decide +kernel) ⟨Nat.le_of_ble_eq_true rfl, Nat.le_of_ble_eq_true rfl⟩) ⟨zc_blind, va_recv hK hP (ci := 6) (q0 := 0) rfl rfl, zc_start hP hD hK hN [0, 1, 2] [0] rfl (by decide) rfl⟩ rfl rfl hl.1 rfl (lv_room (Nat.le_of_ble_eq_true rfl)) dL_key_5 ⟨Nat.le_of_ble_eq_true rfl, Nat.le_of_ble_eq_true rfl⟩) (fun r_1 u_1 H locs hw hK1 hP hD hS => ?_)
  have hP : va_P (dC, dI) vwCl [(o_l, .inl (k_l, 1, .inr (.inl fo)))] H := hP
  have hD : va_D A [(o_l, .inl (k_l, 1, .inr (.inl fo)))] := hD
  obtain rfl : r_1 = 0 := hw
  refine lv_if_eq (tgt := 15) hx hb dL_key_8 (by decide) (fun c_2 => ?_) (fun c_2 => absurd c_2 (by decide))
  refine lv_lconst (v := 0) hx hb dL_key_15 (by decide) ?_
  refine va_last hx hb hK hP hD hS 0 1 rfl rfl (show ¬ ((0 : Int32) < 0 ∨ 1 ≤ (0 : Int32).toNatClampNeg) by decide) dL_key_16 (fun H locs hP hD hS => ?_)
  have hP : va_P (dC, dI) vwCl [(o_l, .inl (k_l, 1, .inr (.inl (vp_updL fo (0 : Int32).toNatClampNeg 0))))] H := hP
  have hD : va_D A [(o_l, .inl (k_l, 1, .inr (.inl (vp_updL fo (0 : Int32).toNatClampNeg 0))))] := hD
  refine lv_goto (tgt := 24) hx hb dL_key_17 (by decide) ?_
  refine lv_iconst (v := 0) hx hb dL_key_24 (by decide) ?_
  have hP9 := hP.sub (ws' := [(o_l, .inl (k_l, 1, .inr (.inl (vp_updL fo (0 : Int32).toNatClampNeg 0))))]) [0] rfl
  have hD9 := hD.sub (ws' := [(o_l, .inl (k_l, 1, .inr (.inl (vp_updL fo (0 : Int32).toNatClampNeg 0))))]) [0] (by decide) rfl
  have hK9 := hK.sub (tys' := [(k_d, .boolean), (k_l, .long)]) [0, 1] rfl
  exact W.iret (v := 0) hx hb hr (fun t9 ht hW => ⟨⟨0, (vp_updL fo (0 : Int32).toNatClampNeg 0), rfl, ⟨rfl, pk_uLs⟩, by rw [ht]; exact hP9, va_K.moved hW.alike hK9, hD9⟩, hS.F ht⟩) hS.2.2 dL_key_25
set_option maxHeartbeats 4000000 in
set_option maxRecDepth 100000 in
theorem w_line (l : Launch) (dC : Nat → ClassId) (dI : Nat → Nat → Nat) (a_k : Nat) (a_m : Nat) (a_t : Nat) (a_u : Nat) (a_i : Nat) (a_p : Nat) (b : Int32) (j : Nat) (o_l : Nat) (k_l : ClassId) (fo : Nat → Int64) (hb1 : b = 0 ∨ b = 1) (hj : j < 2) (sz : Nat) : Met l yL_line (Cond.codeWith yL_line cL_line 5 (some .int) [(0, 17, 20, 19)] :: zw) ({ frames := 1, cells := 0, slots := 0, locals := 23 }) (va_Pc [.ref a_k, .int (nI j), .int b, .ref o_l] (zc_P (dC, dI) [(a_k, .inr (6, [.ref a_m, .ref a_t, .ref a_u, .ref a_i, .ref a_p])), (a_i, .inr (1, [.int 0, .int 0, .int 7, .int 0, .int 0, .int 0, .int 0])), (o_l, .inl (k_l, 1, .inr (.inl fo)))] [(k_l, .long)] sz)) (va_Qi (fun r (u : Nat → Int64) => r = 0 ∧ u (0 : Int32).toNatClampNeg = (0 : Int64)) (fun (u : Nat → Int64) t9 => zc_B (dC, dI) (va_A [(a_k, .inr (6, [.ref a_m, .ref a_t, .ref a_u, .ref a_i, .ref a_p])), (a_i, .inr (1, [.int 0, .int 0, .int 7, .int 0, .int 0, .int 0, .int 0])), (o_l, .inl (k_l, 1, .inr (.inl fo)))] sz) [(o_l, .inl (k_l, 1, .inr (.inl u)))] [(k_l, .long)] t9) (va_A [(a_k, .inr (6, [.ref a_m, .ref a_t, .ref a_u, .ref a_i, .ref a_p])), (a_i, .inr (1, [.int 0, .int 0, .int 7, .int 0, .int 0, .int 0, .int 0])), (o_l, .inl (k_l, 1, .inr (.inl fo)))] sz)) 0 0 (va_A [(a_k, .inr (6, [.ref a_m, .ref a_t, .ref a_u, .ref a_i, .ref a_p])), (a_i, .inr (1, [.int 0, .int 0, .int 7, .int 0, .int 0, .int 0, .int 0])), (o_l, .inl (k_l, 1, .inr (.inl fo)))] sz) := by
  refine va_MetW (hh := [(0, 17, 20, 19)]) (cc := cL_line) (maxL := 5) (ret := (some .int)) (by decide) rfl ?_
  intro p e s m args below meth c s₁ B hml hv
  obtain ⟨rfl, hsz, hP, hK, hD0, hN⟩ := hv
  have hx := B.exec
  have hb := B.bytes
  have hr := B.returns
  have hts : ∀ w ∈ zw, w.before _ s = true := fun w h => atoms_spec (ws := (Cond.codeWith yL_line cL_line 5 (some .int) [(0, 17, 20, 19)] :: zw)) B.pre w (List.mem_cons_of_mem _ h)
  have hown : s.vm.findClass RL = some m.cls := findClass_of_methodNamed B.named
  have hlocks := B.notSynchronized
  subst hsz
  have hD := hD0.self (sz := s.heap.size)
  generalize hAe : va_A [(a_k, .inr (6, [.ref a_m, .ref a_t, .ref a_u, .ref a_i, .ref a_p])), (a_i, .inr (1, [.int 0, .int 0, .int 7, .int 0, .int 0, .int 0, .int 0])), (o_l, .inl (k_l, 1, .inr (.inl fo)))] s.heap.size = A at hD ⊢
  have hA : ∀ q : Nat, s.heap.size ≤ q → A q := fun q h => by rw [← hAe]; exact Or.inr h
  have hS : va_S A s.heap s.heap [] := va_S.rf
  have hP : va_P (dC, dI) vwCl [(a_k, .inr (6, [.ref a_m, .ref a_t, .ref a_u, .ref a_i, .ref a_p])), (a_i, .inr (1, [.int 0, .int 0, .int 7, .int 0, .int 0, .int 0, .int 0])), (o_l, .inl (k_l, 1, .inr (.inl fo)))] s.heap := hP
  have hl := lv_entry ([.ref a_k, .int (nI j), .int b, .ref o_l]) (n := 5) (Nat.le_of_ble_eq_true rfl)
  rw [lg_entry_eq]
  generalize (lg_sl ([.ref a_k, .int (nI j), .int b, .ref o_l]) ++ List.replicate (5 - (lg_sl ([.ref a_k, .int (nI j), .int b, .ref o_l])).length) Slot.unset).toArray = ls at hl ⊢
  have hl : lv_has ls 5 [(0, .ref a_k), (1, .int (nI j)), (2, .int b), (3, .ref o_l)] := hl
  refine lv_aload_n hx hb dL_line_0 rfl (lv_at hl 3 rfl) ?_
  refine lv_iconst (v := 0) hx hb dL_line_1 (by decide) ?_
  refine lv_aload_n hx hb dL_line_2 rfl (lv_at hl 0 rfl) ?_
  refine lv_iload_n hx hb dL_line_3 rfl (lv_at hl 1 rfl) ?_
  refine lv_iload_n hx hb dL_line_4 rfl (lv_at hl 2 rfl) ?_
  refine zc_i (wr := [(o_l, .inl (k_l, 1, .inr (.inl fo)))]) hP hD hS hA [0, 1] [2] rfl rfl (by decide) (by decide) (va_runV (As := [.int (nI j), .int b]) (rest := [.int 0, .ref o_l]) ⟨hx, hb, hml, hown, hts⟩ (c_lineN l dC dI a_k a_m a_t a_u a_i a_p b j hb1 hj _) (cwV 2 hts (zg_V zw_683 zw_684 zw_685 zw_83 zw_686) rfl rfl rfl (by decide +kernel) ⟨Nat.le_of_ble_eq_true rfl, Nat.le_of_ble_eq_true rfl⟩) ⟨zc_blind, va_recv hK hP (ci := 6) (q0 := 0) rfl rfl, zc_start hP hD hK hN [0, 1] [] rfl (by decide) rfl⟩ rfl rfl hl.1 rfl (lv_room (Nat.le_of_ble_eq_true rfl)) dL_line_5 ⟨Nat.le_of_ble_eq_true rfl, Nat.le_of_ble_eq_true rfl⟩) (fun r_1 u_1 H locs hw hK1 hP hD hS => ?_)
  have hP : va_P (dC, dI) vwCl [(o_l, .inl (k_l, 1, .inr (.inl fo)))] H := hP
  have hD : va_D A [(o_l, .inl (k_l, 1, .inr (.inl fo)))] := hD
  obtain rfl : r_1 = 0 := hw
  refine lv_if_eq (tgt := 15) hx hb dL_line_8 (by decide) (fun c_2 => ?_) (fun c_2 => absurd c_2 (by decide))
  refine lv_lconst (v := 0) hx hb dL_line_15 (by decide) ?_
  refine va_last hx hb hK hP hD hS 0 0 rfl rfl (show ¬ ((0 : Int32) < 0 ∨ 1 ≤ (0 : Int32).toNatClampNeg) by decide) dL_line_16 (fun H locs hP hD hS => ?_)
  have hP : va_P (dC, dI) vwCl [(o_l, .inl (k_l, 1, .inr (.inl (vp_updL fo (0 : Int32).toNatClampNeg 0))))] H := hP
  have hD : va_D A [(o_l, .inl (k_l, 1, .inr (.inl (vp_updL fo (0 : Int32).toNatClampNeg 0))))] := hD
  refine lv_goto (tgt := 24) hx hb dL_line_17 (by decide) ?_
  refine lv_iconst (v := 0) hx hb dL_line_24 (by decide) ?_
  have hP9 := hP.sub (ws' := [(o_l, .inl (k_l, 1, .inr (.inl (vp_updL fo (0 : Int32).toNatClampNeg 0))))]) [0] rfl
  have hD9 := hD.sub (ws' := [(o_l, .inl (k_l, 1, .inr (.inl (vp_updL fo (0 : Int32).toNatClampNeg 0))))]) [0] (by decide) rfl
  have hK9 := hK.sub (tys' := [(k_l, .long)]) [0] rfl
  exact W.iret (v := 0) hx hb hr (fun t9 ht hW => ⟨⟨0, (vp_updL fo (0 : Int32).toNatClampNeg 0), rfl, ⟨rfl, pk_uLs⟩, by rw [ht]; exact hP9, va_K.moved hW.alike hK9, hD9⟩, hS.F ht⟩) hS.2.2 dL_line_25
set_option maxHeartbeats 4000000 in
set_option maxRecDepth 100000 in
theorem w_about (l : Launch) (dC : Nat → ClassId) (dI : Nat → Nat → Nat) (a_k : Nat) (a_m : Nat) (a_t : Nat) (a_u : Nat) (a_i : Nat) (a_p : Nat) (a_o : Nat) (a_r : Nat) (a_f : Nat) (a_d : Nat) (a_b : Nat) (a_c : Nat) (a_q : Nat) (a_s : Nat) (k_r : ClassId) (tk : Int32) (t : Int32) (j : Nat) (o_l : Nat) (k_l : ClassId) (fo : Nat → Int64) (hj : j < 15) (sz : Nat) : Met l yL_about (Cond.codeWith yL_about cL_about 4 (some .int) [(0, 9, 12, 19)] :: zw) ({ frames := 2, cells := 0, slots := 0, locals := 41 }) (va_Pc [.ref a_k, .int (nI j), .ref o_l] (zc_P (dC, dI) [(a_k, .inr (6, [.ref a_m, .ref a_t, .ref a_u, .ref a_i, .ref a_p])), (a_t, .inr (5, [.int 0, .int 0, .int 0, .int 0, .int 0, .int 0, .int 0])), (a_u, .inr (2, [.ref a_d, .ref a_b, .ref a_c, .ref a_q, .int 0, .int 0, .int 0, .int 0, .ref a_s, .int 0, .int t])), (a_i, .inr (1, [.int 0, .int 0, .int 7, .int 0, .int 0, .int 0, .int 0])), (a_p, .inr (4, [.ref a_m, .ref a_t, .ref a_u, .ref a_i, .ref a_o, .ref a_r, .ref a_f, .int 0, .int 0, .int 0, .int tk])), (a_r, .inl (k_r, 8, .inl (fun _ => 0))), (a_f, .inr (0, [.int 0])), (o_l, .inl (k_l, 1, .inr (.inl fo)))] [(k_r, .int), (k_l, .long)] sz)) (va_Qi (fun r (u : Nat → Int64) => r = 0 ∧ u (0 : Int32).toNatClampNeg = (zz_ab j : Int32).toInt64) (fun (u : Nat → Int64) t9 => zc_B (dC, dI) (va_A [(a_k, .inr (6, [.ref a_m, .ref a_t, .ref a_u, .ref a_i, .ref a_p])), (a_t, .inr (5, [.int 0, .int 0, .int 0, .int 0, .int 0, .int 0, .int 0])), (a_u, .inr (2, [.ref a_d, .ref a_b, .ref a_c, .ref a_q, .int 0, .int 0, .int 0, .int 0, .ref a_s, .int 0, .int t])), (a_i, .inr (1, [.int 0, .int 0, .int 7, .int 0, .int 0, .int 0, .int 0])), (a_p, .inr (4, [.ref a_m, .ref a_t, .ref a_u, .ref a_i, .ref a_o, .ref a_r, .ref a_f, .int 0, .int 0, .int 0, .int tk])), (a_r, .inl (k_r, 8, .inl (fun _ => 0))), (a_f, .inr (0, [.int 0])), (o_l, .inl (k_l, 1, .inr (.inl fo)))] sz) [(o_l, .inl (k_l, 1, .inr (.inl u)))] [(k_r, .int), (k_l, .long)] t9) (va_A [(a_k, .inr (6, [.ref a_m, .ref a_t, .ref a_u, .ref a_i, .ref a_p])), (a_t, .inr (5, [.int 0, .int 0, .int 0, .int 0, .int 0, .int 0, .int 0])), (a_u, .inr (2, [.ref a_d, .ref a_b, .ref a_c, .ref a_q, .int 0, .int 0, .int 0, .int 0, .ref a_s, .int 0, .int t])), (a_i, .inr (1, [.int 0, .int 0, .int 7, .int 0, .int 0, .int 0, .int 0])), (a_p, .inr (4, [.ref a_m, .ref a_t, .ref a_u, .ref a_i, .ref a_o, .ref a_r, .ref a_f, .int 0, .int 0, .int 0, .int tk])), (a_r, .inl (k_r, 8, .inl (fun _ => 0))), (a_f, .inr (0, [.int 0])), (o_l, .inl (k_l, 1, .inr (.inl fo)))] sz)) 0 0 (va_A [(a_k, .inr (6, [.ref a_m, .ref a_t, .ref a_u, .ref a_i, .ref a_p])), (a_t, .inr (5, [.int 0, .int 0, .int 0, .int 0, .int 0, .int 0, .int 0])), (a_u, .inr (2, [.ref a_d, .ref a_b, .ref a_c, .ref a_q, .int 0, .int 0, .int 0, .int 0, .ref a_s, .int 0, .int t])), (a_i, .inr (1, [.int 0, .int 0, .int 7, .int 0, .int 0, .int 0, .int 0])), (a_p, .inr (4, [.ref a_m, .ref a_t, .ref a_u, .ref a_i, .ref a_o, .ref a_r, .ref a_f, .int 0, .int 0, .int 0, .int tk])), (a_r, .inl (k_r, 8, .inl (fun _ => 0))), (a_f, .inr (0, [.int 0])), (o_l, .inl (k_l, 1, .inr (.inl fo)))] sz) := by
  refine va_MetW (hh := [(0, 9, 12, 19)]) (cc := cL_about) (maxL := 4) (ret := (some .int)) (by decide) rfl ?_
  intro p e s m args below meth c s₁ B hml hv
  obtain ⟨rfl, hsz, hP, hK, hD0, hN⟩ := hv
  have hx := B.exec
  have hb := B.bytes
  have hr := B.returns
  have hts : ∀ w ∈ zw, w.before _ s = true := fun w h => atoms_spec (ws := (Cond.codeWith yL_about cL_about 4 (some .int) [(0, 9, 12, 19)] :: zw)) B.pre w (List.mem_cons_of_mem _ h)
  have hown : s.vm.findClass RL = some m.cls := findClass_of_methodNamed B.named
  have hlocks := B.notSynchronized
  subst hsz
  have hD := hD0.self (sz := s.heap.size)
  generalize hAe : va_A [(a_k, .inr (6, [.ref a_m, .ref a_t, .ref a_u, .ref a_i, .ref a_p])), (a_t, .inr (5, [.int 0, .int 0, .int 0, .int 0, .int 0, .int 0, .int 0])), (a_u, .inr (2, [.ref a_d, .ref a_b, .ref a_c, .ref a_q, .int 0, .int 0, .int 0, .int 0, .ref a_s, .int 0, .int t])), (a_i, .inr (1, [.int 0, .int 0, .int 7, .int 0, .int 0, .int 0, .int 0])), (a_p, .inr (4, [.ref a_m, .ref a_t, .ref a_u, .ref a_i, .ref a_o, .ref a_r, .ref a_f, .int 0, .int 0, .int 0, .int tk])), (a_r, .inl (k_r, 8, .inl (fun _ => 0))), (a_f, .inr (0, [.int 0])), (o_l, .inl (k_l, 1, .inr (.inl fo)))] s.heap.size = A at hD ⊢
  have hA : ∀ q : Nat, s.heap.size ≤ q → A q := fun q h => by rw [← hAe]; exact Or.inr h
  have hS : va_S A s.heap s.heap [] := va_S.rf
  have hP : va_P (dC, dI) vwCl [(a_k, .inr (6, [.ref a_m, .ref a_t, .ref a_u, .ref a_i, .ref a_p])), (a_t, .inr (5, [.int 0, .int 0, .int 0, .int 0, .int 0, .int 0, .int 0])), (a_u, .inr (2, [.ref a_d, .ref a_b, .ref a_c, .ref a_q, .int 0, .int 0, .int 0, .int 0, .ref a_s, .int 0, .int t])), (a_i, .inr (1, [.int 0, .int 0, .int 7, .int 0, .int 0, .int 0, .int 0])), (a_p, .inr (4, [.ref a_m, .ref a_t, .ref a_u, .ref a_i, .ref a_o, .ref a_r, .ref a_f, .int 0, .int 0, .int 0, .int tk])), (a_r, .inl (k_r, 8, .inl (fun _ => 0))), (a_f, .inr (0, [.int 0])), (o_l, .inl (k_l, 1, .inr (.inl fo)))] s.heap := hP
  have hl := lv_entry ([.ref a_k, .int (nI j), .ref o_l]) (n := 4) (Nat.le_of_ble_eq_true rfl)
  rw [lg_entry_eq]
  generalize (lg_sl ([.ref a_k, .int (nI j), .ref o_l]) ++ List.replicate (4 - (lg_sl ([.ref a_k, .int (nI j), .ref o_l])).length) Slot.unset).toArray = ls at hl ⊢
  have hl : lv_has ls 4 [(0, .ref a_k), (1, .int (nI j)), (2, .ref o_l)] := hl
  refine lv_aload_n hx hb dL_about_0 rfl (lv_at hl 2 rfl) ?_
  refine lv_iconst (v := 0) hx hb dL_about_1 (by decide) ?_
  refine lv_aload_n hx hb dL_about_2 rfl (lv_at hl 0 rfl) ?_
  refine lv_iload_n hx hb dL_about_3 rfl (lv_at hl 1 rfl) ?_
  refine zc_i (wr := [(o_l, .inl (k_l, 1, .inr (.inl fo)))]) hP hD hS hA [0, 1, 2, 3, 4, 5, 6] [7] rfl rfl (by decide) (by decide) (va_runV (As := [.int (nI j)]) (rest := [.int 0, .ref o_l]) ⟨hx, hb, hml, hown, hts⟩ (c_aboutN l dC dI a_k a_m a_t a_u a_i a_p a_o a_r a_f a_d a_b a_c a_q a_s k_r tk t j hj _) (cwV 1 hts (zg_V zw_691 zw_692 zw_693 zw_83 zw_694) rfl rfl rfl (by decide +kernel) ⟨Nat.le_of_ble_eq_true rfl, Nat.le_of_ble_eq_true rfl⟩) ⟨zc_blind, va_recv hK hP (ci := 6) (q0 := 0) rfl rfl, zc_start hP hD hK hN [0, 1, 2, 3, 4, 5, 6] [0] rfl (by decide) rfl⟩ rfl rfl hl.1 rfl (lv_room (Nat.le_of_ble_eq_true rfl)) dL_about_4 ⟨Nat.le_of_ble_eq_true rfl, Nat.le_of_ble_eq_true rfl⟩) (fun r_1 u_1 H locs hw hK1 hP hD hS => ?_)
  have hP : va_P (dC, dI) vwCl [(o_l, .inl (k_l, 1, .inr (.inl fo)))] H := hP
  have hD : va_D A [(o_l, .inl (k_l, 1, .inr (.inl fo)))] := hD
  obtain rfl : r_1 = zz_ab j := hw
  refine lv_i2l (v := (zz_ab j).toInt64) hx hb dL_about_7 rfl ?_
  refine va_last hx hb hK hP hD hS 0 1 rfl rfl (show ¬ ((0 : Int32) < 0 ∨ 1 ≤ (0 : Int32).toNatClampNeg) by decide) dL_about_8 (fun H locs hP hD hS => ?_)
  have hP : va_P (dC, dI) vwCl [(o_l, .inl (k_l, 1, .inr (.inl (vp_updL fo (0 : Int32).toNatClampNeg ((zz_ab j : Int32).toInt64)))))] H := hP
  have hD : va_D A [(o_l, .inl (k_l, 1, .inr (.inl (vp_updL fo (0 : Int32).toNatClampNeg ((zz_ab j : Int32).toInt64)))))] := hD
  refine lv_goto (tgt := 15) hx hb dL_about_9 (by decide) ?_
  refine lv_iconst (v := 0) hx hb dL_about_15 (by decide) ?_
  have hP9 := hP.sub (ws' := [(o_l, .inl (k_l, 1, .inr (.inl (vp_updL fo (0 : Int32).toNatClampNeg ((zz_ab j : Int32).toInt64)))))]) [0] rfl
  have hD9 := hD.sub (ws' := [(o_l, .inl (k_l, 1, .inr (.inl (vp_updL fo (0 : Int32).toNatClampNeg ((zz_ab j : Int32).toInt64)))))]) [0] (by decide) rfl
  have hK9 := hK.sub (tys' := [(k_r, .int), (k_l, .long)]) [0, 1] rfl
  exact W.iret (v := 0) hx hb hr (fun t9 ht hW => ⟨⟨0, (vp_updL fo (0 : Int32).toNatClampNeg ((zz_ab j : Int32).toInt64)), rfl, ⟨rfl, pk_uLs⟩, by rw [ht]; exact hP9, va_K.moved hW.alike hK9, hD9⟩, hS.F ht⟩) hS.2.2 dL_about_16
set_option maxHeartbeats 4000000 in
set_option maxRecDepth 100000 in
theorem w_shown (l : Launch) (dC : Nat → ClassId) (dI : Nat → Nat → Nat) (a_k : Nat) (a_m : Nat) (a_t : Nat) (a_u : Nat) (a_i : Nat) (a_p : Nat) (a_d : Nat) (a_b : Nat) (a_c : Nat) (a_q : Nat) (a_s : Nat) (k_s : ClassId) (t : Int32) (k : Int32) (o_l : Nat) (k_l : ClassId) (fo : Nat → Int64) (hk : vp_in k 16) (sz : Nat) : Met l yL_shown (Cond.codeWith yL_shown cL_shown 4 (some .int) [(0, 9, 12, 19)] :: zw) ({ frames := 1, cells := 0, slots := 0, locals := 21 }) (va_Pc [.ref a_k, .int k, .ref o_l] (zc_P (dC, dI) [(a_k, .inr (6, [.ref a_m, .ref a_t, .ref a_u, .ref a_i, .ref a_p])), (a_u, .inr (2, [.ref a_d, .ref a_b, .ref a_c, .ref a_q, .int 0, .int 0, .int 0, .int 0, .ref a_s, .int 0, .int t])), (a_s, .inl (k_s, 16, .inl (fun _ => 0))), (o_l, .inl (k_l, 1, .inr (.inl fo)))] [(k_s, .int), (k_l, .long)] sz)) (va_Qi (fun r (u : Nat → Int64) => r = 0 ∧ u (0 : Int32).toNatClampNeg = (0 : Int32).toInt64) (fun (u : Nat → Int64) t9 => zc_B (dC, dI) (va_A [(a_k, .inr (6, [.ref a_m, .ref a_t, .ref a_u, .ref a_i, .ref a_p])), (a_u, .inr (2, [.ref a_d, .ref a_b, .ref a_c, .ref a_q, .int 0, .int 0, .int 0, .int 0, .ref a_s, .int 0, .int t])), (a_s, .inl (k_s, 16, .inl (fun _ => 0))), (o_l, .inl (k_l, 1, .inr (.inl fo)))] sz) [(o_l, .inl (k_l, 1, .inr (.inl u)))] [(k_s, .int), (k_l, .long)] t9) (va_A [(a_k, .inr (6, [.ref a_m, .ref a_t, .ref a_u, .ref a_i, .ref a_p])), (a_u, .inr (2, [.ref a_d, .ref a_b, .ref a_c, .ref a_q, .int 0, .int 0, .int 0, .int 0, .ref a_s, .int 0, .int t])), (a_s, .inl (k_s, 16, .inl (fun _ => 0))), (o_l, .inl (k_l, 1, .inr (.inl fo)))] sz)) 0 0 (va_A [(a_k, .inr (6, [.ref a_m, .ref a_t, .ref a_u, .ref a_i, .ref a_p])), (a_u, .inr (2, [.ref a_d, .ref a_b, .ref a_c, .ref a_q, .int 0, .int 0, .int 0, .int 0, .ref a_s, .int 0, .int t])), (a_s, .inl (k_s, 16, .inl (fun _ => 0))), (o_l, .inl (k_l, 1, .inr (.inl fo)))] sz) := by
  refine va_MetW (hh := [(0, 9, 12, 19)]) (cc := cL_shown) (maxL := 4) (ret := (some .int)) (by decide) rfl ?_
  intro p e s m args below meth c s₁ B hml hv
  obtain ⟨rfl, hsz, hP, hK, hD0, hN⟩ := hv
  have hx := B.exec
  have hb := B.bytes
  have hr := B.returns
  have hts : ∀ w ∈ zw, w.before _ s = true := fun w h => atoms_spec (ws := (Cond.codeWith yL_shown cL_shown 4 (some .int) [(0, 9, 12, 19)] :: zw)) B.pre w (List.mem_cons_of_mem _ h)
  have hown : s.vm.findClass RL = some m.cls := findClass_of_methodNamed B.named
  have hlocks := B.notSynchronized
  subst hsz
  have hD := hD0.self (sz := s.heap.size)
  generalize hAe : va_A [(a_k, .inr (6, [.ref a_m, .ref a_t, .ref a_u, .ref a_i, .ref a_p])), (a_u, .inr (2, [.ref a_d, .ref a_b, .ref a_c, .ref a_q, .int 0, .int 0, .int 0, .int 0, .ref a_s, .int 0, .int t])), (a_s, .inl (k_s, 16, .inl (fun _ => 0))), (o_l, .inl (k_l, 1, .inr (.inl fo)))] s.heap.size = A at hD ⊢
  have hA : ∀ q : Nat, s.heap.size ≤ q → A q := fun q h => by rw [← hAe]; exact Or.inr h
  have hS : va_S A s.heap s.heap [] := va_S.rf
  have hP : va_P (dC, dI) vwCl [(a_k, .inr (6, [.ref a_m, .ref a_t, .ref a_u, .ref a_i, .ref a_p])), (a_u, .inr (2, [.ref a_d, .ref a_b, .ref a_c, .ref a_q, .int 0, .int 0, .int 0, .int 0, .ref a_s, .int 0, .int t])), (a_s, .inl (k_s, 16, .inl (fun _ => 0))), (o_l, .inl (k_l, 1, .inr (.inl fo)))] s.heap := hP
  have hl := lv_entry ([.ref a_k, .int k, .ref o_l]) (n := 4) (Nat.le_of_ble_eq_true rfl)
  rw [lg_entry_eq]
  generalize (lg_sl ([.ref a_k, .int k, .ref o_l]) ++ List.replicate (4 - (lg_sl ([.ref a_k, .int k, .ref o_l])).length) Slot.unset).toArray = ls at hl ⊢
  have hl : lv_has ls 4 [(0, .ref a_k), (1, .int k), (2, .ref o_l)] := hl
  refine lv_aload_n hx hb dL_shown_0 rfl (lv_at hl 2 rfl) ?_
  refine lv_iconst (v := 0) hx hb dL_shown_1 (by decide) ?_
  refine lv_aload_n hx hb dL_shown_2 rfl (lv_at hl 0 rfl) ?_
  refine lv_iload_n hx hb dL_shown_3 rfl (lv_at hl 1 rfl) ?_
  refine zc_i (wr := [(o_l, .inl (k_l, 1, .inr (.inl fo)))]) hP hD hS hA [0, 1, 2] [3] rfl rfl (by decide) (by decide) (va_runV (As := [.int k]) (rest := [.int 0, .ref o_l]) ⟨hx, hb, hml, hown, hts⟩ (c_shown l dC dI a_k a_m a_t a_u a_i a_p a_d a_b a_c a_q a_s k_s t k hk _) (cwV 1 hts (zg_V zw_700 zw_701 zw_702 zw_83 zw_703) rfl rfl rfl (by decide +kernel) ⟨Nat.le_of_ble_eq_true rfl, Nat.le_of_ble_eq_true rfl⟩) ⟨zc_blind, va_recv hK hP (ci := 6) (q0 := 0) rfl rfl, zc_start hP hD hK hN [0, 1, 2] [0] rfl (by decide) rfl⟩ rfl rfl hl.1 rfl (lv_room (Nat.le_of_ble_eq_true rfl)) dL_shown_4 ⟨Nat.le_of_ble_eq_true rfl, Nat.le_of_ble_eq_true rfl⟩) (fun r_1 u_1 H locs hw hK1 hP hD hS => ?_)
  have hP : va_P (dC, dI) vwCl [(o_l, .inl (k_l, 1, .inr (.inl fo)))] H := hP
  have hD : va_D A [(o_l, .inl (k_l, 1, .inr (.inl fo)))] := hD
  obtain rfl : r_1 = 0 := hw
  refine lv_i2l (v := (0 : Int32).toInt64) hx hb dL_shown_7 rfl ?_
  refine va_last hx hb hK hP hD hS 0 1 rfl rfl (show ¬ ((0 : Int32) < 0 ∨ 1 ≤ (0 : Int32).toNatClampNeg) by decide) dL_shown_8 (fun H locs hP hD hS => ?_)
  have hP : va_P (dC, dI) vwCl [(o_l, .inl (k_l, 1, .inr (.inl (vp_updL fo (0 : Int32).toNatClampNeg ((0 : Int32).toInt64)))))] H := hP
  have hD : va_D A [(o_l, .inl (k_l, 1, .inr (.inl (vp_updL fo (0 : Int32).toNatClampNeg ((0 : Int32).toInt64)))))] := hD
  refine lv_goto (tgt := 15) hx hb dL_shown_9 (by decide) ?_
  refine lv_iconst (v := 0) hx hb dL_shown_15 (by decide) ?_
  have hP9 := hP.sub (ws' := [(o_l, .inl (k_l, 1, .inr (.inl (vp_updL fo (0 : Int32).toNatClampNeg ((0 : Int32).toInt64)))))]) [0] rfl
  have hD9 := hD.sub (ws' := [(o_l, .inl (k_l, 1, .inr (.inl (vp_updL fo (0 : Int32).toNatClampNeg ((0 : Int32).toInt64)))))]) [0] (by decide) rfl
  have hK9 := hK.sub (tys' := [(k_s, .int), (k_l, .long)]) [0, 1] rfl
  exact W.iret (v := 0) hx hb hr (fun t9 ht hW => ⟨⟨0, (vp_updL fo (0 : Int32).toNatClampNeg ((0 : Int32).toInt64)), rfl, ⟨rfl, pk_uLs⟩, by rw [ht]; exact hP9, va_K.moved hW.alike hK9, hD9⟩, hS.F ht⟩) hS.2.2 dL_shown_16
set_option maxHeartbeats 4000000 in
set_option maxRecDepth 100000 in
theorem w_set (l : Launch) (dC : Nat → ClassId) (dI : Nat → Nat → Nat) (a_k : Nat) (a_m : Nat) (a_t : Nat) (a_u : Nat) (a_i : Nat) (a_p : Nat) (a_o : Nat) (a_r : Nat) (a_f : Nat) (k_r : ClassId) (pc : Int32) (tk : Int32) (v : Int32) (j : Nat) (hj : j < 10) (sz : Nat) : Met l yL_set (Cond.codeWith yL_set cL_set 4 (some .int) [(0, 6, 9, 19)] :: zw) ({ frames := 1, cells := 0, slots := 0, locals := 22 }) (va_Pc [.ref a_k, .int (nI j), .int v] (zc_P (dC, dI) [(a_k, .inr (6, [.ref a_m, .ref a_t, .ref a_u, .ref a_i, .ref a_p])), (a_p, .inr (4, [.ref a_m, .ref a_t, .ref a_u, .ref a_i, .ref a_o, .ref a_r, .ref a_f, .int 0, .int pc, .int 0, .int tk])), (a_r, .inl (k_r, 8, .inl (fun _ => 0))), (a_f, .inr (0, [.int 0]))] [(k_r, .int)] sz)) (va_Qi (fun r _ => r = 0) (fun (u : Unit) t9 => zc_B (dC, dI) (va_A [(a_k, .inr (6, [.ref a_m, .ref a_t, .ref a_u, .ref a_i, .ref a_p])), (a_p, .inr (4, [.ref a_m, .ref a_t, .ref a_u, .ref a_i, .ref a_o, .ref a_r, .ref a_f, .int 0, .int pc, .int 0, .int tk])), (a_r, .inl (k_r, 8, .inl (fun _ => 0))), (a_f, .inr (0, [.int 0]))] sz) [] [(k_r, .int)] t9) (va_A [(a_k, .inr (6, [.ref a_m, .ref a_t, .ref a_u, .ref a_i, .ref a_p])), (a_p, .inr (4, [.ref a_m, .ref a_t, .ref a_u, .ref a_i, .ref a_o, .ref a_r, .ref a_f, .int 0, .int pc, .int 0, .int tk])), (a_r, .inl (k_r, 8, .inl (fun _ => 0))), (a_f, .inr (0, [.int 0]))] sz)) 0 0 (va_A [(a_k, .inr (6, [.ref a_m, .ref a_t, .ref a_u, .ref a_i, .ref a_p])), (a_p, .inr (4, [.ref a_m, .ref a_t, .ref a_u, .ref a_i, .ref a_o, .ref a_r, .ref a_f, .int 0, .int pc, .int 0, .int tk])), (a_r, .inl (k_r, 8, .inl (fun _ => 0))), (a_f, .inr (0, [.int 0]))] sz) := by
  refine va_MetW (hh := [(0, 6, 9, 19)]) (cc := cL_set) (maxL := 4) (ret := (some .int)) (by decide) rfl ?_
  intro p e s m args below meth c s₁ B hml hv
  obtain ⟨rfl, hsz, hP, hK, hD0, hN⟩ := hv
  have hx := B.exec
  have hb := B.bytes
  have hr := B.returns
  have hts : ∀ w ∈ zw, w.before _ s = true := fun w h => atoms_spec (ws := (Cond.codeWith yL_set cL_set 4 (some .int) [(0, 6, 9, 19)] :: zw)) B.pre w (List.mem_cons_of_mem _ h)
  have hown : s.vm.findClass RL = some m.cls := findClass_of_methodNamed B.named
  have hlocks := B.notSynchronized
  subst hsz
  have hD := hD0.self (sz := s.heap.size)
  generalize hAe : va_A [(a_k, .inr (6, [.ref a_m, .ref a_t, .ref a_u, .ref a_i, .ref a_p])), (a_p, .inr (4, [.ref a_m, .ref a_t, .ref a_u, .ref a_i, .ref a_o, .ref a_r, .ref a_f, .int 0, .int pc, .int 0, .int tk])), (a_r, .inl (k_r, 8, .inl (fun _ => 0))), (a_f, .inr (0, [.int 0]))] s.heap.size = A at hD ⊢
  have hA : ∀ q : Nat, s.heap.size ≤ q → A q := fun q h => by rw [← hAe]; exact Or.inr h
  have hS : va_S A s.heap s.heap [] := va_S.rf
  have hP : va_P (dC, dI) vwCl [(a_k, .inr (6, [.ref a_m, .ref a_t, .ref a_u, .ref a_i, .ref a_p])), (a_p, .inr (4, [.ref a_m, .ref a_t, .ref a_u, .ref a_i, .ref a_o, .ref a_r, .ref a_f, .int 0, .int pc, .int 0, .int tk])), (a_r, .inl (k_r, 8, .inl (fun _ => 0))), (a_f, .inr (0, [.int 0]))] s.heap := hP
  have hl := lv_entry ([.ref a_k, .int (nI j), .int v]) (n := 4) (Nat.le_of_ble_eq_true rfl)
  rw [lg_entry_eq]
  generalize (lg_sl ([.ref a_k, .int (nI j), .int v]) ++ List.replicate (4 - (lg_sl ([.ref a_k, .int (nI j), .int v])).length) Slot.unset).toArray = ls at hl ⊢
  have hl : lv_has ls 4 [(0, .ref a_k), (1, .int (nI j)), (2, .int v)] := hl
  refine lv_aload_n hx hb dL_set_0 rfl (lv_at hl 0 rfl) ?_
  refine lv_iload_n hx hb dL_set_1 rfl (lv_at hl 1 rfl) ?_
  refine lv_iload_n hx hb dL_set_2 rfl (lv_at hl 2 rfl) ?_
  refine zc_v (wr := []) hP hD hS hA [0, 1, 2, 3] [] rfl rfl (by decide) (by decide) (va_runV (As := [.int (nI j), .int v]) (rest := []) ⟨hx, hb, hml, hown, hts⟩ (c_setN l dC dI a_k a_m a_t a_u a_i a_p a_o a_r a_f k_r pc tk v j hj _) (cwV 2 hts (zg_V zw_708 zw_709 zw_710 zw_83 zw_711) rfl rfl rfl (by decide +kernel) ⟨Nat.le_of_ble_eq_true rfl, Nat.le_of_ble_eq_true rfl⟩) ⟨zc_blind, va_recv hK hP (ci := 6) (q0 := 0) rfl rfl, zc_start hP hD hK hN [0, 1, 2, 3] [0] rfl (by decide) rfl⟩ rfl rfl hl.1 rfl (lv_room (Nat.le_of_ble_eq_true rfl)) dL_set_3 ⟨Nat.le_of_ble_eq_true rfl, Nat.le_of_ble_eq_true rfl⟩) (fun u_1 H locs hw hK1 hP hD hS => ?_)
  have hP : va_P (dC, dI) vwCl [] H := hP
  have hD : va_D A [] := hD
  refine lv_goto (tgt := 12) hx hb dL_set_6 (by decide) ?_
  refine lv_iconst (v := 0) hx hb dL_set_12 (by decide) ?_
  have hP9 := hP.sub (ws' := []) [] rfl
  have hD9 := hD.sub (ws' := []) [] (by decide) rfl
  have hK9 := hK.sub (tys' := [(k_r, .int)]) [0] rfl
  exact W.iret (v := 0) hx hb hr (fun t9 ht hW => ⟨⟨0, (), rfl, rfl, by rw [ht]; exact hP9, va_K.moved hW.alike hK9, hD9⟩, hS.F ht⟩) hS.2.2 dL_set_13
