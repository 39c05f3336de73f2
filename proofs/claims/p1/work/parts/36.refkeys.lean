theorem dX7_key_15 : decode cX7_key 15 = .ok (.iconst 0, 1) := by decide +kernel
theorem dX7_key_28 : decode cX7_key 28 = .ok (.aload_n 0, 1) := by decide +kernel
theorem dX7_key_29 : decode cX7_key 29 = .ok (.getfield 24, 3) := by decide +kernel
theorem dX7_key_32 : decode cX7_key 32 = .ok (.iload_n 1, 1) := by decide +kernel
theorem dX7_key_33 : decode cX7_key 33 = .ok (.baload, 1) := by decide +kernel
theorem dX7_key_34 : decode cX7_key 34 = .ok (.istore_n 3, 1) := by decide +kernel
theorem dX7_key_35 : decode cX7_key 35 = .ok (.aload_n 0, 1) := by decide +kernel
theorem dX7_key_36 : decode cX7_key 36 = .ok (.getfield 24, 3) := by decide +kernel
theorem dX7_key_39 : decode cX7_key 39 = .ok (.iload_n 1, 1) := by decide +kernel
theorem dX7_key_40 : decode cX7_key 40 = .ok (.iload_n 2, 1) := by decide +kernel
theorem dX7_key_41 : decode cX7_key 41 = .ok (.bastore, 1) := by decide +kernel
theorem dX7_key_42 : decode cX7_key 42 = .ok (.iload_n 3, 1) := by decide +kernel
theorem dX7_key_43 : decode cX7_key 43 = .ok (.ireturn, 1) := by decide +kernel
theorem dX7_line_14 : decode cX7_line 14 = .ok (.iconst 0, 1) := by decide +kernel
theorem dX7_line_27 : decode cX7_line 27 = .ok (.aload_n 0, 1) := by decide +kernel
theorem dX7_line_28 : decode cX7_line 28 = .ok (.getfield 20, 3) := by decide +kernel
theorem dX7_line_31 : decode cX7_line 31 = .ok (.iload_n 1, 1) := by decide +kernel
theorem dX7_line_32 : decode cX7_line 32 = .ok (.baload, 1) := by decide +kernel
theorem dX7_line_33 : decode cX7_line 33 = .ok (.istore_n 3, 1) := by decide +kernel
theorem dX7_line_34 : decode cX7_line 34 = .ok (.aload_n 0, 1) := by decide +kernel
theorem dX7_line_35 : decode cX7_line 35 = .ok (.getfield 20, 3) := by decide +kernel
theorem dX7_line_38 : decode cX7_line 38 = .ok (.iload_n 1, 1) := by decide +kernel
theorem dX7_line_39 : decode cX7_line 39 = .ok (.iload_n 2, 1) := by decide +kernel
theorem dX7_line_40 : decode cX7_line 40 = .ok (.bastore, 1) := by decide +kernel
theorem dX7_line_41 : decode cX7_line 41 = .ok (.iload_n 3, 1) := by decide +kernel
theorem dX7_line_42 : decode cX7_line 42 = .ok (.ireturn, 1) := by decide +kernel
theorem dX7_shown_15 : decode cX7_shown 15 = .ok (.iconst 0, 1) := by decide +kernel
theorem dX7_shown_26 : decode cX7_shown 26 = .ok (.aload_n 0, 1) := by decide +kernel
theorem dX7_shown_27 : decode cX7_shown 27 = .ok (.getfield 36, 3) := by decide +kernel
theorem dX7_shown_30 : decode cX7_shown 30 = .ok (.iload_n 1, 1) := by decide +kernel
theorem dX7_shown_31 : decode cX7_shown 31 = .ok (.iaload, 1) := by decide +kernel
theorem dX7_shown_32 : decode cX7_shown 32 = .ok (.goto 4, 3) := by decide +kernel
theorem dX7_status_0 : decode cX7_status 0 = .ok (.aload_n 0, 1) := by decide +kernel
theorem dX7_status_1 : decode cX7_status 1 = .ok (.getfield 101, 3) := by decide +kernel
theorem dX7_status_11 : decode cX7_status 11 = .ok (.bipush 8, 2) := by decide +kernel
theorem dX7_status_13 : decode cX7_status 13 = .ok (.if_icmp .ne 8, 3) := by decide +kernel
theorem dX7_status_21 : decode cX7_status 21 = .ok (.iconst 0, 1) := by decide +kernel
theorem dX7_status_22 : decode cX7_status 22 = .ok (.ior, 1) := by decide +kernel
theorem dX7_status_23 : decode cX7_status 23 = .ok (.aload_n 0, 1) := by decide +kernel
theorem dX7_status_24 : decode cX7_status 24 = .ok (.getfield 104, 3) := by decide +kernel
theorem dX7_status_27 : decode cX7_status 27 = .ok (.ifCond .eq 8, 3) := by decide +kernel
theorem dX7_status_35 : decode cX7_status 35 = .ok (.iconst 0, 1) := by decide +kernel
theorem dX7_status_36 : decode cX7_status 36 = .ok (.ior, 1) := by decide +kernel
theorem dX7_status_37 : decode cX7_status 37 = .ok (.aload_n 0, 1) := by decide +kernel
theorem dX7_status_38 : decode cX7_status 38 = .ok (.getfield 108, 3) := by decide +kernel
theorem dX7_status_4 : decode cX7_status 4 = .ok (.bipush 7, 2) := by decide +kernel
theorem dX7_status_41 : decode cX7_status 41 = .ok (.ifCond .eq 8, 3) := by decide +kernel
theorem dX7_status_49 : decode cX7_status 49 = .ok (.iconst 0, 1) := by decide +kernel
theorem dX7_status_50 : decode cX7_status 50 = .ok (.ior, 1) := by decide +kernel
theorem dX7_status_51 : decode cX7_status 51 = .ok (.ireturn, 1) := by decide +kernel
theorem dX7_status_6 : decode cX7_status 6 = .ok (.iand, 1) := by decide +kernel
theorem dX7_status_7 : decode cX7_status 7 = .ok (.aload_n 0, 1) := by decide +kernel
theorem dX7_status_8 : decode cX7_status 8 = .ok (.getfield 101, 3) := by decide +kernel
set_option maxHeartbeats 4000000 in
set_option maxRecDepth 100000 in
theorem r_key (l : Launch) (dC : Nat → ClassId) (dI : Nat → Nat → Nat) (b_o : Nat) (b_m : Nat) (b_r : Nat) (b_l : Nat) (b_d : Nat) (b_w : Nat) (b_c : Nat) (b_q : Nat) (b_s : Nat) (j_d : ClassId) (pc : Int32) (tk : Int32) (g : Int32) (th : Int32) (k : Int32) (b : Int32) (hk : vp_in k 16) (sz : Nat) : Met l yX7_key (zq yX7_key cX7_key 4 (some .boolean)) ({ frames := 0, cells := 0, slots := 0, locals := 0 }) (va_Pc [.ref b_o, .int k, .int b] (zc_P (dC, dI) [(b_o, .inr (7, [.ref b_m, .ref b_r, .int 0, .int pc, .int tk, .int 0, .int 0, .int 0, .int 7, .int 0, .ref b_l, .int 0, .int 0, .int 0, .int 0, .int 0, .int 0, .int 0, .int 0, .int g, .ref b_d, .ref b_w, .ref b_c, .int 0, .ref b_q, .int 0, .int 0, .int 0, .ref b_s, .int th])), (b_d, .inl (j_d, 16, .inl (fun _ => 0)))] [(j_d, .boolean)] sz)) (va_Qi (fun r _ => r = 0) (fun (u : Unit) t9 => zc_B (dC, dI) (va_A [(b_o, .inr (7, [.ref b_m, .ref b_r, .int 0, .int pc, .int tk, .int 0, .int 0, .int 0, .int 7, .int 0, .ref b_l, .int 0, .int 0, .int 0, .int 0, .int 0, .int 0, .int 0, .int 0, .int g, .ref b_d, .ref b_w, .ref b_c, .int 0, .ref b_q, .int 0, .int 0, .int 0, .ref b_s, .int th])), (b_d, .inl (j_d, 16, .inl (fun _ => 0)))] sz) [(b_o, .inr (7, [.ref b_m, .ref b_r, .int 0, .int pc, .int tk, .int 0, .int 0, .int 0, .int 7, .int 0, .ref b_l, .int 0, .int 0, .int 0, .int 0, .int 0, .int 0, .int 0, .int 0, .int g, .ref b_d, .ref b_w, .ref b_c, .int 0, .ref b_q, .int 0, .int 0, .int 0, .ref b_s, .int 0]))] [(j_d, .boolean)] t9) (va_A [(b_o, .inr (7, [.ref b_m, .ref b_r, .int 0, .int pc, .int tk, .int 0, .int 0, .int 0, .int 7, .int 0, .ref b_l, .int 0, .int 0, .int 0, .int 0, .int 0, .int 0, .int 0, .int 0, .int g, .ref b_d, .ref b_w, .ref b_c, .int 0, .ref b_q, .int 0, .int 0, .int 0, .ref b_s, .int th])), (b_d, .inl (j_d, 16, .inl (fun _ => 0)))] sz)) 0 0 (va_A [(b_o, .inr (7, [.ref b_m, .ref b_r, .int 0, .int pc, .int tk, .int 0, .int 0, .int 0, .int 7, .int 0, .ref b_l, .int 0, .int 0, .int 0, .int 0, .int 0, .int 0, .int 0, .int 0, .int g, .ref b_d, .ref b_w, .ref b_c, .int 0, .ref b_q, .int 0, .int 0, .int 0, .ref b_s, .int th])), (b_d, .inl (j_d, 16, .inl (fun _ => 0)))] sz) := by
  refine Met.ofW (cc := cX7_key) (maxL := 4) (ret := (some .boolean)) (by decide) rfl ?_
  intro p e s m args below meth c s₁ B hml hv
  obtain ⟨rfl, hsz, hP, hK, hD0, hN⟩ := hv
  have hx := B.exec
  have hb := B.bytes
  have hr := B.returns
  have hts : ∀ w ∈ zw, w.before _ s = true := fun w h => atoms_spec (ws := (zq yX7_key cX7_key 4 (some .boolean))) B.pre w (List.mem_cons_of_mem _ h)
  have hown : s.vm.findClass RX7 = some m.cls := findClass_of_methodNamed B.named
  have hlocks := B.notSynchronized
  subst hsz
  have hD := hD0.self (sz := s.heap.size)
  generalize hAe : va_A [(b_o, .inr (7, [.ref b_m, .ref b_r, .int 0, .int pc, .int tk, .int 0, .int 0, .int 0, .int 7, .int 0, .ref b_l, .int 0, .int 0, .int 0, .int 0, .int 0, .int 0, .int 0, .int 0, .int g, .ref b_d, .ref b_w, .ref b_c, .int 0, .ref b_q, .int 0, .int 0, .int 0, .ref b_s, .int th])), (b_d, .inl (j_d, 16, .inl (fun _ => 0)))] s.heap.size = A at hD ⊢
  have hA : ∀ q : Nat, s.heap.size ≤ q → A q := fun q h => by rw [← hAe]; exact Or.inr h
  have hS : va_S A s.heap s.heap [] := va_S.rf
  have hP : va_P (dC, dI) vwCl [(b_o, .inr (7, [.ref b_m, .ref b_r, .int 0, .int pc, .int tk, .int 0, .int 0, .int 0, .int 7, .int 0, .ref b_l, .int 0, .int 0, .int 0, .int 0, .int 0, .int 0, .int 0, .int 0, .int g, .ref b_d, .ref b_w, .ref b_c, .int 0, .ref b_q, .int 0, .int 0, .int 0, .ref b_s, .int th])), (b_d, .inl (j_d, 16, .inl (fun _ => 0)))] s.heap := hP
  have hl := lv_entry ([.ref b_o, .int k, .int b]) (n := 4) (Nat.le_of_ble_eq_true rfl)
  rw [lg_entry_eq]
  generalize (lg_sl ([.ref b_o, .int k, .int b]) ++ List.replicate (4 - (lg_sl ([.ref b_o, .int k, .int b])).length) Slot.unset).toArray = ls at hl ⊢
  have hl : lv_has ls 4 [(0, .ref b_o), (1, .int k), (2, .int b)] := hl
  refine lv_aload_n hx hb dX7_key_0 rfl (lv_at hl 0 rfl) ?_
  refine lv_iload_n hx hb dX7_key_1 rfl (lv_at hl 1 rfl) ?_
  refine lv_if_lt (tgt := 11) hx hb dX7_key_2 (by decide) (fun c_1 => absurd c_1 (fun q => hk (Or.inl q))) (fun c_1 => ?_)
  refine lv_iload_n hx hb dX7_key_5 rfl (lv_at hl 1 rfl) ?_
  refine lv_bipush (v := 15) hx hb dX7_key_6 (by decide) ?_
  refine lv_icmp_le (tgt := 15) hx hb dX7_key_8 (by decide) (fun c_2 => ?_) (fun c_2 => absurd (zl_le (n := 15) hk (by decide)) c_2)
  refine lv_iconst (v := 0) hx hb dX7_key_15 (by decide) ?_
  refine va_put (D := (dC, dI)) (ci := 7) (v := .int 0) (ty := .int) (C := RX7) (T := TX7) (N := 30) hx hb hts zx_7 tyX7 tyX7_ok nmX7 hown hK hP hD hS 0 rfl rfl 29 (by decide) (hts (.fieldLink RX7 39 "KeyboardKitModel" "thrown" "I") zw_749) (fun _ h9 => h9) rfl (by decide +kernel) rfl rfl (Nat.le_of_ble_eq_true rfl) dX7_key_16 (fun H locs hP hD hS => ?_)
  have hP : va_P (dC, dI) vwCl [(b_o, .inr (7, [.ref b_m, .ref b_r, .int 0, .int pc, .int tk, .int 0, .int 0, .int 0, .int 7, .int 0, .ref b_l, .int 0, .int 0, .int 0, .int 0, .int 0, .int 0, .int 0, .int 0, .int g, .ref b_d, .ref b_w, .ref b_c, .int 0, .ref b_q, .int 0, .int 0, .int 0, .ref b_s, .int 0])), (b_d, .inl (j_d, 16, .inl (fun _ => 0)))] H := hP
  have hD : va_D A [(b_o, .inr (7, [.ref b_m, .ref b_r, .int 0, .int pc, .int tk, .int 0, .int 0, .int 0, .int 7, .int 0, .ref b_l, .int 0, .int 0, .int 0, .int 0, .int 0, .int 0, .int 0, .int 0, .int g, .ref b_d, .ref b_w, .ref b_c, .int 0, .ref b_q, .int 0, .int 0, .int 0, .ref b_s, .int 0])), (b_d, .inl (j_d, 16, .inl (fun _ => 0)))] := hD
  refine lv_aload_n hx hb dX7_key_19 rfl (lv_at hl 0 rfl) ?_
  refine va_get (D := (dC, dI)) (ci := 7) (v := .int 0) (C := RX7) (T := TX7) (N := 30) hx hb hts zx_7 hown hK hP 0 rfl rfl 29 (by decide) (hts (.fieldLink RX7 39 "KeyboardKitModel" "thrown" "I") zw_749) (fun _ h9 => h9) rfl dX7_key_20 ?_
  refine lv_if_eq (tgt := 28) hx hb dX7_key_23 (by decide) (fun c_3 => ?_) (fun c_3 => absurd c_3 (by decide))
  refine lv_aload_n hx hb dX7_key_28 rfl (lv_at hl 0 rfl) ?_
  refine va_get (D := (dC, dI)) (ci := 7) (v := .ref b_d) (C := RX7) (T := TX7) (N := 30) hx hb hts zx_7 hown hK hP 0 rfl rfl 20 (by decide) (hts (.fieldLink RX7 24 "KeyboardKitModel" "down" "[Z") zw_740) (fun _ h9 => h9) rfl dX7_key_29 ?_
  refine lv_iload_n hx hb dX7_key_32 rfl (lv_at hl 1 rfl) ?_
  refine va_zald hx hb hK hP 1 0 rfl rfl hk dX7_key_33 ?_
  refine lv_topi (fun v_4 ev_4 => ?_)
  obtain rfl : v_4 = 0 := ev_4.trans rfl
  refine lv_istore_n (lv' := [(3, .int 0), (0, .ref b_o), (1, .int k), (2, .int b)]) hx hb dX7_key_34 rfl hl (by decide) rfl (fun ls hl => ?_)
  refine lv_aload_n hx hb dX7_key_35 rfl (lv_at hl 1 rfl) ?_
  refine va_get (D := (dC, dI)) (ci := 7) (v := .ref b_d) (C := RX7) (T := TX7) (N := 30) hx hb hts zx_7 hown hK hP 0 rfl rfl 20 (by decide) (hts (.fieldLink RX7 24 "KeyboardKitModel" "down" "[Z") zw_740) (fun _ h9 => h9) rfl dX7_key_36 ?_
  refine lv_iload_n hx hb dX7_key_39 rfl (lv_at hl 2 rfl) ?_
  refine lv_iload_n hx hb dX7_key_40 rfl (lv_at hl 3 rfl) ?_
  refine va_zast hx hb hK hP hD hS 1 0 rfl rfl hk dX7_key_41 (fun H locs hP hD hS => ?_)
  have hP : va_P (dC, dI) vwCl [(b_o, .inr (7, [.ref b_m, .ref b_r, .int 0, .int pc, .int tk, .int 0, .int 0, .int 0, .int 7, .int 0, .ref b_l, .int 0, .int 0, .int 0, .int 0, .int 0, .int 0, .int 0, .int 0, .int g, .ref b_d, .ref b_w, .ref b_c, .int 0, .ref b_q, .int 0, .int 0, .int 0, .ref b_s, .int 0])), (b_d, .inl (j_d, 16, .inl (upd (fun _ => 0) (k : Int32).toNatClampNeg (vp_nar .boolean b))))] H := hP
  have hD : va_D A [(b_o, .inr (7, [.ref b_m, .ref b_r, .int 0, .int pc, .int tk, .int 0, .int 0, .int 0, .int 7, .int 0, .ref b_l, .int 0, .int 0, .int 0, .int 0, .int 0, .int 0, .int 0, .int 0, .int g, .ref b_d, .ref b_w, .ref b_c, .int 0, .ref b_q, .int 0, .int 0, .int 0, .ref b_s, .int 0])), (b_d, .inl (j_d, 16, .inl (upd (fun _ => 0) (k : Int32).toNatClampNeg (vp_nar .boolean b))))] := hD
  refine lv_iload_n hx hb dX7_key_42 rfl (lv_at hl 0 rfl) ?_
  have hP9 := hP.sub (ws' := [(b_o, .inr (7, [.ref b_m, .ref b_r, .int 0, .int pc, .int tk, .int 0, .int 0, .int 0, .int 7, .int 0, .ref b_l, .int 0, .int 0, .int 0, .int 0, .int 0, .int 0, .int 0, .int 0, .int g, .ref b_d, .ref b_w, .ref b_c, .int 0, .ref b_q, .int 0, .int 0, .int 0, .ref b_s, .int 0]))]) [0] rfl
  have hD9 := hD.sub (ws' := [(b_o, .inr (7, [.ref b_m, .ref b_r, .int 0, .int pc, .int tk, .int 0, .int 0, .int 0, .int 7, .int 0, .ref b_l, .int 0, .int 0, .int 0, .int 0, .int 0, .int 0, .int 0, .int 0, .int g, .ref b_d, .ref b_w, .ref b_c, .int 0, .ref b_q, .int 0, .int 0, .int 0, .ref b_s, .int 0]))]) [0] (by decide) rfl
  have hK9 := hK.sub (tys' := [(j_d, .boolean)]) [0] rfl
  exact W.zret (v := 0) hx hb hr rfl (fun t9 ht hW => ⟨⟨0, (), rfl, rfl, by rw [ht]; exact hP9, va_K.moved hW.alike hK9, hD9⟩, hS.F ht⟩) hS.2.2 dX7_key_43
set_option maxHeartbeats 4000000 in
set_option maxRecDepth 100000 in
theorem r_shown (l : Launch) (dC : Nat → ClassId) (dI : Nat → Nat → Nat) (b_o : Nat) (b_m : Nat) (b_r : Nat) (b_l : Nat) (b_d : Nat) (b_w : Nat) (b_c : Nat) (b_q : Nat) (b_s : Nat) (j_s : ClassId) (pc : Int32) (tk : Int32) (g : Int32) (th : Int32) (k : Int32) (hk : vp_in k 16) (sz : Nat) : Met l yX7_shown (zq yX7_shown cX7_shown 2 (some .int)) ({ frames := 0, cells := 0, slots := 0, locals := 0 }) (va_Pc [.ref b_o, .int k] (zc_P (dC, dI) [(b_o, .inr (7, [.ref b_m, .ref b_r, .int 0, .int pc, .int tk, .int 0, .int 0, .int 0, .int 7, .int 0, .ref b_l, .int 0, .int 0, .int 0, .int 0, .int 0, .int 0, .int 0, .int 0, .int g, .ref b_d, .ref b_w, .ref b_c, .int 0, .ref b_q, .int 0, .int 0, .int 0, .ref b_s, .int th])), (b_s, .inl (j_s, 16, .inl (fun _ => 0)))] [(j_s, .int)] sz)) (va_Qi (fun r _ => r = 0) (fun (u : Unit) t9 => zc_B (dC, dI) (va_A [(b_o, .inr (7, [.ref b_m, .ref b_r, .int 0, .int pc, .int tk, .int 0, .int 0, .int 0, .int 7, .int 0, .ref b_l, .int 0, .int 0, .int 0, .int 0, .int 0, .int 0, .int 0, .int 0, .int g, .ref b_d, .ref b_w, .ref b_c, .int 0, .ref b_q, .int 0, .int 0, .int 0, .ref b_s, .int th])), (b_s, .inl (j_s, 16, .inl (fun _ => 0)))] sz) [(b_o, .inr (7, [.ref b_m, .ref b_r, .int 0, .int pc, .int tk, .int 0, .int 0, .int 0, .int 7, .int 0, .ref b_l, .int 0, .int 0, .int 0, .int 0, .int 0, .int 0, .int 0, .int 0, .int g, .ref b_d, .ref b_w, .ref b_c, .int 0, .ref b_q, .int 0, .int 0, .int 0, .ref b_s, .int 0]))] [(j_s, .int)] t9) (va_A [(b_o, .inr (7, [.ref b_m, .ref b_r, .int 0, .int pc, .int tk, .int 0, .int 0, .int 0, .int 7, .int 0, .ref b_l, .int 0, .int 0, .int 0, .int 0, .int 0, .int 0, .int 0, .int 0, .int g, .ref b_d, .ref b_w, .ref b_c, .int 0, .ref b_q, .int 0, .int 0, .int 0, .ref b_s, .int th])), (b_s, .inl (j_s, 16, .inl (fun _ => 0)))] sz)) 0 0 (va_A [(b_o, .inr (7, [.ref b_m, .ref b_r, .int 0, .int pc, .int tk, .int 0, .int 0, .int 0, .int 7, .int 0, .ref b_l, .int 0, .int 0, .int 0, .int 0, .int 0, .int 0, .int 0, .int 0, .int g, .ref b_d, .ref b_w, .ref b_c, .int 0, .ref b_q, .int 0, .int 0, .int 0, .ref b_s, .int th])), (b_s, .inl (j_s, 16, .inl (fun _ => 0)))] sz) := by
  refine Met.ofW (cc := cX7_shown) (maxL := 2) (ret := (some .int)) (by decide) rfl ?_
  intro p e s m args below meth c s₁ B hml hv
  obtain ⟨rfl, hsz, hP, hK, hD0, hN⟩ := hv
  have hx := B.exec
  have hb := B.bytes
  have hr := B.returns
  have hts : ∀ w ∈ zw, w.before _ s = true := fun w h => atoms_spec (ws := (zq yX7_shown cX7_shown 2 (some .int))) B.pre w (List.mem_cons_of_mem _ h)
  have hown : s.vm.findClass RX7 = some m.cls := findClass_of_methodNamed B.named
  have hlocks := B.notSynchronized
  subst hsz
  have hD := hD0.self (sz := s.heap.size)
  generalize hAe : va_A [(b_o, .inr (7, [.ref b_m, .ref b_r, .int 0, .int pc, .int tk, .int 0, .int 0, .int 0, .int 7, .int 0, .ref b_l, .int 0, .int 0, .int 0, .int 0, .int 0, .int 0, .int 0, .int 0, .int g, .ref b_d, .ref b_w, .ref b_c, .int 0, .ref b_q, .int 0, .int 0, .int 0, .ref b_s, .int th])), (b_s, .inl (j_s, 16, .inl (fun _ => 0)))] s.heap.size = A at hD ⊢
  have hA : ∀ q : Nat, s.heap.size ≤ q → A q := fun q h => by rw [← hAe]; exact Or.inr h
  have hS : va_S A s.heap s.heap [] := va_S.rf
  have hP : va_P (dC, dI) vwCl [(b_o, .inr (7, [.ref b_m, .ref b_r, .int 0, .int pc, .int tk, .int 0, .int 0, .int 0, .int 7, .int 0, .ref b_l, .int 0, .int 0, .int 0, .int 0, .int 0, .int 0, .int 0, .int 0, .int g, .ref b_d, .ref b_w, .ref b_c, .int 0, .ref b_q, .int 0, .int 0, .int 0, .ref b_s, .int th])), (b_s, .inl (j_s, 16, .inl (fun _ => 0)))] s.heap := hP
  have hl := lv_entry ([.ref b_o, .int k]) (n := 2) (Nat.le_of_ble_eq_true rfl)
  rw [lg_entry_eq]
  generalize (lg_sl ([.ref b_o, .int k]) ++ List.replicate (2 - (lg_sl ([.ref b_o, .int k])).length) Slot.unset).toArray = ls at hl ⊢
  have hl : lv_has ls 2 [(0, .ref b_o), (1, .int k)] := hl
  refine lv_aload_n hx hb dX7_shown_0 rfl (lv_at hl 0 rfl) ?_
  refine lv_iload_n hx hb dX7_shown_1 rfl (lv_at hl 1 rfl) ?_
  refine lv_if_lt (tgt := 11) hx hb dX7_shown_2 (by decide) (fun c_1 => absurd c_1 (fun q => hk (Or.inl q))) (fun c_1 => ?_)
  refine lv_iload_n hx hb dX7_shown_5 rfl (lv_at hl 1 rfl) ?_
  refine lv_bipush (v := 15) hx hb dX7_shown_6 (by decide) ?_
  refine lv_icmp_le (tgt := 15) hx hb dX7_shown_8 (by decide) (fun c_2 => ?_) (fun c_2 => absurd (zl_le (n := 15) hk (by decide)) c_2)
  refine lv_iconst (v := 0) hx hb dX7_shown_15 (by decide) ?_
  refine va_put (D := (dC, dI)) (ci := 7) (v := .int 0) (ty := .int) (C := RX7) (T := TX7) (N := 30) hx hb hts zx_7 tyX7 tyX7_ok nmX7 hown hK hP hD hS 0 rfl rfl 29 (by decide) (hts (.fieldLink RX7 39 "KeyboardKitModel" "thrown" "I") zw_749) (fun _ h9 => h9) rfl (by decide +kernel) rfl rfl (Nat.le_of_ble_eq_true rfl) dX7_shown_16 (fun H locs hP hD hS => ?_)
  have hP : va_P (dC, dI) vwCl [(b_o, .inr (7, [.ref b_m, .ref b_r, .int 0, .int pc, .int tk, .int 0, .int 0, .int 0, .int 7, .int 0, .ref b_l, .int 0, .int 0, .int 0, .int 0, .int 0, .int 0, .int 0, .int 0, .int g, .ref b_d, .ref b_w, .ref b_c, .int 0, .ref b_q, .int 0, .int 0, .int 0, .ref b_s, .int 0])), (b_s, .inl (j_s, 16, .inl (fun _ => 0)))] H := hP
  have hD : va_D A [(b_o, .inr (7, [.ref b_m, .ref b_r, .int 0, .int pc, .int tk, .int 0, .int 0, .int 0, .int 7, .int 0, .ref b_l, .int 0, .int 0, .int 0, .int 0, .int 0, .int 0, .int 0, .int 0, .int g, .ref b_d, .ref b_w, .ref b_c, .int 0, .ref b_q, .int 0, .int 0, .int 0, .ref b_s, .int 0])), (b_s, .inl (j_s, 16, .inl (fun _ => 0)))] := hD
  refine lv_aload_n hx hb dX7_shown_19 rfl (lv_at hl 0 rfl) ?_
  refine va_get (D := (dC, dI)) (ci := 7) (v := .int 0) (C := RX7) (T := TX7) (N := 30) hx hb hts zx_7 hown hK hP 0 rfl rfl 29 (by decide) (hts (.fieldLink RX7 39 "KeyboardKitModel" "thrown" "I") zw_749) (fun _ h9 => h9) rfl dX7_shown_20 ?_
  refine lv_if_ne (tgt := 35) hx hb dX7_shown_23 (by decide) (fun c_3 => absurd c_3 (by decide)) (fun c_3 => ?_)
  refine lv_aload_n hx hb dX7_shown_26 rfl (lv_at hl 0 rfl) ?_
  refine va_get (D := (dC, dI)) (ci := 7) (v := .ref b_s) (C := RX7) (T := TX7) (N := 30) hx hb hts zx_7 hown hK hP 0 rfl rfl 28 (by decide) (hts (.fieldLink RX7 36 "KeyboardKitModel" "display" "[I") zw_748) (fun _ h9 => h9) rfl dX7_shown_27 ?_
  refine lv_iload_n hx hb dX7_shown_30 rfl (lv_at hl 1 rfl) ?_
  refine va_iald hx hb hK hP 1 0 rfl rfl hk dX7_shown_31 ?_
  refine lv_topi (fun v_4 ev_4 => ?_)
  obtain rfl : v_4 = 0 := ev_4.trans rfl
  refine lv_goto (tgt := 36) hx hb dX7_shown_32 (by decide) ?_
  have hP9 := hP.sub (ws' := [(b_o, .inr (7, [.ref b_m, .ref b_r, .int 0, .int pc, .int tk, .int 0, .int 0, .int 0, .int 7, .int 0, .ref b_l, .int 0, .int 0, .int 0, .int 0, .int 0, .int 0, .int 0, .int 0, .int g, .ref b_d, .ref b_w, .ref b_c, .int 0, .ref b_q, .int 0, .int 0, .int 0, .ref b_s, .int 0]))]) [0] rfl
  have hD9 := hD.sub (ws' := [(b_o, .inr (7, [.ref b_m, .ref b_r, .int 0, .int pc, .int tk, .int 0, .int 0, .int 0, .int 7, .int 0, .ref b_l, .int 0, .int 0, .int 0, .int 0, .int 0, .int 0, .int 0, .int 0, .int g, .ref b_d, .ref b_w, .ref b_c, .int 0, .ref b_q, .int 0, .int 0, .int 0, .ref b_s, .int 0]))]) [0] (by decide) rfl
  have hK9 := hK.sub (tys' := [(j_s, .int)]) [0] rfl
  exact W.iret (v := 0) hx hb hr (fun t9 ht hW => ⟨⟨0, (), rfl, rfl, by rw [ht]; exact hP9, va_K.moved hW.alike hK9, hD9⟩, hS.F ht⟩) hS.2.2 dX7_shown_36
set_option maxHeartbeats 4000000 in
set_option maxRecDepth 100000 in
theorem r_line0 (l : Launch) (dC : Nat → ClassId) (dI : Nat → Nat → Nat) (b_o : Nat) (b_m : Nat) (b_r : Nat) (b_l : Nat) (b_d : Nat) (b_w : Nat) (b_c : Nat) (b_q : Nat) (b_s : Nat) (j_l : ClassId) (pc : Int32) (tk : Int32) (g : Int32) (th : Int32) (b : Int32) (sz : Nat) : Met l yX7_line (zq yX7_line cX7_line 4 (some .boolean)) ({ frames := 0, cells := 0, slots := 0, locals := 0 }) (va_Pc [.ref b_o, .int 0, .int b] (zc_P (dC, dI) [(b_o, .inr (7, [.ref b_m, .ref b_r, .int 0, .int pc, .int tk, .int 0, .int 0, .int 0, .int 7, .int 0, .ref b_l, .int 0, .int 0, .int 0, .int 0, .int 0, .int 0, .int 0, .int 0, .int g, .ref b_d, .ref b_w, .ref b_c, .int 0, .ref b_q, .int 0, .int 0, .int 0, .ref b_s, .int th])), (b_l, .inl (j_l, 2, .inl (fun _ => 0)))] [(j_l, .boolean)] sz)) (va_Qi (fun r _ => r = 0) (fun (u : Unit) t9 => zc_B (dC, dI) (va_A [(b_o, .inr (7, [.ref b_m, .ref b_r, .int 0, .int pc, .int tk, .int 0, .int 0, .int 0, .int 7, .int 0, .ref b_l, .int 0, .int 0, .int 0, .int 0, .int 0, .int 0, .int 0, .int 0, .int g, .ref b_d, .ref b_w, .ref b_c, .int 0, .ref b_q, .int 0, .int 0, .int 0, .ref b_s, .int th])), (b_l, .inl (j_l, 2, .inl (fun _ => 0)))] sz) [(b_o, .inr (7, [.ref b_m, .ref b_r, .int 0, .int pc, .int tk, .int 0, .int 0, .int 0, .int 7, .int 0, .ref b_l, .int 0, .int 0, .int 0, .int 0, .int 0, .int 0, .int 0, .int 0, .int g, .ref b_d, .ref b_w, .ref b_c, .int 0, .ref b_q, .int 0, .int 0, .int 0, .ref b_s, .int 0]))] [(j_l, .boolean)] t9) (va_A [(b_o, .inr (7, [.ref b_m, .ref b_r, .int 0, .int pc, .int tk, .int 0, .int 0, .int 0, .int 7, .int 0, .ref b_l, .int 0, .int 0, .int 0, .int 0, .int 0, .int 0, .int 0, .int 0, .int g, .ref b_d, .ref b_w, .ref b_c, .int 0, .ref b_q, .int 0, .int 0, .int 0, .ref b_s, .int th])), (b_l, .inl (j_l, 2, .inl (fun _ => 0)))] sz)) 0 0 (va_A [(b_o, .inr (7, [.ref b_m, .ref b_r, .int 0, .int pc, .int tk, .int 0, .int 0, .int 0, .int 7, .int 0, .ref b_l, .int 0, .int 0, .int 0, .int 0, .int 0, .int 0, .int 0, .int 0, .int g, .ref b_d, .ref b_w, .ref b_c, .int 0, .ref b_q, .int 0, .int 0, .int 0, .ref b_s, .int th])), (b_l, .inl (j_l, 2, .inl (fun _ => 0)))] sz) := by
  refine Met.ofW (cc := cX7_line) (maxL := 4) (ret := (some .boolean)) (by decide) rfl ?_
  intro p e s m args below meth c s₁ B hml hv
  obtain ⟨rfl, hsz, hP, hK, hD0, hN⟩ := hv
  have hx := B.exec
  have hb := B.bytes
  have hr := B.returns
  have hts : ∀ w ∈ zw, w.before _ s = true := fun w h => atoms_spec (ws := (zq yX7_line cX7_line 4 (some .boolean))) B.pre w (List.mem_cons_of_mem _ h)
  have hown : s.vm.findClass RX7 = some m.cls := findClass_of_methodNamed B.named
  have hlocks := B.notSynchronized
  subst hsz
  have hD := hD0.self (sz := s.heap.size)
  generalize hAe : va_A [(b_o, .inr (7, [.ref b_m, .ref b_r, .int 0, .int pc, .int tk, .int 0, .int 0, .int 0, .int 7, .int 0, .ref b_l, .int 0, .int 0, .int 0, .int 0, .int 0, .int 0, .int 0, .int 0, .int g, .ref b_d, .ref b_w, .ref b_c, .int 0, .ref b_q, .int 0, .int 0, .int 0, .ref b_s, .int th])), (b_l, .inl (j_l, 2, .inl (fun _ => 0)))] s.heap.size = A at hD ⊢
  have hA : ∀ q : Nat, s.heap.size ≤ q → A q := fun q h => by rw [← hAe]; exact Or.inr h
  have hS : va_S A s.heap s.heap [] := va_S.rf
  have hP : va_P (dC, dI) vwCl [(b_o, .inr (7, [.ref b_m, .ref b_r, .int 0, .int pc, .int tk, .int 0, .int 0, .int 0, .int 7, .int 0, .ref b_l, .int 0, .int 0, .int 0, .int 0, .int 0, .int 0, .int 0, .int 0, .int g, .ref b_d, .ref b_w, .ref b_c, .int 0, .ref b_q, .int 0, .int 0, .int 0, .ref b_s, .int th])), (b_l, .inl (j_l, 2, .inl (fun _ => 0)))] s.heap := hP
  have hl := lv_entry ([.ref b_o, .int 0, .int b]) (n := 4) (Nat.le_of_ble_eq_true rfl)
  rw [lg_entry_eq]
  generalize (lg_sl ([.ref b_o, .int 0, .int b]) ++ List.replicate (4 - (lg_sl ([.ref b_o, .int 0, .int b])).length) Slot.unset).toArray = ls at hl ⊢
  have hl : lv_has ls 4 [(0, .ref b_o), (1, .int 0), (2, .int b)] := hl
  refine lv_aload_n hx hb dX7_line_0 rfl (lv_at hl 0 rfl) ?_
  refine lv_iload_n hx hb dX7_line_1 rfl (lv_at hl 1 rfl) ?_
  refine lv_if_lt (tgt := 10) hx hb dX7_line_2 (by decide) (fun c_1 => absurd c_1 (by decide)) (fun c_1 => ?_)
  refine lv_iload_n hx hb dX7_line_5 rfl (lv_at hl 1 rfl) ?_
  refine lv_iconst (v := 1) hx hb dX7_line_6 (by decide) ?_
  refine lv_icmp_le (tgt := 14) hx hb dX7_line_7 (by decide) (fun c_2 => ?_) (fun c_2 => absurd c_2 (by decide))
  refine lv_iconst (v := 0) hx hb dX7_line_14 (by decide) ?_
  refine va_put (D := (dC, dI)) (ci := 7) (v := .int 0) (ty := .int) (C := RX7) (T := TX7) (N := 30) hx hb hts zx_7 tyX7 tyX7_ok nmX7 hown hK hP hD hS 0 rfl rfl 29 (by decide) (hts (.fieldLink RX7 39 "KeyboardKitModel" "thrown" "I") zw_749) (fun _ h9 => h9) rfl (by decide +kernel) rfl rfl (Nat.le_of_ble_eq_true rfl) dX7_line_15 (fun H locs hP hD hS => ?_)
  have hP : va_P (dC, dI) vwCl [(b_o, .inr (7, [.ref b_m, .ref b_r, .int 0, .int pc, .int tk, .int 0, .int 0, .int 0, .int 7, .int 0, .ref b_l, .int 0, .int 0, .int 0, .int 0, .int 0, .int 0, .int 0, .int 0, .int g, .ref b_d, .ref b_w, .ref b_c, .int 0, .ref b_q, .int 0, .int 0, .int 0, .ref b_s, .int 0])), (b_l, .inl (j_l, 2, .inl (fun _ => 0)))] H := hP
  have hD : va_D A [(b_o, .inr (7, [.ref b_m, .ref b_r, .int 0, .int pc, .int tk, .int 0, .int 0, .int 0, .int 7, .int 0, .ref b_l, .int 0, .int 0, .int 0, .int 0, .int 0, .int 0, .int 0, .int 0, .int g, .ref b_d, .ref b_w, .ref b_c, .int 0, .ref b_q, .int 0, .int 0, .int 0, .ref b_s, .int 0])), (b_l, .inl (j_l, 2, .inl (fun _ => 0)))] := hD
  refine lv_aload_n hx hb dX7_line_18 rfl (lv_at hl 0 rfl) ?_
  refine va_get (D := (dC, dI)) (ci := 7) (v := .int 0) (C := RX7) (T := TX7) (N := 30) hx hb hts zx_7 hown hK hP 0 rfl rfl 29 (by decide) (hts (.fieldLink RX7 39 "KeyboardKitModel" "thrown" "I") zw_749) (fun _ h9 => h9) rfl dX7_line_19 ?_
  refine lv_if_eq (tgt := 27) hx hb dX7_line_22 (by decide) (fun c_3 => ?_) (fun c_3 => absurd c_3 (by decide))
  refine lv_aload_n hx hb dX7_line_27 rfl (lv_at hl 0 rfl) ?_
  refine va_get (D := (dC, dI)) (ci := 7) (v := .ref b_l) (C := RX7) (T := TX7) (N := 30) hx hb hts zx_7 hown hK hP 0 rfl rfl 10 (by decide) (hts (.fieldLink RX7 20 "KeyboardKitModel" "lines" "[Z") zw_730) (fun _ h9 => h9) rfl dX7_line_28 ?_
  refine lv_iload_n hx hb dX7_line_31 rfl (lv_at hl 1 rfl) ?_
  refine va_zald hx hb hK hP 1 0 rfl rfl (show ¬ ((0 : Int32) < 0 ∨ 2 ≤ (0 : Int32).toNatClampNeg) by decide) dX7_line_32 ?_
  refine lv_topi (fun v_4 ev_4 => ?_)
  obtain rfl : v_4 = 0 := ev_4.trans rfl
  refine lv_istore_n (lv' := [(3, .int 0), (0, .ref b_o), (1, .int 0), (2, .int b)]) hx hb dX7_line_33 rfl hl (by decide) rfl (fun ls hl => ?_)
  refine lv_aload_n hx hb dX7_line_34 rfl (lv_at hl 1 rfl) ?_
  refine va_get (D := (dC, dI)) (ci := 7) (v := .ref b_l) (C := RX7) (T := TX7) (N := 30) hx hb hts zx_7 hown hK hP 0 rfl rfl 10 (by decide) (hts (.fieldLink RX7 20 "KeyboardKitModel" "lines" "[Z") zw_730) (fun _ h9 => h9) rfl dX7_line_35 ?_
  refine lv_iload_n hx hb dX7_line_38 rfl (lv_at hl 2 rfl) ?_
  refine lv_iload_n hx hb dX7_line_39 rfl (lv_at hl 3 rfl) ?_
  refine va_zast hx hb hK hP hD hS 1 0 rfl rfl (show ¬ ((0 : Int32) < 0 ∨ 2 ≤ (0 : Int32).toNatClampNeg) by decide) dX7_line_40 (fun H locs hP hD hS => ?_)
  have hP : va_P (dC, dI) vwCl [(b_o, .inr (7, [.ref b_m, .ref b_r, .int 0, .int pc, .int tk, .int 0, .int 0, .int 0, .int 7, .int 0, .ref b_l, .int 0, .int 0, .int 0, .int 0, .int 0, .int 0, .int 0, .int 0, .int g, .ref b_d, .ref b_w, .ref b_c, .int 0, .ref b_q, .int 0, .int 0, .int 0, .ref b_s, .int 0])), (b_l, .inl (j_l, 2, .inl (upd (fun _ => 0) (0 : Int32).toNatClampNeg (vp_nar .boolean b))))] H := hP
  have hD : va_D A [(b_o, .inr (7, [.ref b_m, .ref b_r, .int 0, .int pc, .int tk, .int 0, .int 0, .int 0, .int 7, .int 0, .ref b_l, .int 0, .int 0, .int 0, .int 0, .int 0, .int 0, .int 0, .int 0, .int g, .ref b_d, .ref b_w, .ref b_c, .int 0, .ref b_q, .int 0, .int 0, .int 0, .ref b_s, .int 0])), (b_l, .inl (j_l, 2, .inl (upd (fun _ => 0) (0 : Int32).toNatClampNeg (vp_nar .boolean b))))] := hD
  refine lv_iload_n hx hb dX7_line_41 rfl (lv_at hl 0 rfl) ?_
  have hP9 := hP.sub (ws' := [(b_o, .inr (7, [.ref b_m, .ref b_r, .int 0, .int pc, .int tk, .int 0, .int 0, .int 0, .int 7, .int 0, .ref b_l, .int 0, .int 0, .int 0, .int 0, .int 0, .int 0, .int 0, .int 0, .int g, .ref b_d, .ref b_w, .ref b_c, .int 0, .ref b_q, .int 0, .int 0, .int 0, .ref b_s, .int 0]))]) [0] rfl
  have hD9 := hD.sub (ws' := [(b_o, .inr (7, [.ref b_m, .ref b_r, .int 0, .int pc, .int tk, .int 0, .int 0, .int 0, .int 7, .int 0, .ref b_l, .int 0, .int 0, .int 0, .int 0, .int 0, .int 0, .int 0, .int 0, .int g, .ref b_d, .ref b_w, .ref b_c, .int 0, .ref b_q, .int 0, .int 0, .int 0, .ref b_s, .int 0]))]) [0] (by decide) rfl
  have hK9 := hK.sub (tys' := [(j_l, .boolean)]) [0] rfl
  exact W.zret (v := 0) hx hb hr rfl (fun t9 ht hW => ⟨⟨0, (), rfl, rfl, by rw [ht]; exact hP9, va_K.moved hW.alike hK9, hD9⟩, hS.F ht⟩) hS.2.2 dX7_line_42
set_option maxHeartbeats 4000000 in
set_option maxRecDepth 100000 in
theorem r_line1 (l : Launch) (dC : Nat → ClassId) (dI : Nat → Nat → Nat) (b_o : Nat) (b_m : Nat) (b_r : Nat) (b_l : Nat) (b_d : Nat) (b_w : Nat) (b_c : Nat) (b_q : Nat) (b_s : Nat) (j_l : ClassId) (pc : Int32) (tk : Int32) (g : Int32) (th : Int32) (b : Int32) (sz : Nat) : Met l yX7_line (zq yX7_line cX7_line 4 (some .boolean)) ({ frames := 0, cells := 0, slots := 0, locals := 0 }) (va_Pc [.ref b_o, .int 1, .int b] (zc_P (dC, dI) [(b_o, .inr (7, [.ref b_m, .ref b_r, .int 0, .int pc, .int tk, .int 0, .int 0, .int 0, .int 7, .int 0, .ref b_l, .int 0, .int 0, .int 0, .int 0, .int 0, .int 0, .int 0, .int 0, .int g, .ref b_d, .ref b_w, .ref b_c, .int 0, .ref b_q, .int 0, .int 0, .int 0, .ref b_s, .int th])), (b_l, .inl (j_l, 2, .inl (fun _ => 0)))] [(j_l, .boolean)] sz)) (va_Qi (fun r _ => r = 0) (fun (u : Unit) t9 => zc_B (dC, dI) (va_A [(b_o, .inr (7, [.ref b_m, .ref b_r, .int 0, .int pc, .int tk, .int 0, .int 0, .int 0, .int 7, .int 0, .ref b_l, .int 0, .int 0, .int 0, .int 0, .int 0, .int 0, .int 0, .int 0, .int g, .ref b_d, .ref b_w, .ref b_c, .int 0, .ref b_q, .int 0, .int 0, .int 0, .ref b_s, .int th])), (b_l, .inl (j_l, 2, .inl (fun _ => 0)))] sz) [(b_o, .inr (7, [.ref b_m, .ref b_r, .int 0, .int pc, .int tk, .int 0, .int 0, .int 0, .int 7, .int 0, .ref b_l, .int 0, .int 0, .int 0, .int 0, .int 0, .int 0, .int 0, .int 0, .int g, .ref b_d, .ref b_w, .ref b_c, .int 0, .ref b_q, .int 0, .int 0, .int 0, .ref b_s, .int 0]))] [(j_l, .boolean)] t9) (va_A [(b_o, .inr (7, [.ref b_m, .ref b_r, .int 0, .int pc, .int tk, .int 0, .int 0, .int 0, .int 7, .int 0, .ref b_l, .int 0, .int 0, .int 0, .int 0, .int 0, .int 0, .int 0, .int 0, .int g, .ref b_d, .ref b_w, .ref b_c, .int 0, .ref b_q, .int 0, .int 0, .int 0, .ref b_s, .int th])), (b_l, .inl (j_l, 2, .inl (fun _ => 0)))] sz)) 0 0 (va_A [(b_o, .inr (7, [.ref b_m, .ref b_r, .int 0, .int pc, .int tk, .int 0, .int 0, .int 0, .int 7, .int 0, .ref b_l, .int 0, .int 0, .int 0, .int 0, .int 0, .int 0, .int 0, .int 0, .int g, .ref b_d, .ref b_w, .ref b_c, .int 0, .ref b_q, .int 0, .int 0, .int 0, .ref b_s, .int th])), (b_l, .inl (j_l, 2, .inl (fun _ => 0)))] sz) := by
  refine Met.ofW (cc := cX7_line) (maxL := 4) (ret := (some .boolean)) (by decide) rfl ?_
  intro p e s m args below meth c s₁ B hml hv
  obtain ⟨rfl, hsz, hP, hK, hD0, hN⟩ := hv
  have hx := B.exec
  have hb := B.bytes
  have hr := B.returns
  have hts : ∀ w ∈ zw, w.before _ s = true := fun w h => atoms_spec (ws := (zq yX7_line cX7_line 4 (some .boolean))) B.pre w (List.mem_cons_of_mem _ h)
  have hown : s.vm.findClass RX7 = some m.cls := findClass_of_methodNamed B.named
  have hlocks := B.notSynchronized
  subst hsz
  have hD := hD0.self (sz := s.heap.size)
  generalize hAe : va_A [(b_o, .inr (7, [.ref b_m, .ref b_r, .int 0, .int pc, .int tk, .int 0, .int 0, .int 0, .int 7, .int 0, .ref b_l, .int 0, .int 0, .int 0, .int 0, .int 0, .int 0, .int 0, .int 0, .int g, .ref b_d, .ref b_w, .ref b_c, .int 0, .ref b_q, .int 0, .int 0, .int 0, .ref b_s, .int th])), (b_l, .inl (j_l, 2, .inl (fun _ => 0)))] s.heap.size = A at hD ⊢
  have hA : ∀ q : Nat, s.heap.size ≤ q → A q := fun q h => by rw [← hAe]; exact Or.inr h
  have hS : va_S A s.heap s.heap [] := va_S.rf
  have hP : va_P (dC, dI) vwCl [(b_o, .inr (7, [.ref b_m, .ref b_r, .int 0, .int pc, .int tk, .int 0, .int 0, .int 0, .int 7, .int 0, .ref b_l, .int 0, .int 0, .int 0, .int 0, .int 0, .int 0, .int 0, .int 0, .int g, .ref b_d, .ref b_w, .ref b_c, .int 0, .ref b_q, .int 0, .int 0, .int 0, .ref b_s, .int th])), (b_l, .inl (j_l, 2, .inl (fun _ => 0)))] s.heap := hP
  have hl := lv_entry ([.ref b_o, .int 1, .int b]) (n := 4) (Nat.le_of_ble_eq_true rfl)
  rw [lg_entry_eq]
  generalize (lg_sl ([.ref b_o, .int 1, .int b]) ++ List.replicate (4 - (lg_sl ([.ref b_o, .int 1, .int b])).length) Slot.unset).toArray = ls at hl ⊢
  have hl : lv_has ls 4 [(0, .ref b_o), (1, .int 1), (2, .int b)] := hl
  refine lv_aload_n hx hb dX7_line_0 rfl (lv_at hl 0 rfl) ?_
  refine lv_iload_n hx hb dX7_line_1 rfl (lv_at hl 1 rfl) ?_
  refine lv_if_lt (tgt := 10) hx hb dX7_line_2 (by decide) (fun c_1 => absurd c_1 (by decide)) (fun c_1 => ?_)
  refine lv_iload_n hx hb dX7_line_5 rfl (lv_at hl 1 rfl) ?_
  refine lv_iconst (v := 1) hx hb dX7_line_6 (by decide) ?_
  refine lv_icmp_le (tgt := 14) hx hb dX7_line_7 (by decide) (fun c_2 => ?_) (fun c_2 => absurd c_2 (by decide))
  refine lv_iconst (v := 0) hx hb dX7_line_14 (by decide) ?_
  refine va_put (D := (dC, dI)) (ci := 7) (v := .int 0) (ty := .int) (C := RX7) (T := TX7) (N := 30) hx hb hts zx_7 tyX7 tyX7_ok nmX7 hown hK hP hD hS 0 rfl rfl 29 (by decide) (hts (.fieldLink RX7 39 "KeyboardKitModel" "thrown" "I") zw_749) (fun _ h9 => h9) rfl (by decide +kernel) rfl rfl (Nat.le_of_ble_eq_true rfl) dX7_line_15 (fun H locs hP hD hS => ?_)
  have hP : va_P (dC, dI) vwCl [(b_o, .inr (7, [.ref b_m, .ref b_r, .int 0, .int pc, .int tk, .int 0, .int 0, .int 0, .int 7, .int 0, .ref b_l, .int 0, .int 0, .int 0, .int 0, .int 0, .int 0, .int 0, .int 0, .int g, .ref b_d, .ref b_w, .ref b_c, .int 0, .ref b_q, .int 0, .int 0, .int 0, .ref b_s, .int 0])), (b_l, .inl (j_l, 2, .inl (fun _ => 0)))] H := hP
  have hD : va_D A [(b_o, .inr (7, [.ref b_m, .ref b_r, .int 0, .int pc, .int tk, .int 0, .int 0, .int 0, .int 7, .int 0, .ref b_l, .int 0, .int 0, .int 0, .int 0, .int 0, .int 0, .int 0, .int 0, .int g, .ref b_d, .ref b_w, .ref b_c, .int 0, .ref b_q, .int 0, .int 0, .int 0, .ref b_s, .int 0])), (b_l, .inl (j_l, 2, .inl (fun _ => 0)))] := hD
  refine lv_aload_n hx hb dX7_line_18 rfl (lv_at hl 0 rfl) ?_
  refine va_get (D := (dC, dI)) (ci := 7) (v := .int 0) (C := RX7) (T := TX7) (N := 30) hx hb hts zx_7 hown hK hP 0 rfl rfl 29 (by decide) (hts (.fieldLink RX7 39 "KeyboardKitModel" "thrown" "I") zw_749) (fun _ h9 => h9) rfl dX7_line_19 ?_
  refine lv_if_eq (tgt := 27) hx hb dX7_line_22 (by decide) (fun c_3 => ?_) (fun c_3 => absurd c_3 (by decide))
  refine lv_aload_n hx hb dX7_line_27 rfl (lv_at hl 0 rfl) ?_
  refine va_get (D := (dC, dI)) (ci := 7) (v := .ref b_l) (C := RX7) (T := TX7) (N := 30) hx hb hts zx_7 hown hK hP 0 rfl rfl 10 (by decide) (hts (.fieldLink RX7 20 "KeyboardKitModel" "lines" "[Z") zw_730) (fun _ h9 => h9) rfl dX7_line_28 ?_
  refine lv_iload_n hx hb dX7_line_31 rfl (lv_at hl 1 rfl) ?_
  refine va_zald hx hb hK hP 1 0 rfl rfl (show ¬ ((1 : Int32) < 0 ∨ 2 ≤ (1 : Int32).toNatClampNeg) by decide) dX7_line_32 ?_
  refine lv_topi (fun v_4 ev_4 => ?_)
  obtain rfl : v_4 = 0 := ev_4.trans rfl
  refine lv_istore_n (lv' := [(3, .int 0), (0, .ref b_o), (1, .int 1), (2, .int b)]) hx hb dX7_line_33 rfl hl (by decide) rfl (fun ls hl => ?_)
  refine lv_aload_n hx hb dX7_line_34 rfl (lv_at hl 1 rfl) ?_
  refine va_get (D := (dC, dI)) (ci := 7) (v := .ref b_l) (C := RX7) (T := TX7) (N := 30) hx hb hts zx_7 hown hK hP 0 rfl rfl 10 (by decide) (hts (.fieldLink RX7 20 "KeyboardKitModel" "lines" "[Z") zw_730) (fun _ h9 => h9) rfl dX7_line_35 ?_
  refine lv_iload_n hx hb dX7_line_38 rfl (lv_at hl 2 rfl) ?_
  refine lv_iload_n hx hb dX7_line_39 rfl (lv_at hl 3 rfl) ?_
  refine va_zast hx hb hK hP hD hS 1 0 rfl rfl (show ¬ ((1 : Int32) < 0 ∨ 2 ≤ (1 : Int32).toNatClampNeg) by decide) dX7_line_40 (fun H locs hP hD hS => ?_)
  have hP : va_P (dC, dI) vwCl [(b_o, .inr (7, [.ref b_m, .ref b_r, .int 0, .int pc, .int tk, .int 0, .int 0, .int 0, .int 7, .int 0, .ref b_l, .int 0, .int 0, .int 0, .int 0, .int 0, .int 0, .int 0, .int 0, .int g, .ref b_d, .ref b_w, .ref b_c, .int 0, .ref b_q, .int 0, .int 0, .int 0, .ref b_s, .int 0])), (b_l, .inl (j_l, 2, .inl (upd (fun _ => 0) (1 : Int32).toNatClampNeg (vp_nar .boolean b))))] H := hP
  have hD : va_D A [(b_o, .inr (7, [.ref b_m, .ref b_r, .int 0, .int pc, .int tk, .int 0, .int 0, .int 0, .int 7, .int 0, .ref b_l, .int 0, .int 0, .int 0, .int 0, .int 0, .int 0, .int 0, .int 0, .int g, .ref b_d, .ref b_w, .ref b_c, .int 0, .ref b_q, .int 0, .int 0, .int 0, .ref b_s, .int 0])), (b_l, .inl (j_l, 2, .inl (upd (fun _ => 0) (1 : Int32).toNatClampNeg (vp_nar .boolean b))))] := hD
  refine lv_iload_n hx hb dX7_line_41 rfl (lv_at hl 0 rfl) ?_
  have hP9 := hP.sub (ws' := [(b_o, .inr (7, [.ref b_m, .ref b_r, .int 0, .int pc, .int tk, .int 0, .int 0, .int 0, .int 7, .int 0, .ref b_l, .int 0, .int 0, .int 0, .int 0, .int 0, .int 0, .int 0, .int 0, .int g, .ref b_d, .ref b_w, .ref b_c, .int 0, .ref b_q, .int 0, .int 0, .int 0, .ref b_s, .int 0]))]) [0] rfl
  have hD9 := hD.sub (ws' := [(b_o, .inr (7, [.ref b_m, .ref b_r, .int 0, .int pc, .int tk, .int 0, .int 0, .int 0, .int 7, .int 0, .ref b_l, .int 0, .int 0, .int 0, .int 0, .int 0, .int 0, .int 0, .int 0, .int g, .ref b_d, .ref b_w, .ref b_c, .int 0, .ref b_q, .int 0, .int 0, .int 0, .ref b_s, .int 0]))]) [0] (by decide) rfl
  have hK9 := hK.sub (tys' := [(j_l, .boolean)]) [0] rfl
  exact W.zret (v := 0) hx hb hr rfl (fun t9 ht hW => ⟨⟨0, (), rfl, rfl, by rw [ht]; exact hP9, va_K.moved hW.alike hK9, hD9⟩, hS.F ht⟩) hS.2.2 dX7_line_42
set_option maxHeartbeats 4000000 in
set_option maxRecDepth 100000 in
theorem r_status (l : Launch) (dC : Nat → ClassId) (dI : Nat → Nat → Nat) (b_o : Nat) (b_m : Nat) (b_r : Nat) (b_l : Nat) (b_d : Nat) (b_w : Nat) (b_c : Nat) (b_q : Nat) (b_s : Nat) (pc : Int32) (tk : Int32) (g : Int32) (th : Int32) (sz : Nat) : Met l yX7_status (zq yX7_status cX7_status 1 (some .int)) ({ frames := 0, cells := 0, slots := 0, locals := 0 }) (va_Pc [.ref b_o] (zc_P (dC, dI) [(b_o, .inr (7, [.ref b_m, .ref b_r, .int 0, .int pc, .int tk, .int 0, .int 0, .int 0, .int 7, .int 0, .ref b_l, .int 0, .int 0, .int 0, .int 0, .int 0, .int 0, .int 0, .int 0, .int g, .ref b_d, .ref b_w, .ref b_c, .int 0, .ref b_q, .int 0, .int 0, .int 0, .ref b_s, .int th]))] [] sz)) (va_Qi (fun r _ => r = 0) (fun (u : Unit) t9 => zc_B (dC, dI) (va_A [(b_o, .inr (7, [.ref b_m, .ref b_r, .int 0, .int pc, .int tk, .int 0, .int 0, .int 0, .int 7, .int 0, .ref b_l, .int 0, .int 0, .int 0, .int 0, .int 0, .int 0, .int 0, .int 0, .int g, .ref b_d, .ref b_w, .ref b_c, .int 0, .ref b_q, .int 0, .int 0, .int 0, .ref b_s, .int th]))] sz) [(b_o, .inr (7, [.ref b_m, .ref b_r, .int 0, .int pc, .int tk, .int 0, .int 0, .int 0, .int 7, .int 0, .ref b_l, .int 0, .int 0, .int 0, .int 0, .int 0, .int 0, .int 0, .int 0, .int g, .ref b_d, .ref b_w, .ref b_c, .int 0, .ref b_q, .int 0, .int 0, .int 0, .ref b_s, .int th]))] [] t9) (va_A [(b_o, .inr (7, [.ref b_m, .ref b_r, .int 0, .int pc, .int tk, .int 0, .int 0, .int 0, .int 7, .int 0, .ref b_l, .int 0, .int 0, .int 0, .int 0, .int 0, .int 0, .int 0, .int 0, .int g, .ref b_d, .ref b_w, .ref b_c, .int 0, .ref b_q, .int 0, .int 0, .int 0, .ref b_s, .int th]))] sz)) 0 0 (va_A [(b_o, .inr (7, [.ref b_m, .ref b_r, .int 0, .int pc, .int tk, .int 0, .int 0, .int 0, .int 7, .int 0, .ref b_l, .int 0, .int 0, .int 0, .int 0, .int 0, .int 0, .int 0, .int 0, .int g, .ref b_d, .ref b_w, .ref b_c, .int 0, .ref b_q, .int 0, .int 0, .int 0, .ref b_s, .int th]))] sz) := by
  refine Met.ofW (cc := cX7_status) (maxL := 1) (ret := (some .int)) (by decide) rfl ?_
  intro p e s m args below meth c s₁ B hml hv
  obtain ⟨rfl, hsz, hP, hK, hD0, hN⟩ := hv
  have hx := B.exec
  have hb := B.bytes
  have hr := B.returns
  have hts : ∀ w ∈ zw, w.before _ s = true := fun w h => atoms_spec (ws := (zq yX7_status cX7_status 1 (some .int))) B.pre w (List.mem_cons_of_mem _ h)
  have hown : s.vm.findClass RX7 = some m.cls := findClass_of_methodNamed B.named
  have hlocks := B.notSynchronized
  subst hsz
  have hD := hD0.self (sz := s.heap.size)
  generalize hAe : va_A [(b_o, .inr (7, [.ref b_m, .ref b_r, .int 0, .int pc, .int tk, .int 0, .int 0, .int 0, .int 7, .int 0, .ref b_l, .int 0, .int 0, .int 0, .int 0, .int 0, .int 0, .int 0, .int 0, .int g, .ref b_d, .ref b_w, .ref b_c, .int 0, .ref b_q, .int 0, .int 0, .int 0, .ref b_s, .int th]))] s.heap.size = A at hD ⊢
  have hA : ∀ q : Nat, s.heap.size ≤ q → A q := fun q h => by rw [← hAe]; exact Or.inr h
  have hS : va_S A s.heap s.heap [] := va_S.rf
  have hP : va_P (dC, dI) vwCl [(b_o, .inr (7, [.ref b_m, .ref b_r, .int 0, .int pc, .int tk, .int 0, .int 0, .int 0, .int 7, .int 0, .ref b_l, .int 0, .int 0, .int 0, .int 0, .int 0, .int 0, .int 0, .int 0, .int g, .ref b_d, .ref b_w, .ref b_c, .int 0, .ref b_q, .int 0, .int 0, .int 0, .ref b_s, .int th]))] s.heap := hP
  have hl := lv_entry ([.ref b_o]) (n := 1) (Nat.le_of_ble_eq_true rfl)
  rw [lg_entry_eq]
  generalize (lg_sl ([.ref b_o]) ++ List.replicate (1 - (lg_sl ([.ref b_o])).length) Slot.unset).toArray = ls at hl ⊢
  have hl : lv_has ls 1 [(0, .ref b_o)] := hl
  refine lv_aload_n hx hb dX7_status_0 rfl (lv_at hl 0 rfl) ?_
  refine va_get (D := (dC, dI)) (ci := 7) (v := .int 0) (C := RX7) (T := TX7) (N := 30) hx hb hts zx_7 hown hK hP 0 rfl rfl 23 (by decide) (hts (.fieldLink RX7 101 "KeyboardKitModel" "keys" "I") zw_743) (fun _ h9 => h9) rfl dX7_status_1 ?_
  refine lv_bipush (v := 7) hx hb dX7_status_4 (by decide) ?_
  refine lv_iand hx hb dX7_status_6 ?_
  refine lv_topi (fun v_1 ev_1 => ?_)
  obtain rfl : v_1 = 0 := ev_1.trans (by decide)
  refine lv_aload_n hx hb dX7_status_7 rfl (lv_at hl 0 rfl) ?_
  refine va_get (D := (dC, dI)) (ci := 7) (v := .int 0) (C := RX7) (T := TX7) (N := 30) hx hb hts zx_7 hown hK hP 0 rfl rfl 23 (by decide) (hts (.fieldLink RX7 101 "KeyboardKitModel" "keys" "I") zw_743) (fun _ h9 => h9) rfl dX7_status_8 ?_
  refine lv_bipush (v := 8) hx hb dX7_status_11 (by decide) ?_
  refine lv_icmp_ne (tgt := 21) hx hb dX7_status_13 (by decide) (fun c_2 => ?_) (fun c_2 => absurd c_2 (by decide))
  refine lv_iconst (v := 0) hx hb dX7_status_21 (by decide) ?_
  refine lv_ior hx hb dX7_status_22 ?_
  refine lv_topi (fun v_3 ev_3 => ?_)
  obtain rfl : v_3 = 0 := ev_3.trans (by decide)
  refine lv_aload_n hx hb dX7_status_23 rfl (lv_at hl 0 rfl) ?_
  refine va_get (D := (dC, dI)) (ci := 7) (v := .int 0) (C := RX7) (T := TX7) (N := 30) hx hb hts zx_7 hown hK hP 0 rfl rfl 25 (by decide) (hts (.fieldLink RX7 104 "KeyboardKitModel" "under" "Z") zw_745) (fun _ h9 => h9) rfl dX7_status_24 ?_
  refine lv_if_eq (tgt := 35) hx hb dX7_status_27 (by decide) (fun c_4 => ?_) (fun c_4 => absurd c_4 (by decide))
  refine lv_iconst (v := 0) hx hb dX7_status_35 (by decide) ?_
  refine lv_ior hx hb dX7_status_36 ?_
  refine lv_topi (fun v_5 ev_5 => ?_)
  obtain rfl : v_5 = 0 := ev_5.trans (by decide)
  refine lv_aload_n hx hb dX7_status_37 rfl (lv_at hl 0 rfl) ?_
  refine va_get (D := (dC, dI)) (ci := 7) (v := .int 0) (C := RX7) (T := TX7) (N := 30) hx hb hts zx_7 hown hK hP 0 rfl rfl 26 (by decide) (hts (.fieldLink RX7 108 "KeyboardKitModel" "over" "Z") zw_746) (fun _ h9 => h9) rfl dX7_status_38 ?_
  refine lv_if_eq (tgt := 49) hx hb dX7_status_41 (by decide) (fun c_6 => ?_) (fun c_6 => absurd c_6 (by decide))
  refine lv_iconst (v := 0) hx hb dX7_status_49 (by decide) ?_
  refine lv_ior hx hb dX7_status_50 ?_
  refine lv_topi (fun v_7 ev_7 => ?_)
  obtain rfl : v_7 = 0 := ev_7.trans (by decide)
  have hP9 := hP.sub (ws' := [(b_o, .inr (7, [.ref b_m, .ref b_r, .int 0, .int pc, .int tk, .int 0, .int 0, .int 0, .int 7, .int 0, .ref b_l, .int 0, .int 0, .int 0, .int 0, .int 0, .int 0, .int 0, .int 0, .int g, .ref b_d, .ref b_w, .ref b_c, .int 0, .ref b_q, .int 0, .int 0, .int 0, .ref b_s, .int th]))]) [0] rfl
  have hD9 := hD.sub (ws' := [(b_o, .inr (7, [.ref b_m, .ref b_r, .int 0, .int pc, .int tk, .int 0, .int 0, .int 0, .int 7, .int 0, .ref b_l, .int 0, .int 0, .int 0, .int 0, .int 0, .int 0, .int 0, .int 0, .int g, .ref b_d, .ref b_w, .ref b_c, .int 0, .ref b_q, .int 0, .int 0, .int 0, .ref b_s, .int th]))]) [0] (by decide) rfl
  have hK9 := hK.sub (tys' := []) [] rfl
  exact W.iret (v := 0) hx hb hr (fun t9 ht hW => ⟨⟨0, (), rfl, rfl, by rw [ht]; exact hP9, va_K.moved hW.alike hK9, hD9⟩, hS.F ht⟩) hS.2.2 dX7_status_51
