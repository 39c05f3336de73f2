theorem dX6_peek_0 : decode cX6_peek 0 = .ok (.aload_n 0, 1) := by decide +kernel
theorem dX6_peek_1 : decode cX6_peek 1 = .ok (.getfield 9, 3) := by decide +kernel
theorem dX6_peek_10 : decode cX6_peek 10 = .ok (.ireturn, 1) := by decide +kernel
theorem dX6_peek_4 : decode cX6_peek 4 = .ok (.iload_n 1, 1) := by decide +kernel
theorem dX6_peek_5 : decode cX6_peek 5 = .ok (.sipush 1023, 3) := by decide +kernel
theorem dX6_peek_8 : decode cX6_peek 8 = .ok (.iand, 1) := by decide +kernel
theorem dX6_peek_9 : decode cX6_peek 9 = .ok (.iaload, 1) := by decide +kernel
theorem dX6_poke_0 : decode cX6_poke 0 = .ok (.aload_n 0, 1) := by decide +kernel
theorem dX6_poke_1 : decode cX6_poke 1 = .ok (.getfield 9, 3) := by decide +kernel
theorem dX6_poke_10 : decode cX6_poke 10 = .ok (.istore_n 3, 1) := by decide +kernel
theorem dX6_poke_11 : decode cX6_poke 11 = .ok (.aload_n 0, 1) := by decide +kernel
theorem dX6_poke_12 : decode cX6_poke 12 = .ok (.getfield 9, 3) := by decide +kernel
theorem dX6_poke_15 : decode cX6_poke 15 = .ok (.iload_n 1, 1) := by decide +kernel
theorem dX6_poke_16 : decode cX6_poke 16 = .ok (.sipush 1023, 3) := by decide +kernel
theorem dX6_poke_19 : decode cX6_poke 19 = .ok (.iand, 1) := by decide +kernel
theorem dX6_poke_20 : decode cX6_poke 20 = .ok (.iload_n 2, 1) := by decide +kernel
theorem dX6_poke_21 : decode cX6_poke 21 = .ok (.sipush 255, 3) := by decide +kernel
theorem dX6_poke_24 : decode cX6_poke 24 = .ok (.iand, 1) := by decide +kernel
theorem dX6_poke_25 : decode cX6_poke 25 = .ok (.iastore, 1) := by decide +kernel
theorem dX6_poke_26 : decode cX6_poke 26 = .ok (.iload_n 3, 1) := by decide +kernel
theorem dX6_poke_27 : decode cX6_poke 27 = .ok (.ireturn, 1) := by decide +kernel
theorem dX6_poke_4 : decode cX6_poke 4 = .ok (.iload_n 1, 1) := by decide +kernel
theorem dX6_poke_5 : decode cX6_poke 5 = .ok (.sipush 1023, 3) := by decide +kernel
theorem dX6_poke_8 : decode cX6_poke 8 = .ok (.iand, 1) := by decide +kernel
theorem dX6_poke_9 : decode cX6_poke 9 = .ok (.iaload, 1) := by decide +kernel
theorem dX6_step_0 : decode cX6_step 0 = .ok (.aload_n 0, 1) := by decide +kernel
theorem dX6_step_1 : decode cX6_step 1 = .ok (.getfield 39, 3) := by decide +kernel
theorem dX6_step_4 : decode cX6_step 4 = .ok (.invokevirtual 43, 3) := by decide +kernel
theorem dX6_step_7 : decode cX6_step 7 = .ok (.ireturn, 1) := by decide +kernel
set_option maxHeartbeats 4000000 in
set_option maxRecDepth 100000 in
/-- poke on a fresh object -/
theorem c_poke (l : Launch) (dC : Nat → ClassId) (dI : Nat → Nat → Nat) (a_k : Nat) (a_m : Nat) (a_t : Nat) (a_u : Nat) (a_i : Nat) (a_p : Nat) (k_m : ClassId) (p0 : Int32) (p1 : Int32) (sz : Nat) : Met l yX6_poke (zq yX6_poke cX6_poke 4 (some .int)) ({ frames := 0, cells := 0, slots := 0, locals := 0 }) (va_Pc [.ref a_k, .int p0, .int p1] (zc_P (dC, dI) [(a_k, .inr (6, [.ref a_m, .ref a_t, .ref a_u, .ref a_i, .ref a_p])), (a_m, .inl (k_m, 1024, .inl (fun _ => 0)))] [(k_m, .int)] sz)) (va_Qi (fun r _ => r = 0) (fun (u : Unit) t9 => zc_B (dC, dI) (va_A [(a_k, .inr (6, [.ref a_m, .ref a_t, .ref a_u, .ref a_i, .ref a_p])), (a_m, .inl (k_m, 1024, .inl (fun _ => 0)))] sz) [] [] t9) (va_A [(a_k, .inr (6, [.ref a_m, .ref a_t, .ref a_u, .ref a_i, .ref a_p])), (a_m, .inl (k_m, 1024, .inl (fun _ => 0)))] sz)) 0 0 (va_A [(a_k, .inr (6, [.ref a_m, .ref a_t, .ref a_u, .ref a_i, .ref a_p])), (a_m, .inl (k_m, 1024, .inl (fun _ => 0)))] sz) := by
  refine Met.ofW (cc := cX6_poke) (maxL := 4) (ret := (some .int)) (by decide) rfl ?_
  intro p e s m args below meth c s₁ B hml hv
  obtain ⟨rfl, hsz, hP, hK, hD0, hN⟩ := hv
  have hx := B.exec
  have hb := B.bytes
  have hr := B.returns
  have hts : ∀ w ∈ zw, w.before _ s = true := fun w h => atoms_spec (ws := (zq yX6_poke cX6_poke 4 (some .int))) B.pre w (List.mem_cons_of_mem _ h)
  have hown : s.vm.findClass RX6 = some m.cls := findClass_of_methodNamed B.named
  have hlocks := B.notSynchronized
  subst hsz
  have hD := hD0.self (sz := s.heap.size)
  generalize hAe : va_A [(a_k, .inr (6, [.ref a_m, .ref a_t, .ref a_u, .ref a_i, .ref a_p])), (a_m, .inl (k_m, 1024, .inl (fun _ => 0)))] s.heap.size = A at hD ⊢
  have hA : ∀ q : Nat, s.heap.size ≤ q → A q := fun q h => by rw [← hAe]; exact Or.inr h
  have hS : va_S A s.heap s.heap [] := va_S.rf
  have hP : va_P (dC, dI) vwCl [(a_k, .inr (6, [.ref a_m, .ref a_t, .ref a_u, .ref a_i, .ref a_p])), (a_m, .inl (k_m, 1024, .inl (fun _ => 0)))] s.heap := hP
  have hl := lv_entry ([.ref a_k, .int p0, .int p1]) (n := 4) (Nat.le_of_ble_eq_true rfl)
  rw [lg_entry_eq]
  generalize (lg_sl ([.ref a_k, .int p0, .int p1]) ++ List.replicate (4 - (lg_sl ([.ref a_k, .int p0, .int p1])).length) Slot.unset).toArray = ls at hl ⊢
  have hl : lv_has ls 4 [(0, .ref a_k), (1, .int p0), (2, .int p1)] := hl
  refine lv_aload_n hx hb dX6_poke_0 rfl (lv_at hl 0 rfl) ?_
  refine va_get (D := (dC, dI)) (ci := 6) (v := .ref a_m) (C := RX6) (T := TX6) (N := 5) hx hb hts zx_6 hown hK hP 0 rfl rfl 0 (by decide) (hts (.fieldLink RX6 9 "KeyboardKit" "memory" "[I") zw_288) (fun _ h9 => h9) rfl dX6_poke_1 ?_
  refine lv_iload_n hx hb dX6_poke_4 rfl (lv_at hl 1 rfl) ?_
  refine lv_sipush (v := 1023) hx hb dX6_poke_5 (by decide) ?_
  refine lv_iand hx hb dX6_poke_8 ?_
  refine lv_topi (fun v_1 ev_1 => ?_)
  refine va_iald hx hb hK hP 1 0 rfl rfl (by rw [ev_1]; exact pk_andIn _ 10 (by decide) (by decide)) dX6_poke_9 ?_
  refine lv_topi (fun v_2 ev_2 => ?_)
  obtain rfl : v_2 = 0 := ev_2.trans rfl
  refine lv_istore_n (lv' := [(3, .int 0), (0, .ref a_k), (1, .int p0), (2, .int p1)]) hx hb dX6_poke_10 rfl hl (by decide) rfl (fun ls hl => ?_)
  refine lv_aload_n hx hb dX6_poke_11 rfl (lv_at hl 1 rfl) ?_
  refine va_get (D := (dC, dI)) (ci := 6) (v := .ref a_m) (C := RX6) (T := TX6) (N := 5) hx hb hts zx_6 hown hK hP 0 rfl rfl 0 (by decide) (hts (.fieldLink RX6 9 "KeyboardKit" "memory" "[I") zw_288) (fun _ h9 => h9) rfl dX6_poke_12 ?_
  refine lv_iload_n hx hb dX6_poke_15 rfl (lv_at hl 2 rfl) ?_
  refine lv_sipush (v := 1023) hx hb dX6_poke_16 (by decide) ?_
  refine lv_iand hx hb dX6_poke_19 ?_
  refine lv_topi (fun v_3 ev_3 => ?_)
  refine lv_iload_n hx hb dX6_poke_20 rfl (lv_at hl 3 rfl) ?_
  refine lv_sipush (v := 255) hx hb dX6_poke_21 (by decide) ?_
  refine lv_iand hx hb dX6_poke_24 ?_
  refine lv_topi (fun v_4 ev_4 => ?_)
  refine va_iast hx hb hK hP hD hS 1 0 rfl rfl (by rw [ev_3]; exact pk_andIn _ 10 (by decide) (by decide)) dX6_poke_25 (fun H locs hP hD hS => ?_)
  have hP : va_P (dC, dI) vwCl [(a_k, .inr (6, [.ref a_m, .ref a_t, .ref a_u, .ref a_i, .ref a_p])), (a_m, .inl (k_m, 1024, .inl (upd (fun _ => 0) (v_3 : Int32).toNatClampNeg v_4)))] H := hP
  have hD : va_D A [(a_k, .inr (6, [.ref a_m, .ref a_t, .ref a_u, .ref a_i, .ref a_p])), (a_m, .inl (k_m, 1024, .inl (upd (fun _ => 0) (v_3 : Int32).toNatClampNeg v_4)))] := hD
  refine lv_iload_n hx hb dX6_poke_26 rfl (lv_at hl 0 rfl) ?_
  have hP9 := hP.sub (ws' := []) [] rfl
  have hD9 := hD.sub (ws' := []) [] (by decide) rfl
  have hK9 := hK.sub (tys' := []) [] rfl
  exact W.iret (v := 0) hx hb hr (fun t9 ht hW => ⟨⟨0, (), rfl, rfl, by rw [ht]; exact hP9, va_K.moved hW.alike hK9, hD9⟩, hS.F ht⟩) hS.2.2 dX6_poke_27
set_option maxHeartbeats 4000000 in
set_option maxRecDepth 100000 in
/-- peek -/
theorem c_peek (l : Launch) (dC : Nat → ClassId) (dI : Nat → Nat → Nat) (a_k : Nat) (a_m : Nat) (a_t : Nat) (a_u : Nat) (a_i : Nat) (a_p : Nat) (k_m : ClassId) (p0 : Int32) (sz : Nat) : Met l yX6_peek (zq yX6_peek cX6_peek 2 (some .int)) ({ frames := 0, cells := 0, slots := 0, locals := 0 }) (va_Pc [.ref a_k, .int p0] (zc_P (dC, dI) [(a_k, .inr (6, [.ref a_m, .ref a_t, .ref a_u, .ref a_i, .ref a_p])), (a_m, .inl (k_m, 1024, .inl (fun _ => 0)))] [(k_m, .int)] sz)) (va_Qi (fun r _ => r = 0) (fun (u : Unit) t9 => zc_B (dC, dI) (va_A [(a_k, .inr (6, [.ref a_m, .ref a_t, .ref a_u, .ref a_i, .ref a_p])), (a_m, .inl (k_m, 1024, .inl (fun _ => 0)))] sz) [] [] t9) (va_A [(a_k, .inr (6, [.ref a_m, .ref a_t, .ref a_u, .ref a_i, .ref a_p])), (a_m, .inl (k_m, 1024, .inl (fun _ => 0)))] sz)) 0 0 (va_A [(a_k, .inr (6, [.ref a_m, .ref a_t, .ref a_u, .ref a_i, .ref a_p])), (a_m, .inl (k_m, 1024, .inl (fun _ => 0)))] sz) := by
  refine Met.ofW (cc := cX6_peek) (maxL := 2) (ret := (some .int)) (by decide) rfl ?_
  intro p e s m args below meth c s₁ B hml hv
  obtain ⟨rfl, hsz, hP, hK, hD0, hN⟩ := hv
  have hx := B.exec
  have hb := B.bytes
  have hr := B.returns
  have hts : ∀ w ∈ zw, w.before _ s = true := fun w h => atoms_spec (ws := (zq yX6_peek cX6_peek 2 (some .int))) B.pre w (List.mem_cons_of_mem _ h)
  have hown : s.vm.findClass RX6 = some m.cls := findClass_of_methodNamed B.named
  have hlocks := B.notSynchronized
  subst hsz
  have hD := hD0.self (sz := s.heap.size)
  generalize hAe : va_A [(a_k, .inr (6, [.ref a_m, .ref a_t, .ref a_u, .ref a_i, .ref a_p])), (a_m, .inl (k_m, 1024, .inl (fun _ => 0)))] s.heap.size = A at hD ⊢
  have hA : ∀ q : Nat, s.heap.size ≤ q → A q := fun q h => by rw [← hAe]; exact Or.inr h
  have hS : va_S A s.heap s.heap [] := va_S.rf
  have hP : va_P (dC, dI) vwCl [(a_k, .inr (6, [.ref a_m, .ref a_t, .ref a_u, .ref a_i, .ref a_p])), (a_m, .inl (k_m, 1024, .inl (fun _ => 0)))] s.heap := hP
  have hl := lv_entry ([.ref a_k, .int p0]) (n := 2) (Nat.le_of_ble_eq_true rfl)
  rw [lg_entry_eq]
  generalize (lg_sl ([.ref a_k, .int p0]) ++ List.replicate (2 - (lg_sl ([.ref a_k, .int p0])).length) Slot.unset).toArray = ls at hl ⊢
  have hl : lv_has ls 2 [(0, .ref a_k), (1, .int p0)] := hl
  refine lv_aload_n hx hb dX6_peek_0 rfl (lv_at hl 0 rfl) ?_
  refine va_get (D := (dC, dI)) (ci := 6) (v := .ref a_m) (C := RX6) (T := TX6) (N := 5) hx hb hts zx_6 hown hK hP 0 rfl rfl 0 (by decide) (hts (.fieldLink RX6 9 "KeyboardKit" "memory" "[I") zw_288) (fun _ h9 => h9) rfl dX6_peek_1 ?_
  refine lv_iload_n hx hb dX6_peek_4 rfl (lv_at hl 1 rfl) ?_
  refine lv_sipush (v := 1023) hx hb dX6_peek_5 (by decide) ?_
  refine lv_iand hx hb dX6_peek_8 ?_
  refine lv_topi (fun v_1 ev_1 => ?_)
  refine va_iald hx hb hK hP 1 0 rfl rfl (by rw [ev_1]; exact pk_andIn _ 10 (by decide) (by decide)) dX6_peek_9 ?_
  refine lv_topi (fun v_2 ev_2 => ?_)
  obtain rfl : v_2 = 0 := ev_2.trans rfl
  have hP9 := hP.sub (ws' := []) [] rfl
  have hD9 := hD.sub (ws' := []) [] (by decide) rfl
  have hK9 := hK.sub (tys' := []) [] rfl
  exact W.iret (v := 0) hx hb hr (fun t9 ht hW => ⟨⟨0, (), rfl, rfl, by rw [ht]; exact hP9, va_K.moved hW.alike hK9, hD9⟩, hS.F ht⟩) hS.2.2 dX6_peek_10
set_option maxHeartbeats 4000000 in
set_option maxRecDepth 100000 in
/-- step -/
theorem c_step (l : Launch) (dC : Nat → ClassId) (dI : Nat → Nat → Nat) (a_k : Nat) (a_m : Nat) (a_t : Nat) (a_u : Nat) (a_i : Nat) (a_p : Nat) (a_o : Nat) (a_r : Nat) (a_f : Nat) (a_d : Nat) (a_b : Nat) (a_c : Nat) (a_q : Nat) (a_s : Nat) (k_d : ClassId) (k_b : ClassId) (k_c : ClassId) (k_m : ClassId) (pc : Int32) (tk : Int32) (t : Int32) (sz : Nat) : Met l yX6_step (zq yX6_step cX6_step 1 (some .int)) ({ frames := 4, cells := 0, slots := 0, locals := 88 }) (va_Pc [.ref a_k] (zc_P (dC, dI) [(a_k, .inr (6, [.ref a_m, .ref a_t, .ref a_u, .ref a_i, .ref a_p])), (a_p, .inr (4, [.ref a_m, .ref a_t, .ref a_u, .ref a_i, .ref a_o, .ref a_r, .ref a_f, .int 0, .int pc, .int 0, .int tk])), (a_t, .inr (5, [.int 0, .int 0, .int 0, .int 0, .int 0, .int 0, .int 0])), (a_u, .inr (2, [.ref a_d, .ref a_b, .ref a_c, .ref a_q, .int 0, .int 0, .int 0, .int 0, .ref a_s, .int 0, .int t])), (a_d, .inl (k_d, 16, .inl (fun _ => 0))), (a_b, .inl (k_b, 16, .inl (fun _ => 0))), (a_c, .inl (k_c, 16, .inl (fun _ => 0))), (a_i, .inr (1, [.int 0, .int 0, .int 7, .int 0, .int 0, .int 0, .int 0])), (a_m, .inl (k_m, 1024, .inl (fun _ => 0)))] [(k_d, .boolean), (k_b, .boolean), (k_c, .boolean), (k_m, .int)] sz)) (va_Qi (fun r _ => r = 4) (fun (u : Unit) t9 => zc_B (dC, dI) (va_A [(a_k, .inr (6, [.ref a_m, .ref a_t, .ref a_u, .ref a_i, .ref a_p])), (a_p, .inr (4, [.ref a_m, .ref a_t, .ref a_u, .ref a_i, .ref a_o, .ref a_r, .ref a_f, .int 0, .int pc, .int 0, .int tk])), (a_t, .inr (5, [.int 0, .int 0, .int 0, .int 0, .int 0, .int 0, .int 0])), (a_u, .inr (2, [.ref a_d, .ref a_b, .ref a_c, .ref a_q, .int 0, .int 0, .int 0, .int 0, .ref a_s, .int 0, .int t])), (a_d, .inl (k_d, 16, .inl (fun _ => 0))), (a_b, .inl (k_b, 16, .inl (fun _ => 0))), (a_c, .inl (k_c, 16, .inl (fun _ => 0))), (a_i, .inr (1, [.int 0, .int 0, .int 7, .int 0, .int 0, .int 0, .int 0])), (a_m, .inl (k_m, 1024, .inl (fun _ => 0)))] sz) [] [] t9) (va_A [(a_k, .inr (6, [.ref a_m, .ref a_t, .ref a_u, .ref a_i, .ref a_p])), (a_p, .inr (4, [.ref a_m, .ref a_t, .ref a_u, .ref a_i, .ref a_o, .ref a_r, .ref a_f, .int 0, .int pc, .int 0, .int tk])), (a_t, .inr (5, [.int 0, .int 0, .int 0, .int 0, .int 0, .int 0, .int 0])), (a_u, .inr (2, [.ref a_d, .ref a_b, .ref a_c, .ref a_q, .int 0, .int 0, .int 0, .int 0, .ref a_s, .int 0, .int t])), (a_d, .inl (k_d, 16, .inl (fun _ => 0))), (a_b, .inl (k_b, 16, .inl (fun _ => 0))), (a_c, .inl (k_c, 16, .inl (fun _ => 0))), (a_i, .inr (1, [.int 0, .int 0, .int 7, .int 0, .int 0, .int 0, .int 0])), (a_m, .inl (k_m, 1024, .inl (fun _ => 0)))] sz)) 0 0 (va_A [(a_k, .inr (6, [.ref a_m, .ref a_t, .ref a_u, .ref a_i, .ref a_p])), (a_p, .inr (4, [.ref a_m, .ref a_t, .ref a_u, .ref a_i, .ref a_o, .ref a_r, .ref a_f, .int 0, .int pc, .int 0, .int tk])), (a_t, .inr (5, [.int 0, .int 0, .int 0, .int 0, .int 0, .int 0, .int 0])), (a_u, .inr (2, [.ref a_d, .ref a_b, .ref a_c, .ref a_q, .int 0, .int 0, .int 0, .int 0, .ref a_s, .int 0, .int t])), (a_d, .inl (k_d, 16, .inl (fun _ => 0))), (a_b, .inl (k_b, 16, .inl (fun _ => 0))), (a_c, .inl (k_c, 16, .inl (fun _ => 0))), (a_i, .inr (1, [.int 0, .int 0, .int 7, .int 0, .int 0, .int 0, .int 0])), (a_m, .inl (k_m, 1024, .inl (fun _ => 0)))] sz) := by
  refine Met.ofW (cc := cX6_step) (maxL := 1) (ret := (some .int)) (by decide) rfl ?_
  intro p e s m args below meth c s₁ B hml hv
  obtain ⟨rfl, hsz, hP, hK, hD0, hN⟩ := hv
  have hx := B.exec
  have hb := B.bytes
  have hr := B.returns
  have hts : ∀ w ∈ zw, w.before _ s = true := fun w h => atoms_spec (ws := (zq yX6_step cX6_step 1 (some .int))) B.pre w (List.mem_cons_of_mem _ h)
  have hown : s.vm.findClass RX6 = some m.cls := findClass_of_methodNamed B.named
  have hlocks := B.notSynchronized
  subst hsz
  have hD := hD0.self (sz := s.heap.size)
  generalize hAe : va_A [(a_k, .inr (6, [.ref a_m, .ref a_t, .ref a_u, .ref a_i, .ref a_p])), (a_p, .inr (4, [.ref a_m, .ref a_t, .ref a_u, .ref a_i, .ref a_o, .ref a_r, .ref a_f, .int 0, .int pc, .int 0, .int tk])), (a_t, .inr (5, [.int 0, .int 0, .int 0, .int 0, .int 0, .int 0, .int 0])), (a_u, .inr (2, [.ref a_d, .ref a_b, .ref a_c, .ref a_q, .int 0, .int 0, .int 0, .int 0, .ref a_s, .int 0, .int t])), (a_d, .inl (k_d, 16, .inl (fun _ => 0))), (a_b, .inl (k_b, 16, .inl (fun _ => 0))), (a_c, .inl (k_c, 16, .inl (fun _ => 0))), (a_i, .inr (1, [.int 0, .int 0, .int 7, .int 0, .int 0, .int 0, .int 0])), (a_m, .inl (k_m, 1024, .inl (fun _ => 0)))] s.heap.size = A at hD ⊢
  have hA : ∀ q : Nat, s.heap.size ≤ q → A q := fun q h => by rw [← hAe]; exact Or.inr h
  have hS : va_S A s.heap s.heap [] := va_S.rf
  have hP : va_P (dC, dI) vwCl [(a_k, .inr (6, [.ref a_m, .ref a_t, .ref a_u, .ref a_i, .ref a_p])), (a_p, .inr (4, [.ref a_m, .ref a_t, .ref a_u, .ref a_i, .ref a_o, .ref a_r, .ref a_f, .int 0, .int pc, .int 0, .int tk])), (a_t, .inr (5, [.int 0, .int 0, .int 0, .int 0, .int 0, .int 0, .int 0])), (a_u, .inr (2, [.ref a_d, .ref a_b, .ref a_c, .ref a_q, .int 0, .int 0, .int 0, .int 0, .ref a_s, .int 0, .int t])), (a_d, .inl (k_d, 16, .inl (fun _ => 0))), (a_b, .inl (k_b, 16, .inl (fun _ => 0))), (a_c, .inl (k_c, 16, .inl (fun _ => 0))), (a_i, .inr (1, [.int 0, .int 0, .int 7, .int 0, .int 0, .int 0, .int 0])), (a_m, .inl (k_m, 1024, .inl (fun _ => 0)))] s.heap := hP
  have hl := lv_entry ([.ref a_k]) (n := 1) (Nat.le_of_ble_eq_true rfl)
  rw [lg_entry_eq]
  generalize (lg_sl ([.ref a_k]) ++ List.replicate (1 - (lg_sl ([.ref a_k])).length) Slot.unset).toArray = ls at hl ⊢
  have hl : lv_has ls 1 [(0, .ref a_k)] := hl
  refine lv_aload_n hx hb dX6_step_0 rfl (lv_at hl 0 rfl) ?_
  refine va_get (D := (dC, dI)) (ci := 6) (v := .ref a_p) (C := RX6) (T := TX6) (N := 5) hx hb hts zx_6 hown hK hP 0 rfl rfl 4 (by decide) (hts (.fieldLink RX6 39 "KeyboardKit" "processor" "LKeyboardKit$Processor;") zw_292) (fun _ h9 => h9) rfl dX6_step_1 ?_
  refine zc_i (wr := [(a_k, .inr (6, [.ref a_m, .ref a_t, .ref a_u, .ref a_i, .ref a_p]))]) hP hD hS hA [1, 2, 3, 4, 5, 6, 7, 8] [0] rfl rfl (by decide) (by decide) (va_runV (As := []) (rest := []) ⟨hx, hb, hml, hown, hts⟩ (c_adv l dC dI a_p a_m a_t a_u a_i a_o a_r a_f a_d a_b a_c a_q a_s k_d k_b k_c k_m pc tk t _) (cwV 0 hts (zg_V zw_316 zw_317 zw_318 zw_87 zw_319) rfl rfl rfl (by decide +kernel) ⟨Nat.le_of_ble_eq_true rfl, Nat.le_of_ble_eq_true rfl⟩) ⟨zc_blind, va_recv hK hP (ci := 4) (q0 := 1) rfl rfl, zc_start hP hD hK hN [1, 2, 3, 4, 5, 6, 7, 8] [0, 1, 2, 3] rfl (by decide) rfl⟩ rfl rfl hl.1 rfl (lv_room (Nat.le_of_ble_eq_true rfl)) dX6_step_4 ⟨Nat.le_of_ble_eq_true rfl, Nat.le_of_ble_eq_true rfl⟩) (fun r_1 u_1 H locs hw hK1 hP hD hS => ?_)
  have hP : va_P (dC, dI) vwCl [(a_k, .inr (6, [.ref a_m, .ref a_t, .ref a_u, .ref a_i, .ref a_p])), (a_p, .inr (4, [.ref a_m, .ref a_t, .ref a_u, .ref a_i, .ref a_o, .ref a_r, .ref a_f, .int 0, .int (u_1 0), .int 0, .int 4])), (a_t, .inr (5, [.int 0, .int 0, .int 0, .int 0, .int 0, .int 0, .int 0])), (a_u, .inr (2, [.ref a_d, .ref a_b, .ref a_c, .ref a_q, .int 0, .int 0, .int 0, .int 0, .ref a_s, .int 0, .int (u_1 1)])), (a_d, .inl (k_d, 16, .inl (fun _ => 0))), (a_b, .inl (k_b, 16, .inl (fun _ => 0))), (a_c, .inl (k_c, 16, .inl (fun _ => 0))), (a_i, .inr (1, [.int 0, .int 0, .int 7, .int 0, .int 0, .int 0, .int 0])), (a_m, .inl (k_m, 1024, .inl (fun _ => 0)))] H := hP
  have hD : va_D A [(a_k, .inr (6, [.ref a_m, .ref a_t, .ref a_u, .ref a_i, .ref a_p])), (a_p, .inr (4, [.ref a_m, .ref a_t, .ref a_u, .ref a_i, .ref a_o, .ref a_r, .ref a_f, .int 0, .int (u_1 0), .int 0, .int 4])), (a_t, .inr (5, [.int 0, .int 0, .int 0, .int 0, .int 0, .int 0, .int 0])), (a_u, .inr (2, [.ref a_d, .ref a_b, .ref a_c, .ref a_q, .int 0, .int 0, .int 0, .int 0, .ref a_s, .int 0, .int (u_1 1)])), (a_d, .inl (k_d, 16, .inl (fun _ => 0))), (a_b, .inl (k_b, 16, .inl (fun _ => 0))), (a_c, .inl (k_c, 16, .inl (fun _ => 0))), (a_i, .inr (1, [.int 0, .int 0, .int 7, .int 0, .int 0, .int 0, .int 0])), (a_m, .inl (k_m, 1024, .inl (fun _ => 0)))] := hD
  obtain rfl : r_1 = 4 := hw
  have hP9 := hP.sub (ws' := []) [] rfl
  have hD9 := hD.sub (ws' := []) [] (by decide) rfl
  have hK9 := hK.sub (tys' := []) [] rfl
  exact W.iret (v := 4) hx hb hr (fun t9 ht hW => ⟨⟨4, (), rfl, rfl, by rw [ht]; exact hP9, va_K.moved hW.alike hK9, hD9⟩, hS.F ht⟩) hS.2.2 dX6_step_7
