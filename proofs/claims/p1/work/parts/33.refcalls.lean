theorem dX7_peek_0 : decode cX7_peek 0 = .ok (.aload_n 0, 1) := by decide +kernel
theorem dX7_peek_1 : decode cX7_peek 1 = .ok (.iconst 0, 1) := by decide +kernel
theorem dX7_peek_10 : decode cX7_peek 10 = .ok (.sipush 1023, 3) := by decide +kernel
theorem dX7_peek_13 : decode cX7_peek 13 = .ok (.iand, 1) := by decide +kernel
theorem dX7_peek_14 : decode cX7_peek 14 = .ok (.iaload, 1) := by decide +kernel
theorem dX7_peek_15 : decode cX7_peek 15 = .ok (.ireturn, 1) := by decide +kernel
theorem dX7_peek_2 : decode cX7_peek 2 = .ok (.putfield 39, 3) := by decide +kernel
theorem dX7_peek_5 : decode cX7_peek 5 = .ok (.aload_n 0, 1) := by decide +kernel
theorem dX7_peek_6 : decode cX7_peek 6 = .ok (.getfield 7, 3) := by decide +kernel
theorem dX7_peek_9 : decode cX7_peek 9 = .ok (.iload_n 1, 1) := by decide +kernel
theorem dX7_poke_0 : decode cX7_poke 0 = .ok (.aload_n 0, 1) := by decide +kernel
theorem dX7_poke_1 : decode cX7_poke 1 = .ok (.iconst 0, 1) := by decide +kernel
theorem dX7_poke_10 : decode cX7_poke 10 = .ok (.sipush 1023, 3) := by decide +kernel
theorem dX7_poke_13 : decode cX7_poke 13 = .ok (.iand, 1) := by decide +kernel
theorem dX7_poke_14 : decode cX7_poke 14 = .ok (.iaload, 1) := by decide +kernel
theorem dX7_poke_15 : decode cX7_poke 15 = .ok (.istore_n 3, 1) := by decide +kernel
theorem dX7_poke_16 : decode cX7_poke 16 = .ok (.aload_n 0, 1) := by decide +kernel
theorem dX7_poke_17 : decode cX7_poke 17 = .ok (.getfield 7, 3) := by decide +kernel
theorem dX7_poke_2 : decode cX7_poke 2 = .ok (.putfield 39, 3) := by decide +kernel
theorem dX7_poke_20 : decode cX7_poke 20 = .ok (.iload_n 1, 1) := by decide +kernel
theorem dX7_poke_21 : decode cX7_poke 21 = .ok (.sipush 1023, 3) := by decide +kernel
theorem dX7_poke_24 : decode cX7_poke 24 = .ok (.iand, 1) := by decide +kernel
theorem dX7_poke_25 : decode cX7_poke 25 = .ok (.iload_n 2, 1) := by decide +kernel
theorem dX7_poke_26 : decode cX7_poke 26 = .ok (.sipush 255, 3) := by decide +kernel
theorem dX7_poke_29 : decode cX7_poke 29 = .ok (.iand, 1) := by decide +kernel
theorem dX7_poke_30 : decode cX7_poke 30 = .ok (.iastore, 1) := by decide +kernel
theorem dX7_poke_31 : decode cX7_poke 31 = .ok (.iload_n 3, 1) := by decide +kernel
theorem dX7_poke_32 : decode cX7_poke 32 = .ok (.ireturn, 1) := by decide +kernel
theorem dX7_poke_5 : decode cX7_poke 5 = .ok (.aload_n 0, 1) := by decide +kernel
theorem dX7_poke_6 : decode cX7_poke 6 = .ok (.getfield 7, 3) := by decide +kernel
theorem dX7_poke_9 : decode cX7_poke 9 = .ok (.iload_n 1, 1) := by decide +kernel
theorem dX7_step_0 : decode cX7_step 0 = .ok (.aload_n 0, 1) := by decide +kernel
theorem dX7_step_1 : decode cX7_step 1 = .ok (.iconst 0, 1) := by decide +kernel
theorem dX7_step_2 : decode cX7_step 2 = .ok (.putfield 39, 3) := by decide +kernel
theorem dX7_step_5 : decode cX7_step 5 = .ok (.aload_n 0, 1) := by decide +kernel
theorem dX7_step_6 : decode cX7_step 6 = .ok (.invokevirtual 232, 3) := by decide +kernel
theorem dX7_step_9 : decode cX7_step 9 = .ok (.ireturn, 1) := by decide +kernel
theorem dX7_thrown_0 : decode cX7_thrown 0 = .ok (.aload_n 0, 1) := by decide +kernel
theorem dX7_thrown_1 : decode cX7_thrown 1 = .ok (.getfield 39, 3) := by decide +kernel
theorem dX7_thrown_4 : decode cX7_thrown 4 = .ok (.ireturn, 1) := by decide +kernel
set_option maxHeartbeats 4000000 in
set_option maxRecDepth 100000 in
theorem r_thrown (l : Launch) (dC : Nat → ClassId) (dI : Nat → Nat → Nat) (b_o : Nat) (b_m : Nat) (b_r : Nat) (b_l : Nat) (b_d : Nat) (b_w : Nat) (b_c : Nat) (b_q : Nat) (b_s : Nat) (pc : Int32) (tk : Int32) (g : Int32) (th : Int32) (sp : Int32) (sz : Nat) : Met l yX7_thrown (zq yX7_thrown cX7_thrown 1 (some .int)) ({ frames := 0, cells := 0, slots := 0, locals := 0 }) (va_Pc [.ref b_o] (zc_P (dC, dI) [(b_o, .inr (7, [.ref b_m, .ref b_r, .int sp, .int pc, .int tk, .int 0, .int 0, .int 0, .int 7, .int 0, .ref b_l, .int 0, .int 0, .int 0, .int 0, .int 0, .int 0, .int 0, .int 0, .int g, .ref b_d, .ref b_w, .ref b_c, .int 0, .ref b_q, .int 0, .int 0, .int 0, .ref b_s, .int th]))] [] sz)) (va_Qi (fun r _ => r = th) (fun (u : Unit) t9 => zc_B (dC, dI) (va_A [(b_o, .inr (7, [.ref b_m, .ref b_r, .int sp, .int pc, .int tk, .int 0, .int 0, .int 0, .int 7, .int 0, .ref b_l, .int 0, .int 0, .int 0, .int 0, .int 0, .int 0, .int 0, .int 0, .int g, .ref b_d, .ref b_w, .ref b_c, .int 0, .ref b_q, .int 0, .int 0, .int 0, .ref b_s, .int th]))] sz) [] [] t9) (va_A [(b_o, .inr (7, [.ref b_m, .ref b_r, .int sp, .int pc, .int tk, .int 0, .int 0, .int 0, .int 7, .int 0, .ref b_l, .int 0, .int 0, .int 0, .int 0, .int 0, .int 0, .int 0, .int 0, .int g, .ref b_d, .ref b_w, .ref b_c, .int 0, .ref b_q, .int 0, .int 0, .int 0, .ref b_s, .int th]))] sz)) 0 0 (va_A [(b_o, .inr (7, [.ref b_m, .ref b_r, .int sp, .int pc, .int tk, .int 0, .int 0, .int 0, .int 7, .int 0, .ref b_l, .int 0, .int 0, .int 0, .int 0, .int 0, .int 0, .int 0, .int 0, .int g, .ref b_d, .ref b_w, .ref b_c, .int 0, .ref b_q, .int 0, .int 0, .int 0, .ref b_s, .int th]))] sz) := by
  refine Met.ofW (cc := cX7_thrown) (maxL := 1) (ret := (some .int)) (by decide) rfl ?_
  intro p e s m args below meth c s₁ B hml hv
  obtain ⟨rfl, hsz, hP, hK, hD0, hN⟩ := hv
  have hx := B.exec
  have hb := B.bytes
  have hr := B.returns
  have hts : ∀ w ∈ zw, w.before _ s = true := fun w h => atoms_spec (ws := (zq yX7_thrown cX7_thrown 1 (some .int))) B.pre w (List.mem_cons_of_mem _ h)
  have hown : s.vm.findClass RX7 = some m.cls := findClass_of_methodNamed B.named
  have hlocks := B.notSynchronized
  subst hsz
  have hD := hD0.self (sz := s.heap.size)
  generalize hAe : va_A [(b_o, .inr (7, [.ref b_m, .ref b_r, .int sp, .int pc, .int tk, .int 0, .int 0, .int 0, .int 7, .int 0, .ref b_l, .int 0, .int 0, .int 0, .int 0, .int 0, .int 0, .int 0, .int 0, .int g, .ref b_d, .ref b_w, .ref b_c, .int 0, .ref b_q, .int 0, .int 0, .int 0, .ref b_s, .int th]))] s.heap.size = A at hD ⊢
  have hA : ∀ q : Nat, s.heap.size ≤ q → A q := fun q h => by rw [← hAe]; exact Or.inr h
  have hS : va_S A s.heap s.heap [] := va_S.rf
  have hP : va_P (dC, dI) vwCl [(b_o, .inr (7, [.ref b_m, .ref b_r, .int sp, .int pc, .int tk, .int 0, .int 0, .int 0, .int 7, .int 0, .ref b_l, .int 0, .int 0, .int 0, .int 0, .int 0, .int 0, .int 0, .int 0, .int g, .ref b_d, .ref b_w, .ref b_c, .int 0, .ref b_q, .int 0, .int 0, .int 0, .ref b_s, .int th]))] s.heap := hP
  have hl := lv_entry ([.ref b_o]) (n := 1) (Nat.le_of_ble_eq_true rfl)
  rw [lg_entry_eq]
  generalize (lg_sl ([.ref b_o]) ++ List.replicate (1 - (lg_sl ([.ref b_o])).length) Slot.unset).toArray = ls at hl ⊢
  have hl : lv_has ls 1 [(0, .ref b_o)] := hl
  refine lv_aload_n hx hb dX7_thrown_0 rfl (lv_at hl 0 rfl) ?_
  refine va_get (D := (dC, dI)) (ci := 7) (v := .int th) (C := RX7) (T := TX7) (N := 30) hx hb hts zx_7 hown hK hP 0 rfl rfl 29 (by decide) (hts (.fieldLink RX7 39 "KeyboardKitModel" "thrown" "I") zw_749) (fun _ h9 => h9) rfl dX7_thrown_1 ?_
  have hP9 := hP.sub (ws' := []) [] rfl
  have hD9 := hD.sub (ws' := []) [] (by decide) rfl
  have hK9 := hK.sub (tys' := []) [] rfl
  exact W.iret (v := th) hx hb hr (fun t9 ht hW => ⟨⟨th, (), rfl, rfl, by rw [ht]; exact hP9, va_K.moved hW.alike hK9, hD9⟩, hS.F ht⟩) hS.2.2 dX7_thrown_4
set_option maxHeartbeats 4000000 in
set_option maxRecDepth 100000 in
theorem r_poke (l : Launch) (dC : Nat → ClassId) (dI : Nat → Nat → Nat) (b_o : Nat) (b_m : Nat) (b_r : Nat) (b_l : Nat) (b_d : Nat) (b_w : Nat) (b_c : Nat) (b_q : Nat) (b_s : Nat) (j_m : ClassId) (pc : Int32) (tk : Int32) (g : Int32) (th : Int32) (p0 : Int32) (p1 : Int32) (sz : Nat) : Met l yX7_poke (zq yX7_poke cX7_poke 4 (some .int)) ({ frames := 0, cells := 0, slots := 0, locals := 0 }) (va_Pc [.ref b_o, .int p0, .int p1] (zc_P (dC, dI) [(b_o, .inr (7, [.ref b_m, .ref b_r, .int 0, .int pc, .int tk, .int 0, .int 0, .int 0, .int 7, .int 0, .ref b_l, .int 0, .int 0, .int 0, .int 0, .int 0, .int 0, .int 0, .int 0, .int g, .ref b_d, .ref b_w, .ref b_c, .int 0, .ref b_q, .int 0, .int 0, .int 0, .ref b_s, .int th])), (b_m, .inl (j_m, 1024, .inl (fun _ => 0)))] [(j_m, .int)] sz)) (va_Qi (fun r _ => r = 0) (fun (u : Unit) t9 => zc_B (dC, dI) (va_A [(b_o, .inr (7, [.ref b_m, .ref b_r, .int 0, .int pc, .int tk, .int 0, .int 0, .int 0, .int 7, .int 0, .ref b_l, .int 0, .int 0, .int 0, .int 0, .int 0, .int 0, .int 0, .int 0, .int g, .ref b_d, .ref b_w, .ref b_c, .int 0, .ref b_q, .int 0, .int 0, .int 0, .ref b_s, .int th])), (b_m, .inl (j_m, 1024, .inl (fun _ => 0)))] sz) [] [] t9) (va_A [(b_o, .inr (7, [.ref b_m, .ref b_r, .int 0, .int pc, .int tk, .int 0, .int 0, .int 0, .int 7, .int 0, .ref b_l, .int 0, .int 0, .int 0, .int 0, .int 0, .int 0, .int 0, .int 0, .int g, .ref b_d, .ref b_w, .ref b_c, .int 0, .ref b_q, .int 0, .int 0, .int 0, .ref b_s, .int th])), (b_m, .inl (j_m, 1024, .inl (fun _ => 0)))] sz)) 0 0 (va_A [(b_o, .inr (7, [.ref b_m, .ref b_r, .int 0, .int pc, .int tk, .int 0, .int 0, .int 0, .int 7, .int 0, .ref b_l, .int 0, .int 0, .int 0, .int 0, .int 0, .int 0, .int 0, .int 0, .int g, .ref b_d, .ref b_w, .ref b_c, .int 0, .ref b_q, .int 0, .int 0, .int 0, .ref b_s, .int th])), (b_m, .inl (j_m, 1024, .inl (fun _ => 0)))] sz) := by
  refine Met.ofW (cc := cX7_poke) (maxL := 4) (ret := (some .int)) (by decide) rfl ?_
  intro p e s m args below meth c s₁ B hml hv
  obtain ⟨rfl, hsz, hP, hK, hD0, hN⟩ := hv
  have hx := B.exec
  have hb := B.bytes
  have hr := B.returns
  have hts : ∀ w ∈ zw, w.before _ s = true := fun w h => atoms_spec (ws := (zq yX7_poke cX7_poke 4 (some .int))) B.pre w (List.mem_cons_of_mem _ h)
  have hown : s.vm.findClass RX7 = some m.cls := findClass_of_methodNamed B.named
  have hlocks := B.notSynchronized
  subst hsz
  have hD := hD0.self (sz := s.heap.size)
  generalize hAe : va_A [(b_o, .inr (7, [.ref b_m, .ref b_r, .int 0, .int pc, .int tk, .int 0, .int 0, .int 0, .int 7, .int 0, .ref b_l, .int 0, .int 0, .int 0, .int 0, .int 0, .int 0, .int 0, .int 0, .int g, .ref b_d, .ref b_w, .ref b_c, .int 0, .ref b_q, .int 0, .int 0, .int 0, .ref b_s, .int th])), (b_m, .inl (j_m, 1024, .inl (fun _ => 0)))] s.heap.size = A at hD ⊢
  have hA : ∀ q : Nat, s.heap.size ≤ q → A q := fun q h => by rw [← hAe]; exact Or.inr h
  have hS : va_S A s.heap s.heap [] := va_S.rf
  have hP : va_P (dC, dI) vwCl [(b_o, .inr (7, [.ref b_m, .ref b_r, .int 0, .int pc, .int tk, .int 0, .int 0, .int 0, .int 7, .int 0, .ref b_l, .int 0, .int 0, .int 0, .int 0, .int 0, .int 0, .int 0, .int 0, .int g, .ref b_d, .ref b_w, .ref b_c, .int 0, .ref b_q, .int 0, .int 0, .int 0, .ref b_s, .int th])), (b_m, .inl (j_m, 1024, .inl (fun _ => 0)))] s.heap := hP
  have hl := lv_entry ([.ref b_o, .int p0, .int p1]) (n := 4) (Nat.le_of_ble_eq_true rfl)
  rw [lg_entry_eq]
  generalize (lg_sl ([.ref b_o, .int p0, .int p1]) ++ List.replicate (4 - (lg_sl ([.ref b_o, .int p0, .int p1])).length) Slot.unset).toArray = ls at hl ⊢
  have hl : lv_has ls 4 [(0, .ref b_o), (1, .int p0), (2, .int p1)] := hl
  refine lv_aload_n hx hb dX7_poke_0 rfl (lv_at hl 0 rfl) ?_
  refine lv_iconst (v := 0) hx hb dX7_poke_1 (by decide) ?_
  refine va_put (D := (dC, dI)) (ci := 7) (v := .int 0) (ty := .int) (C := RX7) (T := TX7) (N := 30) hx hb hts zx_7 tyX7 tyX7_ok nmX7 hown hK hP hD hS 0 rfl rfl 29 (by decide) (hts (.fieldLink RX7 39 "KeyboardKitModel" "thrown" "I") zw_749) (fun _ h9 => h9) rfl (by decide +kernel) rfl rfl (Nat.le_of_ble_eq_true rfl) dX7_poke_2 (fun H locs hP hD hS => ?_)
  have hP : va_P (dC, dI) vwCl [(b_o, .inr (7, [.ref b_m, .ref b_r, .int 0, .int pc, .int tk, .int 0, .int 0, .int 0, .int 7, .int 0, .ref b_l, .int 0, .int 0, .int 0, .int 0, .int 0, .int 0, .int 0, .int 0, .int g, .ref b_d, .ref b_w, .ref b_c, .int 0, .ref b_q, .int 0, .int 0, .int 0, .ref b_s, .int 0])), (b_m, .inl (j_m, 1024, .inl (fun _ => 0)))] H := hP
  have hD : va_D A [(b_o, .inr (7, [.ref b_m, .ref b_r, .int 0, .int pc, .int tk, .int 0, .int 0, .int 0, .int 7, .int 0, .ref b_l, .int 0, .int 0, .int 0, .int 0, .int 0, .int 0, .int 0, .int 0, .int g, .ref b_d, .ref b_w, .ref b_c, .int 0, .ref b_q, .int 0, .int 0, .int 0, .ref b_s, .int 0])), (b_m, .inl (j_m, 1024, .inl (fun _ => 0)))] := hD
  refine lv_aload_n hx hb dX7_poke_5 rfl (lv_at hl 0 rfl) ?_
  refine va_get (D := (dC, dI)) (ci := 7) (v := .ref b_m) (C := RX7) (T := TX7) (N := 30) hx hb hts zx_7 hown hK hP 0 rfl rfl 0 (by decide) (hts (.fieldLink RX7 7 "KeyboardKitModel" "memory" "[I") zw_720) (fun _ h9 => h9) rfl dX7_poke_6 ?_
  refine lv_iload_n hx hb dX7_poke_9 rfl (lv_at hl 1 rfl) ?_
  refine lv_sipush (v := 1023) hx hb dX7_poke_10 (by decide) ?_
  refine lv_iand hx hb dX7_poke_13 ?_
  refine lv_topi (fun v_1 ev_1 => ?_)
  refine va_iald hx hb hK hP 1 0 rfl rfl (by rw [ev_1]; exact pk_andIn _ 10 (by decide) (by decide)) dX7_poke_14 ?_
  refine lv_topi (fun v_2 ev_2 => ?_)
  obtain rfl : v_2 = 0 := ev_2.trans rfl
  refine lv_istore_n (lv' := [(3, .int 0), (0, .ref b_o), (1, .int p0), (2, .int p1)]) hx hb dX7_poke_15 rfl hl (by decide) rfl (fun ls hl => ?_)
  refine lv_aload_n hx hb dX7_poke_16 rfl (lv_at hl 1 rfl) ?_
  refine va_get (D := (dC, dI)) (ci := 7) (v := .ref b_m) (C := RX7) (T := TX7) (N := 30) hx hb hts zx_7 hown hK hP 0 rfl rfl 0 (by decide) (hts (.fieldLink RX7 7 "KeyboardKitModel" "memory" "[I") zw_720) (fun _ h9 => h9) rfl dX7_poke_17 ?_
  refine lv_iload_n hx hb dX7_poke_20 rfl (lv_at hl 2 rfl) ?_
  refine lv_sipush (v := 1023) hx hb dX7_poke_21 (by decide) ?_
  refine lv_iand hx hb dX7_poke_24 ?_
  refine lv_topi (fun v_3 ev_3 => ?_)
  refine lv_iload_n hx hb dX7_poke_25 rfl (lv_at hl 3 rfl) ?_
  refine lv_sipush (v := 255) hx hb dX7_poke_26 (by decide) ?_
  refine lv_iand hx hb dX7_poke_29 ?_
  refine lv_topi (fun v_4 ev_4 => ?_)
  refine va_iast hx hb hK hP hD hS 1 0 rfl rfl (by rw [ev_3]; exact pk_andIn _ 10 (by decide) (by decide)) dX7_poke_30 (fun H locs hP hD hS => ?_)
  have hP : va_P (dC, dI) vwCl [(b_o, .inr (7, [.ref b_m, .ref b_r, .int 0, .int pc, .int tk, .int 0, .int 0, .int 0, .int 7, .int 0, .ref b_l, .int 0, .int 0, .int 0, .int 0, .int 0, .int 0, .int 0, .int 0, .int g, .ref b_d, .ref b_w, .ref b_c, .int 0, .ref b_q, .int 0, .int 0, .int 0, .ref b_s, .int 0])), (b_m, .inl (j_m, 1024, .inl (upd (fun _ => 0) (v_3 : Int32).toNatClampNeg v_4)))] H := hP
  have hD : va_D A [(b_o, .inr (7, [.ref b_m, .ref b_r, .int 0, .int pc, .int tk, .int 0, .int 0, .int 0, .int 7, .int 0, .ref b_l, .int 0, .int 0, .int 0, .int 0, .int 0, .int 0, .int 0, .int 0, .int g, .ref b_d, .ref b_w, .ref b_c, .int 0, .ref b_q, .int 0, .int 0, .int 0, .ref b_s, .int 0])), (b_m, .inl (j_m, 1024, .inl (upd (fun _ => 0) (v_3 : Int32).toNatClampNeg v_4)))] := hD
  refine lv_iload_n hx hb dX7_poke_31 rfl (lv_at hl 0 rfl) ?_
  have hP9 := hP.sub (ws' := []) [] rfl
  have hD9 := hD.sub (ws' := []) [] (by decide) rfl
  have hK9 := hK.sub (tys' := []) [] rfl
  exact W.iret (v := 0) hx hb hr (fun t9 ht hW => ⟨⟨0, (), rfl, rfl, by rw [ht]; exact hP9, va_K.moved hW.alike hK9, hD9⟩, hS.F ht⟩) hS.2.2 dX7_poke_32
set_option maxHeartbeats 4000000 in
set_option maxRecDepth 100000 in
theorem r_peek (l : Launch) (dC : Nat → ClassId) (dI : Nat → Nat → Nat) (b_o : Nat) (b_m : Nat) (b_r : Nat) (b_l : Nat) (b_d : Nat) (b_w : Nat) (b_c : Nat) (b_q : Nat) (b_s : Nat) (j_m : ClassId) (pc : Int32) (tk : Int32) (g : Int32) (th : Int32) (p0 : Int32) (sz : Nat) : Met l yX7_peek (zq yX7_peek cX7_peek 2 (some .int)) ({ frames := 0, cells := 0, slots := 0, locals := 0 }) (va_Pc [.ref b_o, .int p0] (zc_P (dC, dI) [(b_o, .inr (7, [.ref b_m, .ref b_r, .int 0, .int pc, .int tk, .int 0, .int 0, .int 0, .int 7, .int 0, .ref b_l, .int 0, .int 0, .int 0, .int 0, .int 0, .int 0, .int 0, .int 0, .int g, .ref b_d, .ref b_w, .ref b_c, .int 0, .ref b_q, .int 0, .int 0, .int 0, .ref b_s, .int th])), (b_m, .inl (j_m, 1024, .inl (fun _ => 0)))] [(j_m, .int)] sz)) (va_Qi (fun r _ => r = 0) (fun (u : Unit) t9 => zc_B (dC, dI) (va_A [(b_o, .inr (7, [.ref b_m, .ref b_r, .int 0, .int pc, .int tk, .int 0, .int 0, .int 0, .int 7, .int 0, .ref b_l, .int 0, .int 0, .int 0, .int 0, .int 0, .int 0, .int 0, .int 0, .int g, .ref b_d, .ref b_w, .ref b_c, .int 0, .ref b_q, .int 0, .int 0, .int 0, .ref b_s, .int th])), (b_m, .inl (j_m, 1024, .inl (fun _ => 0)))] sz) [] [] t9) (va_A [(b_o, .inr (7, [.ref b_m, .ref b_r, .int 0, .int pc, .int tk, .int 0, .int 0, .int 0, .int 7, .int 0, .ref b_l, .int 0, .int 0, .int 0, .int 0, .int 0, .int 0, .int 0, .int 0, .int g, .ref b_d, .ref b_w, .ref b_c, .int 0, .ref b_q, .int 0, .int 0, .int 0, .ref b_s, .int th])), (b_m, .inl (j_m, 1024, .inl (fun _ => 0)))] sz)) 0 0 (va_A [(b_o, .inr (7, [.ref b_m, .ref b_r, .int 0, .int pc, .int tk, .int 0, .int 0, .int 0, .int 7, .int 0, .ref b_l, .int 0, .int 0, .int 0, .int 0, .int 0, .int 0, .int 0, .int 0, .int g, .ref b_d, .ref b_w, .ref b_c, .int 0, .ref b_q, .int 0, .int 0, .int 0, .ref b_s, .int th])), (b_m, .inl (j_m, 1024, .inl (fun _ => 0)))] sz) := by
  refine Met.ofW (cc := cX7_peek) (maxL := 2) (ret := (some .int)) (by decide) rfl ?_
  intro p e s m args below meth c s₁ B hml hv
  obtain ⟨rfl, hsz, hP, hK, hD0, hN⟩ := hv
  have hx := B.exec
  have hb := B.bytes
  have hr := B.returns
  have hts : ∀ w ∈ zw, w.before _ s = true := fun w h => atoms_spec (ws := (zq yX7_peek cX7_peek 2 (some .int))) B.pre w (List.mem_cons_of_mem _ h)
  have hown : s.vm.findClass RX7 = some m.cls := findClass_of_methodNamed B.named
  have hlocks := B.notSynchronized
  subst hsz
  have hD := hD0.self (sz := s.heap.size)
  generalize hAe : va_A [(b_o, .inr (7, [.ref b_m, .ref b_r, .int 0, .int pc, .int tk, .int 0, .int 0, .int 0, .int 7, .int 0, .ref b_l, .int 0, .int 0, .int 0, .int 0, .int 0, .int 0, .int 0, .int 0, .int g, .ref b_d, .ref b_w, .ref b_c, .int 0, .ref b_q, .int 0, .int 0, .int 0, .ref b_s, .int th])), (b_m, .inl (j_m, 1024, .inl (fun _ => 0)))] s.heap.size = A at hD ⊢
  have hA : ∀ q : Nat, s.heap.size ≤ q → A q := fun q h => by rw [← hAe]; exact Or.inr h
  have hS : va_S A s.heap s.heap [] := va_S.rf
  have hP : va_P (dC, dI) vwCl [(b_o, .inr (7, [.ref b_m, .ref b_r, .int 0, .int pc, .int tk, .int 0, .int 0, .int 0, .int 7, .int 0, .ref b_l, .int 0, .int 0, .int 0, .int 0, .int 0, .int 0, .int 0, .int 0, .int g, .ref b_d, .ref b_w, .ref b_c, .int 0, .ref b_q, .int 0, .int 0, .int 0, .ref b_s, .int th])), (b_m, .inl (j_m, 1024, .inl (fun _ => 0)))] s.heap := hP
  have hl := lv_entry ([.ref b_o, .int p0]) (n := 2) (Nat.le_of_ble_eq_true rfl)
  rw [lg_entry_eq]
  generalize (lg_sl ([.ref b_o, .int p0]) ++ List.replicate (2 - (lg_sl ([.ref b_o, .int p0])).length) Slot.unset).toArray = ls at hl ⊢
  have hl : lv_has ls 2 [(0, .ref b_o), (1, .int p0)] := hl
  refine lv_aload_n hx hb dX7_peek_0 rfl (lv_at hl 0 rfl) ?_
  refine lv_iconst (v := 0) hx hb dX7_peek_1 (by decide) ?_
  refine va_put (D := (dC, dI)) (ci := 7) (v := .int 0) (ty := .int) (C := RX7) (T := TX7) (N := 30) hx hb hts zx_7 tyX7 tyX7_ok nmX7 hown hK hP hD hS 0 rfl rfl 29 (by decide) (hts (.fieldLink RX7 39 "KeyboardKitModel" "thrown" "I") zw_749) (fun _ h9 => h9) rfl (by decide +kernel) rfl rfl (Nat.le_of_ble_eq_true rfl) dX7_peek_2 (fun H locs hP hD hS => ?_)
  have hP : va_P (dC, dI) vwCl [(b_o, .inr (7, [.ref b_m, .ref b_r, .int 0, .int pc, .int tk, .int 0, .int 0, .int 0, .int 7, .int 0, .ref b_l, .int 0, .int 0, .int 0, .int 0, .int 0, .int 0, .int 0, .int 0, .int g, .ref b_d, .ref b_w, .ref b_c, .int 0, .ref b_q, .int 0, .int 0, .int 0, .ref b_s, .int 0])), (b_m, .inl (j_m, 1024, .inl (fun _ => 0)))] H := hP
  have hD : va_D A [(b_o, .inr (7, [.ref b_m, .ref b_r, .int 0, .int pc, .int tk, .int 0, .int 0, .int 0, .int 7, .int 0, .ref b_l, .int 0, .int 0, .int 0, .int 0, .int 0, .int 0, .int 0, .int 0, .int g, .ref b_d, .ref b_w, .ref b_c, .int 0, .ref b_q, .int 0, .int 0, .int 0, .ref b_s, .int 0])), (b_m, .inl (j_m, 1024, .inl (fun _ => 0)))] := hD
  refine lv_aload_n hx hb dX7_peek_5 rfl (lv_at hl 0 rfl) ?_
  refine va_get (D := (dC, dI)) (ci := 7) (v := .ref b_m) (C := RX7) (T := TX7) (N := 30) hx hb hts zx_7 hown hK hP 0 rfl rfl 0 (by decide) (hts (.fieldLink RX7 7 "KeyboardKitModel" "memory" "[I") zw_720) (fun _ h9 => h9) rfl dX7_peek_6 ?_
  refine lv_iload_n hx hb dX7_peek_9 rfl (lv_at hl 1 rfl) ?_
  refine lv_sipush (v := 1023) hx hb dX7_peek_10 (by decide) ?_
  refine lv_iand hx hb dX7_peek_13 ?_
  refine lv_topi (fun v_1 ev_1 => ?_)
  refine va_iald hx hb hK hP 1 0 rfl rfl (by rw [ev_1]; exact pk_andIn _ 10 (by decide) (by decide)) dX7_peek_14 ?_
  refine lv_topi (fun v_2 ev_2 => ?_)
  obtain rfl : v_2 = 0 := ev_2.trans rfl
  have hP9 := hP.sub (ws' := []) [] rfl
  have hD9 := hD.sub (ws' := []) [] (by decide) rfl
  have hK9 := hK.sub (tys' := []) [] rfl
  exact W.iret (v := 0) hx hb hr (fun t9 ht hW => ⟨⟨0, (), rfl, rfl, by rw [ht]; exact hP9, va_K.moved hW.alike hK9, hD9⟩, hS.F ht⟩) hS.2.2 dX7_peek_15
set_option maxHeartbeats 4000000 in
set_option maxRecDepth 100000 in
theorem r_step (l : Launch) (dC : Nat → ClassId) (dI : Nat → Nat → Nat) (b_o : Nat) (b_m : Nat) (b_r : Nat) (b_l : Nat) (b_d : Nat) (b_w : Nat) (b_c : Nat) (b_q : Nat) (b_s : Nat) (j_d : ClassId) (j_w : ClassId) (j_c : ClassId) (j_m : ClassId) (pc : Int32) (tk : Int32) (g : Int32) (th : Int32) (sz : Nat) : Met l yX7_step (zq yX7_step cX7_step 1 (some .int)) ({ frames := 4, cells := 0, slots := 0, locals := 88 }) (va_Pc [.ref b_o] (zc_P (dC, dI) [(b_o, .inr (7, [.ref b_m, .ref b_r, .int 0, .int pc, .int tk, .int 0, .int 0, .int 0, .int 7, .int 0, .ref b_l, .int 0, .int 0, .int 0, .int 0, .int 0, .int 0, .int 0, .int 0, .int g, .ref b_d, .ref b_w, .ref b_c, .int 0, .ref b_q, .int 0, .int 0, .int 0, .ref b_s, .int th])), (b_d, .inl (j_d, 16, .inl (fun _ => 0))), (b_w, .inl (j_w, 16, .inl (fun _ => 0))), (b_c, .inl (j_c, 16, .inl (fun _ => 0))), (b_m, .inl (j_m, 1024, .inl (fun _ => 0)))] [(j_d, .boolean), (j_w, .boolean), (j_c, .boolean), (j_m, .int)] sz)) (va_Qi (fun r _ => r = 4) (fun (u : Unit) t9 => zc_B (dC, dI) (va_A [(b_o, .inr (7, [.ref b_m, .ref b_r, .int 0, .int pc, .int tk, .int 0, .int 0, .int 0, .int 7, .int 0, .ref b_l, .int 0, .int 0, .int 0, .int 0, .int 0, .int 0, .int 0, .int 0, .int g, .ref b_d, .ref b_w, .ref b_c, .int 0, .ref b_q, .int 0, .int 0, .int 0, .ref b_s, .int th])), (b_d, .inl (j_d, 16, .inl (fun _ => 0))), (b_w, .inl (j_w, 16, .inl (fun _ => 0))), (b_c, .inl (j_c, 16, .inl (fun _ => 0))), (b_m, .inl (j_m, 1024, .inl (fun _ => 0)))] sz) [] [] t9) (va_A [(b_o, .inr (7, [.ref b_m, .ref b_r, .int 0, .int pc, .int tk, .int 0, .int 0, .int 0, .int 7, .int 0, .ref b_l, .int 0, .int 0, .int 0, .int 0, .int 0, .int 0, .int 0, .int 0, .int g, .ref b_d, .ref b_w, .ref b_c, .int 0, .ref b_q, .int 0, .int 0, .int 0, .ref b_s, .int th])), (b_d, .inl (j_d, 16, .inl (fun _ => 0))), (b_w, .inl (j_w, 16, .inl (fun _ => 0))), (b_c, .inl (j_c, 16, .inl (fun _ => 0))), (b_m, .inl (j_m, 1024, .inl (fun _ => 0)))] sz)) 0 0 (va_A [(b_o, .inr (7, [.ref b_m, .ref b_r, .int 0, .int pc, .int tk, .int 0, .int 0, .int 0, .int 7, .int 0, .ref b_l, .int 0, .int 0, .int 0, .int 0, .int 0, .int 0, .int 0, .int 0, .int g, .ref b_d, .ref b_w, .ref b_c, .int 0, .ref b_q, .int 0, .int 0, .int 0, .ref b_s, .int th])), (b_d, .inl (j_d, 16, .inl (fun _ => 0))), (b_w, .inl (j_w, 16, .inl (fun _ => 0))), (b_c, .inl (j_c, 16, .inl (fun _ => 0))), (b_m, .inl (j_m, 1024, .inl (fun _ => 0)))] sz) := by
  refine Met.ofW (cc := cX7_step) (maxL := 1) (ret := (some .int)) (by decide) rfl ?_
  intro p e s m args below meth c s₁ B hml hv
  obtain ⟨rfl, hsz, hP, hK, hD0, hN⟩ := hv
  have hx := B.exec
  have hb := B.bytes
  have hr := B.returns
  have hts : ∀ w ∈ zw, w.before _ s = true := fun w h => atoms_spec (ws := (zq yX7_step cX7_step 1 (some .int))) B.pre w (List.mem_cons_of_mem _ h)
  have hown : s.vm.findClass RX7 = some m.cls := findClass_of_methodNamed B.named
  have hlocks := B.notSynchronized
  subst hsz
  have hD := hD0.self (sz := s.heap.size)
  generalize hAe : va_A [(b_o, .inr (7, [.ref b_m, .ref b_r, .int 0, .int pc, .int tk, .int 0, .int 0, .int 0, .int 7, .int 0, .ref b_l, .int 0, .int 0, .int 0, .int 0, .int 0, .int 0, .int 0, .int 0, .int g, .ref b_d, .ref b_w, .ref b_c, .int 0, .ref b_q, .int 0, .int 0, .int 0, .ref b_s, .int th])), (b_d, .inl (j_d, 16, .inl (fun _ => 0))), (b_w, .inl (j_w, 16, .inl (fun _ => 0))), (b_c, .inl (j_c, 16, .inl (fun _ => 0))), (b_m, .inl (j_m, 1024, .inl (fun _ => 0)))] s.heap.size = A at hD ⊢
  have hA : ∀ q : Nat, s.heap.size ≤ q → A q := fun q h => by rw [← hAe]; exact Or.inr h
  have hS : va_S A s.heap s.heap [] := va_S.rf
  have hP : va_P (dC, dI) vwCl [(b_o, .inr (7, [.ref b_m, .ref b_r, .int 0, .int pc, .int tk, .int 0, .int 0, .int 0, .int 7, .int 0, .ref b_l, .int 0, .int 0, .int 0, .int 0, .int 0, .int 0, .int 0, .int 0, .int g, .ref b_d, .ref b_w, .ref b_c, .int 0, .ref b_q, .int 0, .int 0, .int 0, .ref b_s, .int th])), (b_d, .inl (j_d, 16, .inl (fun _ => 0))), (b_w, .inl (j_w, 16, .inl (fun _ => 0))), (b_c, .inl (j_c, 16, .inl (fun _ => 0))), (b_m, .inl (j_m, 1024, .inl (fun _ => 0)))] s.heap := hP
  have hl := lv_entry ([.ref b_o]) (n := 1) (Nat.le_of_ble_eq_true rfl)
  rw [lg_entry_eq]
  generalize (lg_sl ([.ref b_o]) ++ List.replicate (1 - (lg_sl ([.ref b_o])).length) Slot.unset).toArray = ls at hl ⊢
  have hl : lv_has ls 1 [(0, .ref b_o)] := hl
  refine lv_aload_n hx hb dX7_step_0 rfl (lv_at hl 0 rfl) ?_
  refine lv_iconst (v := 0) hx hb dX7_step_1 (by decide) ?_
  refine va_put (D := (dC, dI)) (ci := 7) (v := .int 0) (ty := .int) (C := RX7) (T := TX7) (N := 30) hx hb hts zx_7 tyX7 tyX7_ok nmX7 hown hK hP hD hS 0 rfl rfl 29 (by decide) (hts (.fieldLink RX7 39 "KeyboardKitModel" "thrown" "I") zw_749) (fun _ h9 => h9) rfl (by decide +kernel) rfl rfl (Nat.le_of_ble_eq_true rfl) dX7_step_2 (fun H locs hP hD hS => ?_)
  have hP : va_P (dC, dI) vwCl [(b_o, .inr (7, [.ref b_m, .ref b_r, .int 0, .int pc, .int tk, .int 0, .int 0, .int 0, .int 7, .int 0, .ref b_l, .int 0, .int 0, .int 0, .int 0, .int 0, .int 0, .int 0, .int 0, .int g, .ref b_d, .ref b_w, .ref b_c, .int 0, .ref b_q, .int 0, .int 0, .int 0, .ref b_s, .int 0])), (b_d, .inl (j_d, 16, .inl (fun _ => 0))), (b_w, .inl (j_w, 16, .inl (fun _ => 0))), (b_c, .inl (j_c, 16, .inl (fun _ => 0))), (b_m, .inl (j_m, 1024, .inl (fun _ => 0)))] H := hP
  have hD : va_D A [(b_o, .inr (7, [.ref b_m, .ref b_r, .int 0, .int pc, .int tk, .int 0, .int 0, .int 0, .int 7, .int 0, .ref b_l, .int 0, .int 0, .int 0, .int 0, .int 0, .int 0, .int 0, .int 0, .int g, .ref b_d, .ref b_w, .ref b_c, .int 0, .ref b_q, .int 0, .int 0, .int 0, .ref b_s, .int 0])), (b_d, .inl (j_d, 16, .inl (fun _ => 0))), (b_w, .inl (j_w, 16, .inl (fun _ => 0))), (b_c, .inl (j_c, 16, .inl (fun _ => 0))), (b_m, .inl (j_m, 1024, .inl (fun _ => 0)))] := hD
  refine lv_aload_n hx hb dX7_step_5 rfl (lv_at hl 0 rfl) ?_
  refine zc_i (wr := []) hP hD hS hA [0, 1, 2, 3, 4] [] rfl rfl (by decide) (by decide) (va_runV (As := []) (rest := []) ⟨hx, hb, hml, hown, hts⟩ (r_once l dC dI b_o b_m b_r b_l b_d b_w b_c b_q b_s j_d j_w j_c j_m pc tk g 0 _) (cwV 0 hts (zg_V zw_827 zw_829 zw_41 zw_90 zw_830) rfl rfl rfl (by decide +kernel) ⟨Nat.le_of_ble_eq_true rfl, Nat.le_of_ble_eq_true rfl⟩) ⟨zc_blind, va_recv hK hP (ci := 7) (q0 := 0) rfl rfl, zc_start hP hD hK hN [0, 1, 2, 3, 4] [0, 1, 2, 3] rfl (by decide) rfl⟩ rfl rfl hl.1 rfl (lv_room (Nat.le_of_ble_eq_true rfl)) dX7_step_6 ⟨Nat.le_of_ble_eq_true rfl, Nat.le_of_ble_eq_true rfl⟩) (fun r_1 u_1 H locs hw hK1 hP hD hS => ?_)
  have hP : va_P (dC, dI) vwCl [(b_o, .inr (7, [.ref b_m, .ref b_r, .int 0, .int (u_1 0), .int 4, .int 0, .int 0, .int 0, .int 7, .int 0, .ref b_l, .int 0, .int 0, .int 0, .int 0, .int 0, .int 0, .int 0, .int 0, .int (u_1 1), .ref b_d, .ref b_w, .ref b_c, .int 0, .ref b_q, .int 0, .int 0, .int 0, .ref b_s, .int 0])), (b_d, .inl (j_d, 16, .inl (fun _ => 0))), (b_w, .inl (j_w, 16, .inl (fun _ => 0))), (b_c, .inl (j_c, 16, .inl (fun _ => 0))), (b_m, .inl (j_m, 1024, .inl (fun _ => 0)))] H := hP
  have hD : va_D A [(b_o, .inr (7, [.ref b_m, .ref b_r, .int 0, .int (u_1 0), .int 4, .int 0, .int 0, .int 0, .int 7, .int 0, .ref b_l, .int 0, .int 0, .int 0, .int 0, .int 0, .int 0, .int 0, .int 0, .int (u_1 1), .ref b_d, .ref b_w, .ref b_c, .int 0, .ref b_q, .int 0, .int 0, .int 0, .ref b_s, .int 0])), (b_d, .inl (j_d, 16, .inl (fun _ => 0))), (b_w, .inl (j_w, 16, .inl (fun _ => 0))), (b_c, .inl (j_c, 16, .inl (fun _ => 0))), (b_m, .inl (j_m, 1024, .inl (fun _ => 0)))] := hD
  obtain rfl : r_1 = 4 := hw
  have hP9 := hP.sub (ws' := []) [] rfl
  have hD9 := hD.sub (ws' := []) [] (by decide) rfl
  have hK9 := hK.sub (tys' := []) [] rfl
  exact W.iret (v := 4) hx hb hr (fun t9 ht hW => ⟨⟨4, (), rfl, rfl, by rw [ht]; exact hP9, va_K.moved hW.alike hK9, hD9⟩, hS.F ht⟩) hS.2.2 dX7_step_9
