theorem dX7_fetch_0 : decode cX7_fetch 0 = .ok (.aload_n 0, 1) := by decide +kernel
theorem dX7_fetch_1 : decode cX7_fetch 1 = .ok (.aload_n 0, 1) := by decide +kernel
theorem dX7_fetch_10 : decode cX7_fetch 10 = .ok (.aload_n 0, 1) := by decide +kernel
theorem dX7_fetch_11 : decode cX7_fetch 11 = .ok (.getfield 45, 3) := by decide +kernel
theorem dX7_fetch_14 : decode cX7_fetch 14 = .ok (.iconst 1, 1) := by decide +kernel
theorem dX7_fetch_15 : decode cX7_fetch 15 = .ok (.iadd, 1) := by decide +kernel
theorem dX7_fetch_16 : decode cX7_fetch 16 = .ok (.ldc 52, 2) := by decide +kernel
theorem dX7_fetch_18 : decode cX7_fetch 18 = .ok (.iand, 1) := by decide +kernel
theorem dX7_fetch_19 : decode cX7_fetch 19 = .ok (.putfield 45, 3) := by decide +kernel
theorem dX7_fetch_2 : decode cX7_fetch 2 = .ok (.getfield 45, 3) := by decide +kernel
theorem dX7_fetch_22 : decode cX7_fetch 22 = .ok (.iload_n 1, 1) := by decide +kernel
theorem dX7_fetch_23 : decode cX7_fetch 23 = .ok (.ireturn, 1) := by decide +kernel
theorem dX7_fetch_5 : decode cX7_fetch 5 = .ok (.invokevirtual 48, 3) := by decide +kernel
theorem dX7_fetch_8 : decode cX7_fetch 8 = .ok (.istore_n 1, 1) := by decide +kernel
theorem dX7_fetch_9 : decode cX7_fetch 9 = .ok (.aload_n 0, 1) := by decide +kernel
theorem dX7_first_0 : decode cX7_first 0 = .ok (.iload_n 2, 1) := by decide +kernel
theorem dX7_first_1 : decode cX7_first 1 = .ok (.tableswitch 160 0 6 #[43, 113, 122, 113, 130, 130, 148], 43) := by decide +kernel
theorem dX7_first_101 : decode cX7_first 101 = .ok (.iload_n 1, 1) := by decide +kernel
theorem dX7_first_102 : decode cX7_first 102 = .ok (.bipush 6, 2) := by decide +kernel
theorem dX7_first_104 : decode cX7_first 104 = .ok (.if_icmp .ne 62, 3) := by decide +kernel
theorem dX7_first_166 : decode cX7_first 166 = .ok (.return_, 1) := by decide +kernel
theorem dX7_first_44 : decode cX7_first 44 = .ok (.iload_n 1, 1) := by decide +kernel
theorem dX7_first_45 : decode cX7_first 45 = .ok (.iconst 4, 1) := by decide +kernel
theorem dX7_first_46 : decode cX7_first 46 = .ok (.if_icmp .ne 55, 3) := by decide +kernel
theorem dX7_instruction_0 : decode cX7_instruction 0 = .ok (.aload_n 0, 1) := by decide +kernel
theorem dX7_instruction_1 : decode cX7_instruction 1 = .ok (.iconst 0, 1) := by decide +kernel
theorem dX7_instruction_10 : decode cX7_instruction 10 = .ok (.aload_n 0, 1) := by decide +kernel
theorem dX7_instruction_11 : decode cX7_instruction 11 = .ok (.iconst 4, 1) := by decide +kernel
theorem dX7_instruction_118 : decode cX7_instruction 118 = .ok (.return_, 1) := by decide +kernel
theorem dX7_instruction_12 : decode cX7_instruction 12 = .ok (.putfield 42, 3) := by decide +kernel
theorem dX7_instruction_15 : decode cX7_instruction 15 = .ok (.iload_n 1, 1) := by decide +kernel
theorem dX7_instruction_16 : decode cX7_instruction 16 = .ok (.bipush 6, 2) := by decide +kernel
theorem dX7_instruction_18 : decode cX7_instruction 18 = .ok (.ishr, 1) := by decide +kernel
theorem dX7_instruction_19 : decode cX7_instruction 19 = .ok (.istore_n 2, 1) := by decide +kernel
theorem dX7_instruction_2 : decode cX7_instruction 2 = .ok (.putfield 199, 3) := by decide +kernel
theorem dX7_instruction_20 : decode cX7_instruction 20 = .ok (.iload_n 1, 1) := by decide +kernel
theorem dX7_instruction_21 : decode cX7_instruction 21 = .ok (.iconst 3, 1) := by decide +kernel
theorem dX7_instruction_22 : decode cX7_instruction 22 = .ok (.ishr, 1) := by decide +kernel
theorem dX7_instruction_23 : decode cX7_instruction 23 = .ok (.bipush 7, 2) := by decide +kernel
theorem dX7_instruction_25 : decode cX7_instruction 25 = .ok (.iand, 1) := by decide +kernel
theorem dX7_instruction_26 : decode cX7_instruction 26 = .ok (.istore_n 3, 1) := by decide +kernel
theorem dX7_instruction_27 : decode cX7_instruction 27 = .ok (.iload_n 1, 1) := by decide +kernel
theorem dX7_instruction_28 : decode cX7_instruction 28 = .ok (.bipush 7, 2) := by decide +kernel
theorem dX7_instruction_30 : decode cX7_instruction 30 = .ok (.iand, 1) := by decide +kernel
theorem dX7_instruction_31 : decode cX7_instruction 31 = .ok (.istore 4, 2) := by decide +kernel
theorem dX7_instruction_33 : decode cX7_instruction 33 = .ok (.iload_n 2, 1) := by decide +kernel
theorem dX7_instruction_34 : decode cX7_instruction 34 = .ok (.ifCond .ne 13, 3) := by decide +kernel
theorem dX7_instruction_37 : decode cX7_instruction 37 = .ok (.aload_n 0, 1) := by decide +kernel
theorem dX7_instruction_38 : decode cX7_instruction 38 = .ok (.iload_n 3, 1) := by decide +kernel
theorem dX7_instruction_39 : decode cX7_instruction 39 = .ok (.iload 4, 2) := by decide +kernel
theorem dX7_instruction_41 : decode cX7_instruction 41 = .ok (.invokevirtual 217, 3) := by decide +kernel
theorem dX7_instruction_44 : decode cX7_instruction 44 = .ok (.goto 74, 3) := by decide +kernel
theorem dX7_instruction_5 : decode cX7_instruction 5 = .ok (.aload_n 0, 1) := by decide +kernel
theorem dX7_instruction_6 : decode cX7_instruction 6 = .ok (.invokevirtual 53, 3) := by decide +kernel
theorem dX7_instruction_9 : decode cX7_instruction 9 = .ok (.istore_n 1, 1) := by decide +kernel
theorem dX7_read_0 : decode cX7_read 0 = .ok (.aload_n 0, 1) := by decide +kernel
theorem dX7_read_1 : decode cX7_read 1 = .ok (.dup, 1) := by decide +kernel
theorem dX7_read_10 : decode cX7_read 10 = .ok (.aload_n 0, 1) := by decide +kernel
theorem dX7_read_11 : decode cX7_read 11 = .ok (.getfield 7, 3) := by decide +kernel
theorem dX7_read_14 : decode cX7_read 14 = .ok (.iload_n 1, 1) := by decide +kernel
theorem dX7_read_15 : decode cX7_read 15 = .ok (.sipush 1023, 3) := by decide +kernel
theorem dX7_read_18 : decode cX7_read 18 = .ok (.iand, 1) := by decide +kernel
theorem dX7_read_19 : decode cX7_read 19 = .ok (.iaload, 1) := by decide +kernel
theorem dX7_read_2 : decode cX7_read 2 = .ok (.getfield 42, 3) := by decide +kernel
theorem dX7_read_20 : decode cX7_read 20 = .ok (.ireturn, 1) := by decide +kernel
theorem dX7_read_5 : decode cX7_read 5 = .ok (.iconst 3, 1) := by decide +kernel
theorem dX7_read_6 : decode cX7_read 6 = .ok (.iadd, 1) := by decide +kernel
theorem dX7_read_7 : decode cX7_read 7 = .ok (.putfield 42, 3) := by decide +kernel
theorem dX7_tickTimer_0 : decode cX7_tickTimer 0 = .ok (.aload_n 0, 1) := by decide +kernel
theorem dX7_tickTimer_1 : decode cX7_tickTimer 1 = .ok (.getfield 120, 3) := by decide +kernel
theorem dX7_tickTimer_4 : decode cX7_tickTimer 4 = .ok (.ifCond .ne 4, 3) := by decide +kernel
theorem dX7_tickTimer_7 : decode cX7_tickTimer 7 = .ok (.return_, 1) := by decide +kernel
set_option maxHeartbeats 4000000 in
set_option maxRecDepth 100000 in
/-- reference: tickTimer, stopped -/
theorem r_tt (l : Launch) (dC : Nat → ClassId) (dI : Nat → Nat → Nat) (b_o : Nat) (b_m : Nat) (b_r : Nat) (b_l : Nat) (b_d : Nat) (b_w : Nat) (b_c : Nat) (b_q : Nat) (b_s : Nat) (pc : Int32) (tk : Int32) (g : Int32) (th : Int32) (sz : Nat) : Met l yX7_tickTimer (zq yX7_tickTimer cX7_tickTimer 1 none) ({ frames := 0, cells := 0, slots := 0, locals := 0 }) (va_Pc [.ref b_o] (zc_P (dC, dI) [(b_o, .inr (7, [.ref b_m, .ref b_r, .int 0, .int pc, .int tk, .int 0, .int 0, .int 0, .int 7, .int 0, .ref b_l, .int 0, .int 0, .int 0, .int 0, .int 0, .int 0, .int 0, .int 0, .int g, .ref b_d, .ref b_w, .ref b_c, .int 0, .ref b_q, .int 0, .int 0, .int 0, .ref b_s, .int th]))] [] sz)) (va_Qv (fun _ => True) (fun (u : Unit) t9 => zc_B (dC, dI) (va_A [(b_o, .inr (7, [.ref b_m, .ref b_r, .int 0, .int pc, .int tk, .int 0, .int 0, .int 0, .int 7, .int 0, .ref b_l, .int 0, .int 0, .int 0, .int 0, .int 0, .int 0, .int 0, .int 0, .int g, .ref b_d, .ref b_w, .ref b_c, .int 0, .ref b_q, .int 0, .int 0, .int 0, .ref b_s, .int th]))] sz) [(b_o, .inr (7, [.ref b_m, .ref b_r, .int 0, .int pc, .int tk, .int 0, .int 0, .int 0, .int 7, .int 0, .ref b_l, .int 0, .int 0, .int 0, .int 0, .int 0, .int 0, .int 0, .int 0, .int g, .ref b_d, .ref b_w, .ref b_c, .int 0, .ref b_q, .int 0, .int 0, .int 0, .ref b_s, .int th]))] [] t9) (va_A [(b_o, .inr (7, [.ref b_m, .ref b_r, .int 0, .int pc, .int tk, .int 0, .int 0, .int 0, .int 7, .int 0, .ref b_l, .int 0, .int 0, .int 0, .int 0, .int 0, .int 0, .int 0, .int 0, .int g, .ref b_d, .ref b_w, .ref b_c, .int 0, .ref b_q, .int 0, .int 0, .int 0, .ref b_s, .int th]))] sz)) 0 0 (va_A [(b_o, .inr (7, [.ref b_m, .ref b_r, .int 0, .int pc, .int tk, .int 0, .int 0, .int 0, .int 7, .int 0, .ref b_l, .int 0, .int 0, .int 0, .int 0, .int 0, .int 0, .int 0, .int 0, .int g, .ref b_d, .ref b_w, .ref b_c, .int 0, .ref b_q, .int 0, .int 0, .int 0, .ref b_s, .int th]))] sz) := by
  refine Met.ofW (cc := cX7_tickTimer) (maxL := 1) (ret := none) (by decide) rfl ?_
  intro p e s m args below meth c s₁ B hml hv
  obtain ⟨rfl, hsz, hP, hK, hD0, hN⟩ := hv
  have hx := B.exec
  have hb := B.bytes
  have hr := B.returns
  have hts : ∀ w ∈ zw, w.before _ s = true := fun w h => atoms_spec (ws := (zq yX7_tickTimer cX7_tickTimer 1 none)) B.pre w (List.mem_cons_of_mem _ h)
  have hown : s.vm.findClass RX7 = some m.cls := findClass_of_methodNamed B.named
  have hlocks := B.notSynchronized
  subst hsz
  have hD := hD0.self (sz := s.heap.size)
  generalize hAe : va_A [(b_o, .inr (7, [.ref b_m, .ref b_r, .int 0, .int pc, .int tk, .int 0, .int 0, .int 0, .int 7, .int 0, .ref b_l, .int 0, .int 0, .int 0, .int 0, .int 0, .int 0, .int 0, .int 0, .int g, .ref b_d, .ref b_w, .ref b_c, .int 0, .ref b_q, .int 0, .int 0, .int 0, .ref b_s, .int th]))] s.heap.size = A at hD ⊢
  have hA : ∀ q : Nat, s.heap.size ≤ q → A q := fun q h => by rw [← hAe]; exact Or.inr h
  have hS : va_S A s.heap s.heap [] := va_S.rf
  have hP : va_P (dC, dI) vwCl [(b_o, .inr (7, [.ref b_m, .ref b_r, .int 0, .int pc, .int tk, .int 0, .int 0, .int 0, .int 7, .int 0, .ref b_l, .int 0, .int 0, .int 0, .int 0, .int 0, .int 0, .int 0, .int 0, .int g, .ref b_d, .ref b_w, .ref b_c, .int 0, .ref b_q, .int 0, .int 0, .int 0, .ref b_s, .int th]))] s.heap := hP
  have hl := lv_entry ([.ref b_o]) (n := 1) (Nat.le_of_ble_eq_true rfl)
  rw [lg_entry_eq]
  generalize (lg_sl ([.ref b_o]) ++ List.replicate (1 - (lg_sl ([.ref b_o])).length) Slot.unset).toArray = ls at hl ⊢
  have hl : lv_has ls 1 [(0, .ref b_o)] := hl
  refine lv_aload_n hx hb dX7_tickTimer_0 rfl (lv_at hl 0 rfl) ?_
  refine va_get (D := (dC, dI)) (ci := 7) (v := .int 0) (C := RX7) (T := TX7) (N := 30) hx hb hts zx_7 hown hK hP 0 rfl rfl 16 (by decide) (hts (.fieldLink RX7 120 "KeyboardKitModel" "runs" "Z") zw_736) (fun _ h9 => h9) rfl dX7_tickTimer_1 ?_
  refine lv_if_ne (tgt := 8) hx hb dX7_tickTimer_4 (by decide) (fun c_1 => absurd c_1 (by decide)) (fun c_1 => ?_)
  have hP9 := hP.sub (ws' := [(b_o, .inr (7, [.ref b_m, .ref b_r, .int 0, .int pc, .int tk, .int 0, .int 0, .int 0, .int 7, .int 0, .ref b_l, .int 0, .int 0, .int 0, .int 0, .int 0, .int 0, .int 0, .int 0, .int g, .ref b_d, .ref b_w, .ref b_c, .int 0, .ref b_q, .int 0, .int 0, .int 0, .ref b_s, .int th]))]) [0] rfl
  have hD9 := hD.sub (ws' := [(b_o, .inr (7, [.ref b_m, .ref b_r, .int 0, .int pc, .int tk, .int 0, .int 0, .int 0, .int 7, .int 0, .ref b_l, .int 0, .int 0, .int 0, .int 0, .int 0, .int 0, .int 0, .int 0, .int g, .ref b_d, .ref b_w, .ref b_c, .int 0, .ref b_q, .int 0, .int 0, .int 0, .ref b_s, .int th]))]) [0] (by decide) rfl
  have hK9 := hK.sub (tys' := []) [] rfl
  exact W.vret hx hb hr (fun t9 ht hW => ⟨⟨(), rfl, trivial, by rw [ht]; exact hP9, va_K.moved hW.alike hK9, hD9⟩, hS.F ht⟩) hS.2.2 dX7_tickTimer_7
set_option maxHeartbeats 4000000 in
set_option maxRecDepth 100000 in
/-- reference: read -/
theorem r_read (l : Launch) (dC : Nat → ClassId) (dI : Nat → Nat → Nat) (b_o : Nat) (b_m : Nat) (b_r : Nat) (b_l : Nat) (b_d : Nat) (b_w : Nat) (b_c : Nat) (b_q : Nat) (b_s : Nat) (j_m : ClassId) (pc : Int32) (tk : Int32) (g : Int32) (th : Int32) (adr : Int32) (sz : Nat) : Met l yX7_read (zq yX7_read cX7_read 2 (some .int)) ({ frames := 0, cells := 0, slots := 0, locals := 0 }) (va_Pc [.ref b_o, .int adr] (zc_P (dC, dI) [(b_o, .inr (7, [.ref b_m, .ref b_r, .int 0, .int pc, .int tk, .int 0, .int 0, .int 0, .int 7, .int 0, .ref b_l, .int 0, .int 0, .int 0, .int 0, .int 0, .int 0, .int 0, .int 0, .int g, .ref b_d, .ref b_w, .ref b_c, .int 0, .ref b_q, .int 0, .int 0, .int 0, .ref b_s, .int th])), (b_m, .inl (j_m, 1024, .inl (fun _ => 0)))] [(j_m, .int)] sz)) (va_Qi (fun r _ => r = 0) (fun (u : Int32) t9 => zc_B (dC, dI) (va_A [(b_o, .inr (7, [.ref b_m, .ref b_r, .int 0, .int pc, .int tk, .int 0, .int 0, .int 0, .int 7, .int 0, .ref b_l, .int 0, .int 0, .int 0, .int 0, .int 0, .int 0, .int 0, .int 0, .int g, .ref b_d, .ref b_w, .ref b_c, .int 0, .ref b_q, .int 0, .int 0, .int 0, .ref b_s, .int th])), (b_m, .inl (j_m, 1024, .inl (fun _ => 0)))] sz) [(b_o, .inr (7, [.ref b_m, .ref b_r, .int 0, .int pc, .int u, .int 0, .int 0, .int 0, .int 7, .int 0, .ref b_l, .int 0, .int 0, .int 0, .int 0, .int 0, .int 0, .int 0, .int 0, .int g, .ref b_d, .ref b_w, .ref b_c, .int 0, .ref b_q, .int 0, .int 0, .int 0, .ref b_s, .int th])), (b_m, .inl (j_m, 1024, .inl (fun _ => 0)))] [(j_m, .int)] t9) (va_A [(b_o, .inr (7, [.ref b_m, .ref b_r, .int 0, .int pc, .int tk, .int 0, .int 0, .int 0, .int 7, .int 0, .ref b_l, .int 0, .int 0, .int 0, .int 0, .int 0, .int 0, .int 0, .int 0, .int g, .ref b_d, .ref b_w, .ref b_c, .int 0, .ref b_q, .int 0, .int 0, .int 0, .ref b_s, .int th])), (b_m, .inl (j_m, 1024, .inl (fun _ => 0)))] sz)) 0 0 (va_A [(b_o, .inr (7, [.ref b_m, .ref b_r, .int 0, .int pc, .int tk, .int 0, .int 0, .int 0, .int 7, .int 0, .ref b_l, .int 0, .int 0, .int 0, .int 0, .int 0, .int 0, .int 0, .int 0, .int g, .ref b_d, .ref b_w, .ref b_c, .int 0, .ref b_q, .int 0, .int 0, .int 0, .ref b_s, .int th])), (b_m, .inl (j_m, 1024, .inl (fun _ => 0)))] sz) := by
  refine Met.ofW (cc := cX7_read) (maxL := 2) (ret := (some .int)) (by decide) rfl ?_
  intro p e s m args below meth c s₁ B hml hv
  obtain ⟨rfl, hsz, hP, hK, hD0, hN⟩ := hv
  have hx := B.exec
  have hb := B.bytes
  have hr := B.returns
  have hts : ∀ w ∈ zw, w.before _ s = true := fun w h => atoms_spec (ws := (zq yX7_read cX7_read 2 (some .int))) B.pre w (List.mem_cons_of_mem _ h)
  have hown : s.vm.findClass RX7 = some m.cls := findClass_of_methodNamed B.named
  have hlocks := B.notSynchronized
  subst hsz
  have hD := hD0.self (sz := s.heap.size)
  generalize hAe : va_A [(b_o, .inr (7, [.ref b_m, .ref b_r, .int 0, .int pc, .int tk, .int 0, .int 0, .int 0, .int 7, .int 0, .ref b_l, .int 0, .int 0, .int 0, .int 0, .int 0, .int 0, .int 0, .int 0, .int g, .ref b_d, .ref b_w, .ref b_c, .int 0, .ref b_q, .int 0, .int 0, .int 0, .ref b_s, .int th])), (b_m, .inl (j_m, 1024, .inl (fun _ => 0)))] s.heap.size = A at hD ⊢
  have hA : ∀ q : Nat, s.heap.size ≤ q → A q := fun q h => by rw [← hAe]; exact Or.inr h
  have hS : va_S A s.heap s.heap [] := va_S.rf
  have hP : va_P (dC, dI) vwCl [(b_o, .inr (7, [.ref b_m, .ref b_r, .int 0, .int pc, .int tk, .int 0, .int 0, .int 0, .int 7, .int 0, .ref b_l, .int 0, .int 0, .int 0, .int 0, .int 0, .int 0, .int 0, .int 0, .int g, .ref b_d, .ref b_w, .ref b_c, .int 0, .ref b_q, .int 0, .int 0, .int 0, .ref b_s, .int th])), (b_m, .inl (j_m, 1024, .inl (fun _ => 0)))] s.heap := hP
  have hl := lv_entry ([.ref b_o, .int adr]) (n := 2) (Nat.le_of_ble_eq_true rfl)
  rw [lg_entry_eq]
  generalize (lg_sl ([.ref b_o, .int adr]) ++ List.replicate (2 - (lg_sl ([.ref b_o, .int adr])).length) Slot.unset).toArray = ls at hl ⊢
  have hl : lv_has ls 2 [(0, .ref b_o), (1, .int adr)] := hl
  refine lv_aload_n hx hb dX7_read_0 rfl (lv_at hl 0 rfl) ?_
  refine lv_dup hx hb dX7_read_1 rfl ?_
  refine va_get (D := (dC, dI)) (ci := 7) (v := .int tk) (C := RX7) (T := TX7) (N := 30) hx hb hts zx_7 hown hK hP 0 rfl rfl 4 (by decide) (hts (.fieldLink RX7 42 "KeyboardKitModel" "ticks" "I") zw_724) (fun _ h9 => h9) rfl dX7_read_2 ?_
  refine lv_iconst (v := 3) hx hb dX7_read_5 (by decide) ?_
  refine lv_iadd hx hb dX7_read_6 ?_
  refine lv_topi (fun v_1 ev_1 => ?_)
  refine va_put (D := (dC, dI)) (ci := 7) (v := .int v_1) (ty := .int) (C := RX7) (T := TX7) (N := 30) hx hb hts zx_7 tyX7 tyX7_ok nmX7 hown hK hP hD hS 0 rfl rfl 4 (by decide) (hts (.fieldLink RX7 42 "KeyboardKitModel" "ticks" "I") zw_724) (fun _ h9 => h9) rfl (by decide +kernel) rfl rfl (Nat.le_of_ble_eq_true rfl) dX7_read_7 (fun H locs hP hD hS => ?_)
  have hP : va_P (dC, dI) vwCl [(b_o, .inr (7, [.ref b_m, .ref b_r, .int 0, .int pc, .int v_1, .int 0, .int 0, .int 0, .int 7, .int 0, .ref b_l, .int 0, .int 0, .int 0, .int 0, .int 0, .int 0, .int 0, .int 0, .int g, .ref b_d, .ref b_w, .ref b_c, .int 0, .ref b_q, .int 0, .int 0, .int 0, .ref b_s, .int th])), (b_m, .inl (j_m, 1024, .inl (fun _ => 0)))] H := hP
  have hD : va_D A [(b_o, .inr (7, [.ref b_m, .ref b_r, .int 0, .int pc, .int v_1, .int 0, .int 0, .int 0, .int 7, .int 0, .ref b_l, .int 0, .int 0, .int 0, .int 0, .int 0, .int 0, .int 0, .int 0, .int g, .ref b_d, .ref b_w, .ref b_c, .int 0, .ref b_q, .int 0, .int 0, .int 0, .ref b_s, .int th])), (b_m, .inl (j_m, 1024, .inl (fun _ => 0)))] := hD
  refine lv_aload_n hx hb dX7_read_10 rfl (lv_at hl 0 rfl) ?_
  refine va_get (D := (dC, dI)) (ci := 7) (v := .ref b_m) (C := RX7) (T := TX7) (N := 30) hx hb hts zx_7 hown hK hP 0 rfl rfl 0 (by decide) (hts (.fieldLink RX7 7 "KeyboardKitModel" "memory" "[I") zw_720) (fun _ h9 => h9) rfl dX7_read_11 ?_
  refine lv_iload_n hx hb dX7_read_14 rfl (lv_at hl 1 rfl) ?_
  refine lv_sipush (v := 1023) hx hb dX7_read_15 (by decide) ?_
  refine lv_iand hx hb dX7_read_18 ?_
  refine lv_topi (fun v_2 ev_2 => ?_)
  refine va_iald hx hb hK hP 1 0 rfl rfl (by rw [ev_2]; exact pk_andIn _ 10 (by decide) (by decide)) dX7_read_19 ?_
  refine lv_topi (fun v_3 ev_3 => ?_)
  obtain rfl : v_3 = 0 := ev_3.trans rfl
  have hP9 := hP.sub (ws' := [(b_o, .inr (7, [.ref b_m, .ref b_r, .int 0, .int pc, .int v_1, .int 0, .int 0, .int 0, .int 7, .int 0, .ref b_l, .int 0, .int 0, .int 0, .int 0, .int 0, .int 0, .int 0, .int 0, .int g, .ref b_d, .ref b_w, .ref b_c, .int 0, .ref b_q, .int 0, .int 0, .int 0, .ref b_s, .int th])), (b_m, .inl (j_m, 1024, .inl (fun _ => 0)))]) [0, 1] rfl
  have hD9 := hD.sub (ws' := [(b_o, .inr (7, [.ref b_m, .ref b_r, .int 0, .int pc, .int v_1, .int 0, .int 0, .int 0, .int 7, .int 0, .ref b_l, .int 0, .int 0, .int 0, .int 0, .int 0, .int 0, .int 0, .int 0, .int g, .ref b_d, .ref b_w, .ref b_c, .int 0, .ref b_q, .int 0, .int 0, .int 0, .ref b_s, .int th])), (b_m, .inl (j_m, 1024, .inl (fun _ => 0)))]) [0, 1] (by decide) rfl
  have hK9 := hK.sub (tys' := [(j_m, .int)]) [0] rfl
  exact W.iret (v := 0) hx hb hr (fun t9 ht hW => ⟨⟨0, v_1, rfl, rfl, by rw [ht]; exact hP9, va_K.moved hW.alike hK9, hD9⟩, hS.F ht⟩) hS.2.2 dX7_read_20
set_option maxHeartbeats 4000000 in
set_option maxRecDepth 100000 in
/-- reference: fetch -/
theorem r_fetch (l : Launch) (dC : Nat → ClassId) (dI : Nat → Nat → Nat) (b_o : Nat) (b_m : Nat) (b_r : Nat) (b_l : Nat) (b_d : Nat) (b_w : Nat) (b_c : Nat) (b_q : Nat) (b_s : Nat) (j_m : ClassId) (pc : Int32) (tk : Int32) (g : Int32) (th : Int32) (sz : Nat) : Met l yX7_fetch (zq yX7_fetch cX7_fetch 2 (some .int)) ({ frames := 1, cells := 0, slots := 0, locals := 21 }) (va_Pc [.ref b_o] (zc_P (dC, dI) [(b_o, .inr (7, [.ref b_m, .ref b_r, .int 0, .int pc, .int tk, .int 0, .int 0, .int 0, .int 7, .int 0, .ref b_l, .int 0, .int 0, .int 0, .int 0, .int 0, .int 0, .int 0, .int 0, .int g, .ref b_d, .ref b_w, .ref b_c, .int 0, .ref b_q, .int 0, .int 0, .int 0, .ref b_s, .int th])), (b_m, .inl (j_m, 1024, .inl (fun _ => 0)))] [(j_m, .int)] sz)) (va_Qi (fun r _ => r = 0) (fun (u : Nat → Int32) t9 => zc_B (dC, dI) (va_A [(b_o, .inr (7, [.ref b_m, .ref b_r, .int 0, .int pc, .int tk, .int 0, .int 0, .int 0, .int 7, .int 0, .ref b_l, .int 0, .int 0, .int 0, .int 0, .int 0, .int 0, .int 0, .int 0, .int g, .ref b_d, .ref b_w, .ref b_c, .int 0, .ref b_q, .int 0, .int 0, .int 0, .ref b_s, .int th])), (b_m, .inl (j_m, 1024, .inl (fun _ => 0)))] sz) [(b_o, .inr (7, [.ref b_m, .ref b_r, .int 0, .int (u 0), .int (u 1), .int 0, .int 0, .int 0, .int 7, .int 0, .ref b_l, .int 0, .int 0, .int 0, .int 0, .int 0, .int 0, .int 0, .int 0, .int g, .ref b_d, .ref b_w, .ref b_c, .int 0, .ref b_q, .int 0, .int 0, .int 0, .ref b_s, .int th])), (b_m, .inl (j_m, 1024, .inl (fun _ => 0)))] [(j_m, .int)] t9) (va_A [(b_o, .inr (7, [.ref b_m, .ref b_r, .int 0, .int pc, .int tk, .int 0, .int 0, .int 0, .int 7, .int 0, .ref b_l, .int 0, .int 0, .int 0, .int 0, .int 0, .int 0, .int 0, .int 0, .int g, .ref b_d, .ref b_w, .ref b_c, .int 0, .ref b_q, .int 0, .int 0, .int 0, .ref b_s, .int th])), (b_m, .inl (j_m, 1024, .inl (fun _ => 0)))] sz)) 0 0 (va_A [(b_o, .inr (7, [.ref b_m, .ref b_r, .int 0, .int pc, .int tk, .int 0, .int 0, .int 0, .int 7, .int 0, .ref b_l, .int 0, .int 0, .int 0, .int 0, .int 0, .int 0, .int 0, .int 0, .int g, .ref b_d, .ref b_w, .ref b_c, .int 0, .ref b_q, .int 0, .int 0, .int 0, .ref b_s, .int th])), (b_m, .inl (j_m, 1024, .inl (fun _ => 0)))] sz) := by
  refine Met.ofW (cc := cX7_fetch) (maxL := 2) (ret := (some .int)) (by decide) rfl ?_
  intro p e s m args below meth c s₁ B hml hv
  obtain ⟨rfl, hsz, hP, hK, hD0, hN⟩ := hv
  have hx := B.exec
  have hb := B.bytes
  have hr := B.returns
  have hts : ∀ w ∈ zw, w.before _ s = true := fun w h => atoms_spec (ws := (zq yX7_fetch cX7_fetch 2 (some .int))) B.pre w (List.mem_cons_of_mem _ h)
  have hown : s.vm.findClass RX7 = some m.cls := findClass_of_methodNamed B.named
  have hlocks := B.notSynchronized
  subst hsz
  have hD := hD0.self (sz := s.heap.size)
  generalize hAe : va_A [(b_o, .inr (7, [.ref b_m, .ref b_r, .int 0, .int pc, .int tk, .int 0, .int 0, .int 0, .int 7, .int 0, .ref b_l, .int 0, .int 0, .int 0, .int 0, .int 0, .int 0, .int 0, .int 0, .int g, .ref b_d, .ref b_w, .ref b_c, .int 0, .ref b_q, .int 0, .int 0, .int 0, .ref b_s, .int th])), (b_m, .inl (j_m, 1024, .inl (fun _ => 0)))] s.heap.size = A at hD ⊢
  have hA : ∀ q : Nat, s.heap.size ≤ q → A q := fun q h => by rw [← hAe]; exact Or.inr h
  have hS : va_S A s.heap s.heap [] := va_S.rf
  have hP : va_P (dC, dI) vwCl [(b_o, .inr (7, [.ref b_m, .ref b_r, .int 0, .int pc, .int tk, .int 0, .int 0, .int 0, .int 7, .int 0, .ref b_l, .int 0, .int 0, .int 0, .int 0, .int 0, .int 0, .int 0, .int 0, .int g, .ref b_d, .ref b_w, .ref b_c, .int 0, .ref b_q, .int 0, .int 0, .int 0, .ref b_s, .int th])), (b_m, .inl (j_m, 1024, .inl (fun _ => 0)))] s.heap := hP
  have hl := lv_entry ([.ref b_o]) (n := 2) (Nat.le_of_ble_eq_true rfl)
  rw [lg_entry_eq]
  generalize (lg_sl ([.ref b_o]) ++ List.replicate (2 - (lg_sl ([.ref b_o])).length) Slot.unset).toArray = ls at hl ⊢
  have hl : lv_has ls 2 [(0, .ref b_o)] := hl
  refine lv_aload_n hx hb dX7_fetch_0 rfl (lv_at hl 0 rfl) ?_
  refine lv_aload_n hx hb dX7_fetch_1 rfl (lv_at hl 0 rfl) ?_
  refine va_get (D := (dC, dI)) (ci := 7) (v := .int pc) (C := RX7) (T := TX7) (N := 30) hx hb hts zx_7 hown hK hP 0 rfl rfl 3 (by decide) (hts (.fieldLink RX7 45 "KeyboardKitModel" "pc" "I") zw_723) (fun _ h9 => h9) rfl dX7_fetch_2 ?_
  refine zc_i (wr := []) hP hD hS hA [0, 1] [] rfl rfl (by decide) (by decide) (va_runV (As := [.int pc]) (rest := []) ⟨hx, hb, hml, hown, hts⟩ (r_read l dC dI b_o b_m b_r b_l b_d b_w b_c b_q b_s j_m pc tk g th pc _) (cwV 1 hts (zg_V zw_856 zw_858 zw_48 zw_90 zw_859) rfl rfl rfl (by decide +kernel) ⟨Nat.le_of_ble_eq_true rfl, Nat.le_of_ble_eq_true rfl⟩) ⟨zc_blind, va_recv hK hP (ci := 7) (q0 := 0) rfl rfl, zc_start hP hD hK hN [0, 1] [0] rfl (by decide) rfl⟩ rfl rfl hl.1 rfl (lv_room (Nat.le_of_ble_eq_true rfl)) dX7_fetch_5 ⟨Nat.le_of_ble_eq_true rfl, Nat.le_of_ble_eq_true rfl⟩) (fun r_1 u_1 H locs hw hK1 hP hD hS => ?_)
  have hP : va_P (dC, dI) vwCl [(b_o, .inr (7, [.ref b_m, .ref b_r, .int 0, .int pc, .int u_1, .int 0, .int 0, .int 0, .int 7, .int 0, .ref b_l, .int 0, .int 0, .int 0, .int 0, .int 0, .int 0, .int 0, .int 0, .int g, .ref b_d, .ref b_w, .ref b_c, .int 0, .ref b_q, .int 0, .int 0, .int 0, .ref b_s, .int th])), (b_m, .inl (j_m, 1024, .inl (fun _ => 0)))] H := hP
  have hD : va_D A [(b_o, .inr (7, [.ref b_m, .ref b_r, .int 0, .int pc, .int u_1, .int 0, .int 0, .int 0, .int 7, .int 0, .ref b_l, .int 0, .int 0, .int 0, .int 0, .int 0, .int 0, .int 0, .int 0, .int g, .ref b_d, .ref b_w, .ref b_c, .int 0, .ref b_q, .int 0, .int 0, .int 0, .ref b_s, .int th])), (b_m, .inl (j_m, 1024, .inl (fun _ => 0)))] := hD
  obtain rfl : r_1 = 0 := hw
  refine lv_istore_n (lv' := [(1, .int 0), (0, .ref b_o)]) hx hb dX7_fetch_8 rfl hl (by decide) rfl (fun ls hl => ?_)
  refine lv_aload_n hx hb dX7_fetch_9 rfl (lv_at hl 1 rfl) ?_
  refine lv_aload_n hx hb dX7_fetch_10 rfl (lv_at hl 1 rfl) ?_
  refine va_get (D := (dC, dI)) (ci := 7) (v := .int pc) (C := RX7) (T := TX7) (N := 30) hx hb hts zx_7 hown hK hP 0 rfl rfl 3 (by decide) (hts (.fieldLink RX7 45 "KeyboardKitModel" "pc" "I") zw_723) (fun _ h9 => h9) rfl dX7_fetch_11 ?_
  refine lv_iconst (v := 1) hx hb dX7_fetch_14 (by decide) ?_
  refine lv_iadd hx hb dX7_fetch_15 ?_
  refine lv_topi (fun v_2 ev_2 => ?_)
  refine lv_ldc (v := 65535) hx hb hown (hts (.constant RX7 52 (65535)) zw_843) dX7_fetch_16 ?_
  refine lv_iand hx hb dX7_fetch_18 ?_
  refine lv_topi (fun v_3 ev_3 => ?_)
  refine va_put (D := (dC, dI)) (ci := 7) (v := .int v_3) (ty := .int) (C := RX7) (T := TX7) (N := 30) hx hb hts zx_7 tyX7 tyX7_ok nmX7 hown hK hP hD hS 0 rfl rfl 3 (by decide) (hts (.fieldLink RX7 45 "KeyboardKitModel" "pc" "I") zw_723) (fun _ h9 => h9) rfl (by decide +kernel) rfl rfl (Nat.le_of_ble_eq_true rfl) dX7_fetch_19 (fun H locs hP hD hS => ?_)
  have hP : va_P (dC, dI) vwCl [(b_o, .inr (7, [.ref b_m, .ref b_r, .int 0, .int v_3, .int u_1, .int 0, .int 0, .int 0, .int 7, .int 0, .ref b_l, .int 0, .int 0, .int 0, .int 0, .int 0, .int 0, .int 0, .int 0, .int g, .ref b_d, .ref b_w, .ref b_c, .int 0, .ref b_q, .int 0, .int 0, .int 0, .ref b_s, .int th])), (b_m, .inl (j_m, 1024, .inl (fun _ => 0)))] H := hP
  have hD : va_D A [(b_o, .inr (7, [.ref b_m, .ref b_r, .int 0, .int v_3, .int u_1, .int 0, .int 0, .int 0, .int 7, .int 0, .ref b_l, .int 0, .int 0, .int 0, .int 0, .int 0, .int 0, .int 0, .int 0, .int g, .ref b_d, .ref b_w, .ref b_c, .int 0, .ref b_q, .int 0, .int 0, .int 0, .ref b_s, .int th])), (b_m, .inl (j_m, 1024, .inl (fun _ => 0)))] := hD
  refine lv_iload_n hx hb dX7_fetch_22 rfl (lv_at hl 0 rfl) ?_
  have hP9 := hP.sub (ws' := [(b_o, .inr (7, [.ref b_m, .ref b_r, .int 0, .int v_3, .int u_1, .int 0, .int 0, .int 0, .int 7, .int 0, .ref b_l, .int 0, .int 0, .int 0, .int 0, .int 0, .int 0, .int 0, .int 0, .int g, .ref b_d, .ref b_w, .ref b_c, .int 0, .ref b_q, .int 0, .int 0, .int 0, .ref b_s, .int th])), (b_m, .inl (j_m, 1024, .inl (fun _ => 0)))]) [0, 1] rfl
  have hD9 := hD.sub (ws' := [(b_o, .inr (7, [.ref b_m, .ref b_r, .int 0, .int v_3, .int u_1, .int 0, .int 0, .int 0, .int 7, .int 0, .ref b_l, .int 0, .int 0, .int 0, .int 0, .int 0, .int 0, .int 0, .int 0, .int g, .ref b_d, .ref b_w, .ref b_c, .int 0, .ref b_q, .int 0, .int 0, .int 0, .ref b_s, .int th])), (b_m, .inl (j_m, 1024, .inl (fun _ => 0)))]) [0, 1] (by decide) rfl
  have hK9 := hK.sub (tys' := [(j_m, .int)]) [0] rfl
  exact W.iret (v := 0) hx hb hr (fun t9 ht hW => ⟨⟨0, (fun k => match k with | 0 => v_3 | _ => u_1), rfl, rfl, by rw [ht]; exact hP9, va_K.moved hW.alike hK9, hD9⟩, hS.F ht⟩) hS.2.2 dX7_fetch_23
set_option maxHeartbeats 4000000 in
set_option maxRecDepth 100000 in
/-- reference: first(0, 0) -/
theorem r_first (l : Launch) (dC : Nat → ClassId) (dI : Nat → Nat → Nat) (b_o : Nat) (b_m : Nat) (b_r : Nat) (b_l : Nat) (b_d : Nat) (b_w : Nat) (b_c : Nat) (b_q : Nat) (b_s : Nat) (pc : Int32) (tk : Int32) (g : Int32) (th : Int32) (sz : Nat) : Met l yX7_first (zq yX7_first cX7_first 3 none) ({ frames := 0, cells := 0, slots := 0, locals := 0 }) (va_Pc [.ref b_o, .int 0, .int 0] (zc_P (dC, dI) [(b_o, .inr (7, [.ref b_m, .ref b_r, .int 0, .int pc, .int tk, .int 0, .int 0, .int 0, .int 7, .int 0, .ref b_l, .int 0, .int 0, .int 0, .int 0, .int 0, .int 0, .int 0, .int 0, .int g, .ref b_d, .ref b_w, .ref b_c, .int 0, .ref b_q, .int 0, .int 0, .int 0, .ref b_s, .int th]))] [] sz)) (va_Qv (fun _ => True) (fun (u : Unit) t9 => zc_B (dC, dI) (va_A [(b_o, .inr (7, [.ref b_m, .ref b_r, .int 0, .int pc, .int tk, .int 0, .int 0, .int 0, .int 7, .int 0, .ref b_l, .int 0, .int 0, .int 0, .int 0, .int 0, .int 0, .int 0, .int 0, .int g, .ref b_d, .ref b_w, .ref b_c, .int 0, .ref b_q, .int 0, .int 0, .int 0, .ref b_s, .int th]))] sz) [(b_o, .inr (7, [.ref b_m, .ref b_r, .int 0, .int pc, .int tk, .int 0, .int 0, .int 0, .int 7, .int 0, .ref b_l, .int 0, .int 0, .int 0, .int 0, .int 0, .int 0, .int 0, .int 0, .int g, .ref b_d, .ref b_w, .ref b_c, .int 0, .ref b_q, .int 0, .int 0, .int 0, .ref b_s, .int th]))] [] t9) (va_A [(b_o, .inr (7, [.ref b_m, .ref b_r, .int 0, .int pc, .int tk, .int 0, .int 0, .int 0, .int 7, .int 0, .ref b_l, .int 0, .int 0, .int 0, .int 0, .int 0, .int 0, .int 0, .int 0, .int g, .ref b_d, .ref b_w, .ref b_c, .int 0, .ref b_q, .int 0, .int 0, .int 0, .ref b_s, .int th]))] sz)) 0 0 (va_A [(b_o, .inr (7, [.ref b_m, .ref b_r, .int 0, .int pc, .int tk, .int 0, .int 0, .int 0, .int 7, .int 0, .ref b_l, .int 0, .int 0, .int 0, .int 0, .int 0, .int 0, .int 0, .int 0, .int g, .ref b_d, .ref b_w, .ref b_c, .int 0, .ref b_q, .int 0, .int 0, .int 0, .ref b_s, .int th]))] sz) := by
  refine Met.ofW (cc := cX7_first) (maxL := 3) (ret := none) (by decide) rfl ?_
  intro p e s m args below meth c s₁ B hml hv
  obtain ⟨rfl, hsz, hP, hK, hD0, hN⟩ := hv
  have hx := B.exec
  have hb := B.bytes
  have hr := B.returns
  have hts : ∀ w ∈ zw, w.before _ s = true := fun w h => atoms_spec (ws := (zq yX7_first cX7_first 3 none)) B.pre w (List.mem_cons_of_mem _ h)
  have hown : s.vm.findClass RX7 = some m.cls := findClass_of_methodNamed B.named
  have hlocks := B.notSynchronized
  subst hsz
  have hD := hD0.self (sz := s.heap.size)
  generalize hAe : va_A [(b_o, .inr (7, [.ref b_m, .ref b_r, .int 0, .int pc, .int tk, .int 0, .int 0, .int 0, .int 7, .int 0, .ref b_l, .int 0, .int 0, .int 0, .int 0, .int 0, .int 0, .int 0, .int 0, .int g, .ref b_d, .ref b_w, .ref b_c, .int 0, .ref b_q, .int 0, .int 0, .int 0, .ref b_s, .int th]))] s.heap.size = A at hD ⊢
  have hA : ∀ q : Nat, s.heap.size ≤ q → A q := fun q h => by rw [← hAe]; exact Or.inr h
  have hS : va_S A s.heap s.heap [] := va_S.rf
  have hP : va_P (dC, dI) vwCl [(b_o, .inr (7, [.ref b_m, .ref b_r, .int 0, .int pc, .int tk, .int 0, .int 0, .int 0, .int 7, .int 0, .ref b_l, .int 0, .int 0, .int 0, .int 0, .int 0, .int 0, .int 0, .int 0, .int g, .ref b_d, .ref b_w, .ref b_c, .int 0, .ref b_q, .int 0, .int 0, .int 0, .ref b_s, .int th]))] s.heap := hP
  have hl := lv_entry ([.ref b_o, .int 0, .int 0]) (n := 3) (Nat.le_of_ble_eq_true rfl)
  rw [lg_entry_eq]
  generalize (lg_sl ([.ref b_o, .int 0, .int 0]) ++ List.replicate (3 - (lg_sl ([.ref b_o, .int 0, .int 0])).length) Slot.unset).toArray = ls at hl ⊢
  have hl : lv_has ls 3 [(0, .ref b_o), (1, .int 0), (2, .int 0)] := hl
  refine lv_iload_n hx hb dX7_first_0 rfl (lv_at hl 2 rfl) ?_
  refine lv_tableIn (off := 43) (tgt := 44) hx hb dX7_first_1 (by decide) (by decide) rfl (by decide) ?_
  refine lv_iload_n hx hb dX7_first_44 rfl (lv_at hl 1 rfl) ?_
  refine lv_iconst (v := 4) hx hb dX7_first_45 (by decide) ?_
  refine lv_icmp_ne (tgt := 101) hx hb dX7_first_46 (by decide) (fun c_1 => ?_) (fun c_1 => absurd c_1 (by decide))
  refine lv_iload_n hx hb dX7_first_101 rfl (lv_at hl 1 rfl) ?_
  refine lv_bipush (v := 6) hx hb dX7_first_102 (by decide) ?_
  refine lv_icmp_ne (tgt := 166) hx hb dX7_first_104 (by decide) (fun c_2 => ?_) (fun c_2 => absurd c_2 (by decide))
  have hP9 := hP.sub (ws' := [(b_o, .inr (7, [.ref b_m, .ref b_r, .int 0, .int pc, .int tk, .int 0, .int 0, .int 0, .int 7, .int 0, .ref b_l, .int 0, .int 0, .int 0, .int 0, .int 0, .int 0, .int 0, .int 0, .int g, .ref b_d, .ref b_w, .ref b_c, .int 0, .ref b_q, .int 0, .int 0, .int 0, .ref b_s, .int th]))]) [0] rfl
  have hD9 := hD.sub (ws' := [(b_o, .inr (7, [.ref b_m, .ref b_r, .int 0, .int pc, .int tk, .int 0, .int 0, .int 0, .int 7, .int 0, .ref b_l, .int 0, .int 0, .int 0, .int 0, .int 0, .int 0, .int 0, .int 0, .int g, .ref b_d, .ref b_w, .ref b_c, .int 0, .ref b_q, .int 0, .int 0, .int 0, .ref b_s, .int th]))]) [0] (by decide) rfl
  have hK9 := hK.sub (tys' := []) [] rfl
  exact W.vret hx hb hr (fun t9 ht hW => ⟨⟨(), rfl, trivial, by rw [ht]; exact hP9, va_K.moved hW.alike hK9, hD9⟩, hS.F ht⟩) hS.2.2 dX7_first_166
set_option maxHeartbeats 4000000 in
set_option maxRecDepth 100000 in
/-- reference: instruction over NOP -/
theorem r_ins (l : Launch) (dC : Nat → ClassId) (dI : Nat → Nat → Nat) (b_o : Nat) (b_m : Nat) (b_r : Nat) (b_l : Nat) (b_d : Nat) (b_w : Nat) (b_c : Nat) (b_q : Nat) (b_s : Nat) (j_m : ClassId) (pc : Int32) (tk : Int32) (g : Int32) (th : Int32) (sz : Nat) : Met l yX7_instruction (zq yX7_instruction cX7_instruction 5 none) ({ frames := 2, cells := 0, slots := 0, locals := 42 }) (va_Pc [.ref b_o] (zc_P (dC, dI) [(b_o, .inr (7, [.ref b_m, .ref b_r, .int 0, .int pc, .int tk, .int 0, .int 0, .int 0, .int 7, .int 0, .ref b_l, .int 0, .int 0, .int 0, .int 0, .int 0, .int 0, .int 0, .int 0, .int g, .ref b_d, .ref b_w, .ref b_c, .int 0, .ref b_q, .int 0, .int 0, .int 0, .ref b_s, .int th])), (b_m, .inl (j_m, 1024, .inl (fun _ => 0)))] [(j_m, .int)] sz)) (va_Qv (fun _ => True) (fun (u : Int32) t9 => zc_B (dC, dI) (va_A [(b_o, .inr (7, [.ref b_m, .ref b_r, .int 0, .int pc, .int tk, .int 0, .int 0, .int 0, .int 7, .int 0, .ref b_l, .int 0, .int 0, .int 0, .int 0, .int 0, .int 0, .int 0, .int 0, .int g, .ref b_d, .ref b_w, .ref b_c, .int 0, .ref b_q, .int 0, .int 0, .int 0, .ref b_s, .int th])), (b_m, .inl (j_m, 1024, .inl (fun _ => 0)))] sz) [(b_o, .inr (7, [.ref b_m, .ref b_r, .int 0, .int u, .int 4, .int 0, .int 0, .int 0, .int 7, .int 0, .ref b_l, .int 0, .int 0, .int 0, .int 0, .int 0, .int 0, .int 0, .int 0, .int g, .ref b_d, .ref b_w, .ref b_c, .int 0, .ref b_q, .int 0, .int 0, .int 0, .ref b_s, .int th])), (b_m, .inl (j_m, 1024, .inl (fun _ => 0)))] [(j_m, .int)] t9) (va_A [(b_o, .inr (7, [.ref b_m, .ref b_r, .int 0, .int pc, .int tk, .int 0, .int 0, .int 0, .int 7, .int 0, .ref b_l, .int 0, .int 0, .int 0, .int 0, .int 0, .int 0, .int 0, .int 0, .int g, .ref b_d, .ref b_w, .ref b_c, .int 0, .ref b_q, .int 0, .int 0, .int 0, .ref b_s, .int th])), (b_m, .inl (j_m, 1024, .inl (fun _ => 0)))] sz)) 0 0 (va_A [(b_o, .inr (7, [.ref b_m, .ref b_r, .int 0, .int pc, .int tk, .int 0, .int 0, .int 0, .int 7, .int 0, .ref b_l, .int 0, .int 0, .int 0, .int 0, .int 0, .int 0, .int 0, .int 0, .int g, .ref b_d, .ref b_w, .ref b_c, .int 0, .ref b_q, .int 0, .int 0, .int 0, .ref b_s, .int th])), (b_m, .inl (j_m, 1024, .inl (fun _ => 0)))] sz) := by
  refine Met.ofW (cc := cX7_instruction) (maxL := 5) (ret := none) (by decide) rfl ?_
  intro p e s m args below meth c s₁ B hml hv
  obtain ⟨rfl, hsz, hP, hK, hD0, hN⟩ := hv
  have hx := B.exec
  have hb := B.bytes
  have hr := B.returns
  have hts : ∀ w ∈ zw, w.before _ s = true := fun w h => atoms_spec (ws := (zq yX7_instruction cX7_instruction 5 none)) B.pre w (List.mem_cons_of_mem _ h)
  have hown : s.vm.findClass RX7 = some m.cls := findClass_of_methodNamed B.named
  have hlocks := B.notSynchronized
  subst hsz
  have hD := hD0.self (sz := s.heap.size)
  generalize hAe : va_A [(b_o, .inr (7, [.ref b_m, .ref b_r, .int 0, .int pc, .int tk, .int 0, .int 0, .int 0, .int 7, .int 0, .ref b_l, .int 0, .int 0, .int 0, .int 0, .int 0, .int 0, .int 0, .int 0, .int g, .ref b_d, .ref b_w, .ref b_c, .int 0, .ref b_q, .int 0, .int 0, .int 0, .ref b_s, .int th])), (b_m, .inl (j_m, 1024, .inl (fun _ => 0)))] s.heap.size = A at hD ⊢
  have hA : ∀ q : Nat, s.heap.size ≤ q → A q := fun q h => by rw [← hAe]; exact Or.inr h
  have hS : va_S A s.heap s.heap [] := va_S.rf
  have hP : va_P (dC, dI) vwCl [(b_o, .inr (7, [.ref b_m, .ref b_r, .int 0, .int pc, .int tk, .int 0, .int 0, .int 0, .int 7, .int 0, .ref b_l, .int 0, .int 0, .int 0, .int 0, .int 0, .int 0, .int 0, .int 0, .int g, .ref b_d, .ref b_w, .ref b_c, .int 0, .ref b_q, .int 0, .int 0, .int 0, .ref b_s, .int th])), (b_m, .inl (j_m, 1024, .inl (fun _ => 0)))] s.heap := hP
  have hl := lv_entry ([.ref b_o]) (n := 5) (Nat.le_of_ble_eq_true rfl)
  rw [lg_entry_eq]
  generalize (lg_sl ([.ref b_o]) ++ List.replicate (5 - (lg_sl ([.ref b_o])).length) Slot.unset).toArray = ls at hl ⊢
  have hl : lv_has ls 5 [(0, .ref b_o)] := hl
  refine lv_aload_n hx hb dX7_instruction_0 rfl (lv_at hl 0 rfl) ?_
  refine lv_iconst (v := 0) hx hb dX7_instruction_1 (by decide) ?_
  refine va_put (D := (dC, dI)) (ci := 7) (v := .int 0) (ty := .boolean) (C := RX7) (T := TX7) (N := 30) hx hb hts zx_7 tyX7 tyX7_ok nmX7 hown hK hP hD hS 0 rfl rfl 6 (by decide) (hts (.fieldLink RX7 199 "KeyboardKitModel" "soon" "Z") zw_726) (fun _ h9 => h9) rfl (by decide +kernel) rfl rfl (Nat.le_of_ble_eq_true rfl) dX7_instruction_2 (fun H locs hP hD hS => ?_)
  have hP : va_P (dC, dI) vwCl [(b_o, .inr (7, [.ref b_m, .ref b_r, .int 0, .int pc, .int tk, .int 0, .int 0, .int 0, .int 7, .int 0, .ref b_l, .int 0, .int 0, .int 0, .int 0, .int 0, .int 0, .int 0, .int 0, .int g, .ref b_d, .ref b_w, .ref b_c, .int 0, .ref b_q, .int 0, .int 0, .int 0, .ref b_s, .int th])), (b_m, .inl (j_m, 1024, .inl (fun _ => 0)))] H := hP
  have hD : va_D A [(b_o, .inr (7, [.ref b_m, .ref b_r, .int 0, .int pc, .int tk, .int 0, .int 0, .int 0, .int 7, .int 0, .ref b_l, .int 0, .int 0, .int 0, .int 0, .int 0, .int 0, .int 0, .int 0, .int g, .ref b_d, .ref b_w, .ref b_c, .int 0, .ref b_q, .int 0, .int 0, .int 0, .ref b_s, .int th])), (b_m, .inl (j_m, 1024, .inl (fun _ => 0)))] := hD
  refine lv_aload_n hx hb dX7_instruction_5 rfl (lv_at hl 0 rfl) ?_
  refine zc_i (wr := []) hP hD hS hA [0, 1] [] rfl rfl (by decide) (by decide) (va_runV (As := []) (rest := []) ⟨hx, hb, hml, hown, hts⟩ (r_fetch l dC dI b_o b_m b_r b_l b_d b_w b_c b_q b_s j_m pc tk g th _) (cwV 0 hts (zg_V zw_852 zw_854 zw_47 zw_90 zw_855) rfl rfl rfl (by decide +kernel) ⟨Nat.le_of_ble_eq_true rfl, Nat.le_of_ble_eq_true rfl⟩) ⟨zc_blind, va_recv hK hP (ci := 7) (q0 := 0) rfl rfl, zc_start hP hD hK hN [0, 1] [0] rfl (by decide) rfl⟩ rfl rfl hl.1 rfl (lv_room (Nat.le_of_ble_eq_true rfl)) dX7_instruction_6 ⟨Nat.le_of_ble_eq_true rfl, Nat.le_of_ble_eq_true rfl⟩) (fun r_1 u_1 H locs hw hK1 hP hD hS => ?_)
  have hP : va_P (dC, dI) vwCl [(b_o, .inr (7, [.ref b_m, .ref b_r, .int 0, .int (u_1 0), .int (u_1 1), .int 0, .int 0, .int 0, .int 7, .int 0, .ref b_l, .int 0, .int 0, .int 0, .int 0, .int 0, .int 0, .int 0, .int 0, .int g, .ref b_d, .ref b_w, .ref b_c, .int 0, .ref b_q, .int 0, .int 0, .int 0, .ref b_s, .int th])), (b_m, .inl (j_m, 1024, .inl (fun _ => 0)))] H := hP
  have hD : va_D A [(b_o, .inr (7, [.ref b_m, .ref b_r, .int 0, .int (u_1 0), .int (u_1 1), .int 0, .int 0, .int 0, .int 7, .int 0, .ref b_l, .int 0, .int 0, .int 0, .int 0, .int 0, .int 0, .int 0, .int 0, .int g, .ref b_d, .ref b_w, .ref b_c, .int 0, .ref b_q, .int 0, .int 0, .int 0, .ref b_s, .int th])), (b_m, .inl (j_m, 1024, .inl (fun _ => 0)))] := hD
  obtain rfl : r_1 = 0 := hw
  refine lv_istore_n (lv' := [(1, .int 0), (0, .ref b_o)]) hx hb dX7_instruction_9 rfl hl (by decide) rfl (fun ls hl => ?_)
  refine lv_aload_n hx hb dX7_instruction_10 rfl (lv_at hl 1 rfl) ?_
  refine lv_iconst (v := 4) hx hb dX7_instruction_11 (by decide) ?_
  refine va_put (D := (dC, dI)) (ci := 7) (v := .int 4) (ty := .int) (C := RX7) (T := TX7) (N := 30) hx hb hts zx_7 tyX7 tyX7_ok nmX7 hown hK hP hD hS 0 rfl rfl 4 (by decide) (hts (.fieldLink RX7 42 "KeyboardKitModel" "ticks" "I") zw_724) (fun _ h9 => h9) rfl (by decide +kernel) rfl rfl (Nat.le_of_ble_eq_true rfl) dX7_instruction_12 (fun H locs hP hD hS => ?_)
  have hP : va_P (dC, dI) vwCl [(b_o, .inr (7, [.ref b_m, .ref b_r, .int 0, .int (u_1 0), .int 4, .int 0, .int 0, .int 0, .int 7, .int 0, .ref b_l, .int 0, .int 0, .int 0, .int 0, .int 0, .int 0, .int 0, .int 0, .int g, .ref b_d, .ref b_w, .ref b_c, .int 0, .ref b_q, .int 0, .int 0, .int 0, .ref b_s, .int th])), (b_m, .inl (j_m, 1024, .inl (fun _ => 0)))] H := hP
  have hD : va_D A [(b_o, .inr (7, [.ref b_m, .ref b_r, .int 0, .int (u_1 0), .int 4, .int 0, .int 0, .int 0, .int 7, .int 0, .ref b_l, .int 0, .int 0, .int 0, .int 0, .int 0, .int 0, .int 0, .int 0, .int g, .ref b_d, .ref b_w, .ref b_c, .int 0, .ref b_q, .int 0, .int 0, .int 0, .ref b_s, .int th])), (b_m, .inl (j_m, 1024, .inl (fun _ => 0)))] := hD
  refine lv_iload_n hx hb dX7_instruction_15 rfl (lv_at hl 0 rfl) ?_
  refine lv_bipush (v := 6) hx hb dX7_instruction_16 (by decide) ?_
  refine lv_ishr hx hb dX7_instruction_18 ?_
  refine lv_topi (fun v_2 ev_2 => ?_)
  obtain rfl : v_2 = 0 := ev_2.trans (by decide)
  refine lv_istore_n (lv' := [(2, .int 0), (1, .int 0), (0, .ref b_o)]) hx hb dX7_instruction_19 rfl hl (by decide) rfl (fun ls hl => ?_)
  refine lv_iload_n hx hb dX7_instruction_20 rfl (lv_at hl 1 rfl) ?_
  refine lv_iconst (v := 3) hx hb dX7_instruction_21 (by decide) ?_
  refine lv_ishr hx hb dX7_instruction_22 ?_
  refine lv_topi (fun v_3 ev_3 => ?_)
  obtain rfl : v_3 = 0 := ev_3.trans (by decide)
  refine lv_bipush (v := 7) hx hb dX7_instruction_23 (by decide) ?_
  refine lv_iand hx hb dX7_instruction_25 ?_
  refine lv_topi (fun v_4 ev_4 => ?_)
  obtain rfl : v_4 = 0 := ev_4.trans (by decide)
  refine lv_istore_n (lv' := [(3, .int 0), (2, .int 0), (1, .int 0), (0, .ref b_o)]) hx hb dX7_instruction_26 rfl hl (by decide) rfl (fun ls hl => ?_)
  refine lv_iload_n hx hb dX7_instruction_27 rfl (lv_at hl 2 rfl) ?_
  refine lv_bipush (v := 7) hx hb dX7_instruction_28 (by decide) ?_
  refine lv_iand hx hb dX7_instruction_30 ?_
  refine lv_topi (fun v_5 ev_5 => ?_)
  obtain rfl : v_5 = 0 := ev_5.trans (by decide)
  refine lv_istore (lv' := [(4, .int 0), (3, .int 0), (2, .int 0), (1, .int 0), (0, .ref b_o)]) hx hb dX7_instruction_31 hl (by decide) rfl (fun ls hl => ?_)
  refine lv_iload_n hx hb dX7_instruction_33 rfl (lv_at hl 2 rfl) ?_
  refine lv_if_ne (tgt := 47) hx hb dX7_instruction_34 (by decide) (fun c_6 => absurd c_6 (by decide)) (fun c_6 => ?_)
  refine lv_aload_n hx hb dX7_instruction_37 rfl (lv_at hl 4 rfl) ?_
  refine lv_iload_n hx hb dX7_instruction_38 rfl (lv_at hl 1 rfl) ?_
  refine lv_iload hx hb dX7_instruction_39 (lv_at hl 0 rfl) ?_
  refine zc_v (wr := [(b_m, .inl (j_m, 1024, .inl (fun _ => 0)))]) hP hD hS hA [0] [1] rfl rfl (by decide) (by decide) (va_runV (As := [.int 0, .int 0]) (rest := []) ⟨hx, hb, hml, hown, hts⟩ (r_first l dC dI b_o b_m b_r b_l b_d b_w b_c b_q b_s (u_1 0) 4 g th _) (cwV 2 hts (zg_V zw_860 zw_862 zw_49 zw_90 zw_863) rfl rfl rfl (by decide +kernel) ⟨Nat.le_of_ble_eq_true rfl, Nat.le_of_ble_eq_true rfl⟩) ⟨zc_blind, va_recv hK hP (ci := 7) (q0 := 0) rfl rfl, zc_start hP hD hK hN [0] [] rfl (by decide) rfl⟩ rfl rfl hl.1 rfl (lv_room (Nat.le_of_ble_eq_true rfl)) dX7_instruction_41 ⟨Nat.le_of_ble_eq_true rfl, Nat.le_of_ble_eq_true rfl⟩) (fun u_7 H locs hw hK1 hP hD hS => ?_)
  have hP : va_P (dC, dI) vwCl [(b_m, .inl (j_m, 1024, .inl (fun _ => 0))), (b_o, .inr (7, [.ref b_m, .ref b_r, .int 0, .int (u_1 0), .int 4, .int 0, .int 0, .int 0, .int 7, .int 0, .ref b_l, .int 0, .int 0, .int 0, .int 0, .int 0, .int 0, .int 0, .int 0, .int g, .ref b_d, .ref b_w, .ref b_c, .int 0, .ref b_q, .int 0, .int 0, .int 0, .ref b_s, .int th]))] H := hP
  have hD : va_D A [(b_m, .inl (j_m, 1024, .inl (fun _ => 0))), (b_o, .inr (7, [.ref b_m, .ref b_r, .int 0, .int (u_1 0), .int 4, .int 0, .int 0, .int 0, .int 7, .int 0, .ref b_l, .int 0, .int 0, .int 0, .int 0, .int 0, .int 0, .int 0, .int 0, .int g, .ref b_d, .ref b_w, .ref b_c, .int 0, .ref b_q, .int 0, .int 0, .int 0, .ref b_s, .int th]))] := hD
  refine lv_goto (tgt := 118) hx hb dX7_instruction_44 (by decide) ?_
  have hP9 := hP.sub (ws' := [(b_o, .inr (7, [.ref b_m, .ref b_r, .int 0, .int (u_1 0), .int 4, .int 0, .int 0, .int 0, .int 7, .int 0, .ref b_l, .int 0, .int 0, .int 0, .int 0, .int 0, .int 0, .int 0, .int 0, .int g, .ref b_d, .ref b_w, .ref b_c, .int 0, .ref b_q, .int 0, .int 0, .int 0, .ref b_s, .int th])), (b_m, .inl (j_m, 1024, .inl (fun _ => 0)))]) [1, 0] rfl
  have hD9 := hD.sub (ws' := [(b_o, .inr (7, [.ref b_m, .ref b_r, .int 0, .int (u_1 0), .int 4, .int 0, .int 0, .int 0, .int 7, .int 0, .ref b_l, .int 0, .int 0, .int 0, .int 0, .int 0, .int 0, .int 0, .int 0, .int g, .ref b_d, .ref b_w, .ref b_c, .int 0, .ref b_q, .int 0, .int 0, .int 0, .ref b_s, .int th])), (b_m, .inl (j_m, 1024, .inl (fun _ => 0)))]) [1, 0] (by decide) rfl
  have hK9 := hK.sub (tys' := [(j_m, .int)]) [0] rfl
  exact W.vret hx hb hr (fun t9 ht hW => ⟨⟨(u_1 0), rfl, trivial, by rw [ht]; exact hP9, va_K.moved hW.alike hK9, hD9⟩, hS.F ht⟩) hS.2.2 dX7_instruction_118
