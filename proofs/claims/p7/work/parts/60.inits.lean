theorem dX0_init_0 : decode cX0_init 0 = .ok (.aload_n 0, 1) := by decide +kernel
theorem dX0_init_1 : decode cX0_init 1 = .ok (.invokespecial 3, 3) := by decide +kernel
theorem dX0_init_4 : decode cX0_init 4 = .ok (.return_, 1) := by decide +kernel
theorem dX1_init_0 : decode cX1_init 0 = .ok (.aload_n 0, 1) := by decide +kernel
theorem dX1_init_1 : decode cX1_init 1 = .ok (.invokespecial 1, 3) := by decide +kernel
theorem dX1_init_10 : decode cX1_init 10 = .ok (.return_, 1) := by decide +kernel
theorem dX1_init_4 : decode cX1_init 4 = .ok (.aload_n 0, 1) := by decide +kernel
theorem dX1_init_5 : decode cX1_init 5 = .ok (.bipush 7, 2) := by decide +kernel
theorem dX1_init_7 : decode cX1_init 7 = .ok (.putfield 9, 3) := by decide +kernel
theorem dX2_init_0 : decode cX2_init 0 = .ok (.aload_n 0, 1) := by decide +kernel
theorem dX2_init_1 : decode cX2_init 1 = .ok (.invokespecial 3, 3) := by decide +kernel
theorem dX2_init_12 : decode cX2_init 12 = .ok (.aload_n 0, 1) := by decide +kernel
theorem dX2_init_13 : decode cX2_init 13 = .ok (.bipush 16, 2) := by decide +kernel
theorem dX2_init_15 : decode cX2_init 15 = .ok (.newarray .boolean, 2) := by decide +kernel
theorem dX2_init_17 : decode cX2_init 17 = .ok (.putfield 15, 3) := by decide +kernel
theorem dX2_init_20 : decode cX2_init 20 = .ok (.aload_n 0, 1) := by decide +kernel
theorem dX2_init_21 : decode cX2_init 21 = .ok (.bipush 16, 2) := by decide +kernel
theorem dX2_init_23 : decode cX2_init 23 = .ok (.newarray .boolean, 2) := by decide +kernel
theorem dX2_init_25 : decode cX2_init 25 = .ok (.putfield 18, 3) := by decide +kernel
theorem dX2_init_28 : decode cX2_init 28 = .ok (.aload_n 0, 1) := by decide +kernel
theorem dX2_init_29 : decode cX2_init 29 = .ok (.bipush 8, 2) := by decide +kernel
theorem dX2_init_31 : decode cX2_init 31 = .ok (.newarray .int, 2) := by decide +kernel
theorem dX2_init_33 : decode cX2_init 33 = .ok (.putfield 21, 3) := by decide +kernel
theorem dX2_init_36 : decode cX2_init 36 = .ok (.aload_n 0, 1) := by decide +kernel
theorem dX2_init_37 : decode cX2_init 37 = .ok (.bipush 16, 2) := by decide +kernel
theorem dX2_init_39 : decode cX2_init 39 = .ok (.newarray .int, 2) := by decide +kernel
theorem dX2_init_4 : decode cX2_init 4 = .ok (.aload_n 0, 1) := by decide +kernel
theorem dX2_init_41 : decode cX2_init 41 = .ok (.putfield 25, 3) := by decide +kernel
theorem dX2_init_44 : decode cX2_init 44 = .ok (.aload_n 0, 1) := by decide +kernel
theorem dX2_init_45 : decode cX2_init 45 = .ok (.bipush 64, 2) := by decide +kernel
theorem dX2_init_47 : decode cX2_init 47 = .ok (.putfield 28, 3) := by decide +kernel
theorem dX2_init_5 : decode cX2_init 5 = .ok (.bipush 16, 2) := by decide +kernel
theorem dX2_init_50 : decode cX2_init 50 = .ok (.return_, 1) := by decide +kernel
theorem dX2_init_7 : decode cX2_init 7 = .ok (.newarray .boolean, 2) := by decide +kernel
theorem dX2_init_9 : decode cX2_init 9 = .ok (.putfield 9, 3) := by decide +kernel
theorem dX3_init_0 : decode cX3_init 0 = .ok (.aload_n 0, 1) := by decide +kernel
theorem dX3_init_1 : decode cX3_init 1 = .ok (.invokespecial 1, 3) := by decide +kernel
theorem dX3_init_10 : decode cX3_init 10 = .ok (.aload_n 2, 1) := by decide +kernel
theorem dX3_init_11 : decode cX3_init 11 = .ok (.putfield 13, 3) := by decide +kernel
theorem dX3_init_14 : decode cX3_init 14 = .ok (.return_, 1) := by decide +kernel
theorem dX3_init_4 : decode cX3_init 4 = .ok (.aload_n 0, 1) := by decide +kernel
theorem dX3_init_5 : decode cX3_init 5 = .ok (.aload_n 1, 1) := by decide +kernel
theorem dX3_init_6 : decode cX3_init 6 = .ok (.putfield 7, 3) := by decide +kernel
theorem dX3_init_9 : decode cX3_init 9 = .ok (.aload_n 0, 1) := by decide +kernel
theorem dX4_init_0 : decode cX4_init 0 = .ok (.aload_n 0, 1) := by decide +kernel
theorem dX4_init_1 : decode cX4_init 1 = .ok (.invokespecial 3, 3) := by decide +kernel
theorem dX4_init_12 : decode cX4_init 12 = .ok (.aload_n 0, 1) := by decide +kernel
theorem dX4_init_13 : decode cX4_init 13 = .ok (.new 15, 3) := by decide +kernel
theorem dX4_init_16 : decode cX4_init 16 = .ok (.dup, 1) := by decide +kernel
theorem dX4_init_17 : decode cX4_init 17 = .ok (.invokespecial 17, 3) := by decide +kernel
theorem dX4_init_20 : decode cX4_init 20 = .ok (.putfield 18, 3) := by decide +kernel
theorem dX4_init_23 : decode cX4_init 23 = .ok (.aload_n 0, 1) := by decide +kernel
theorem dX4_init_24 : decode cX4_init 24 = .ok (.aload_n 1, 1) := by decide +kernel
theorem dX4_init_25 : decode cX4_init 25 = .ok (.putfield 22, 3) := by decide +kernel
theorem dX4_init_28 : decode cX4_init 28 = .ok (.aload_n 0, 1) := by decide +kernel
theorem dX4_init_29 : decode cX4_init 29 = .ok (.aload_n 2, 1) := by decide +kernel
theorem dX4_init_30 : decode cX4_init 30 = .ok (.putfield 25, 3) := by decide +kernel
theorem dX4_init_33 : decode cX4_init 33 = .ok (.aload_n 0, 1) := by decide +kernel
theorem dX4_init_34 : decode cX4_init 34 = .ok (.aload_n 3, 1) := by decide +kernel
theorem dX4_init_35 : decode cX4_init 35 = .ok (.putfield 29, 3) := by decide +kernel
theorem dX4_init_38 : decode cX4_init 38 = .ok (.aload_n 0, 1) := by decide +kernel
theorem dX4_init_39 : decode cX4_init 39 = .ok (.aload 4, 2) := by decide +kernel
theorem dX4_init_4 : decode cX4_init 4 = .ok (.aload_n 0, 1) := by decide +kernel
theorem dX4_init_41 : decode cX4_init 41 = .ok (.putfield 33, 3) := by decide +kernel
theorem dX4_init_44 : decode cX4_init 44 = .ok (.aload_n 0, 1) := by decide +kernel
theorem dX4_init_45 : decode cX4_init 45 = .ok (.new 37, 3) := by decide +kernel
theorem dX4_init_48 : decode cX4_init 48 = .ok (.dup, 1) := by decide +kernel
theorem dX4_init_49 : decode cX4_init 49 = .ok (.aload_n 2, 1) := by decide +kernel
theorem dX4_init_5 : decode cX4_init 5 = .ok (.bipush 8, 2) := by decide +kernel
theorem dX4_init_50 : decode cX4_init 50 = .ok (.aload_n 3, 1) := by decide +kernel
theorem dX4_init_51 : decode cX4_init 51 = .ok (.invokespecial 39, 3) := by decide +kernel
theorem dX4_init_54 : decode cX4_init 54 = .ok (.putfield 42, 3) := by decide +kernel
theorem dX4_init_57 : decode cX4_init 57 = .ok (.return_, 1) := by decide +kernel
theorem dX4_init_7 : decode cX4_init 7 = .ok (.newarray .int, 2) := by decide +kernel
theorem dX4_init_9 : decode cX4_init 9 = .ok (.putfield 9, 3) := by decide +kernel
theorem dX5_init_0 : decode cX5_init 0 = .ok (.aload_n 0, 1) := by decide +kernel
theorem dX5_init_1 : decode cX5_init 1 = .ok (.invokespecial 1, 3) := by decide +kernel
theorem dX5_init_4 : decode cX5_init 4 = .ok (.return_, 1) := by decide +kernel
set_option maxHeartbeats 4000000 in
set_option maxRecDepth 100000 in
theorem c_i5 (l : Launch) (dC : Nat → ClassId) (dI : Nat → Nat → Nat) (a_t : Nat) (sz : Nat) : Met l yX5_init (zq yX5_init cX5_init 1 none) ({ frames := 1, cells := 0, slots := 0, locals := 12 }) (va_Pc [.ref a_t] (zc_P (dC, dI) [(a_t, .inr (5, [.int 0, .int 0, .int 0, .int 0, .int 0, .int 0, .int 0]))] [] sz)) (va_Qv (fun _ => True) (fun (u : Unit) t9 => zc_B (dC, dI) (va_A [(a_t, .inr (5, [.int 0, .int 0, .int 0, .int 0, .int 0, .int 0, .int 0]))] sz) [(a_t, .inr (5, [.int 0, .int 0, .int 0, .int 0, .int 0, .int 0, .int 0]))] [] t9) (va_A [(a_t, .inr (5, [.int 0, .int 0, .int 0, .int 0, .int 0, .int 0, .int 0]))] sz)) 0 0 (va_A [(a_t, .inr (5, [.int 0, .int 0, .int 0, .int 0, .int 0, .int 0, .int 0]))] sz) := by
  refine Met.ofW (cc := cX5_init) (maxL := 1) (ret := none) (by decide) rfl ?_
  intro p e s m args below meth c s₁ B hml hv
  obtain ⟨rfl, hsz, hP, hK, hD0, hN⟩ := hv
  have hx := B.exec
  have hb := B.bytes
  have hr := B.returns
  have hts : ∀ w ∈ zw, w.before _ s = true := fun w h => atoms_spec (ws := (zq yX5_init cX5_init 1 none)) B.pre w (List.mem_cons_of_mem _ h)
  have hown : s.vm.findClass RX5 = some m.cls := findClass_of_methodNamed B.named
  have hlocks := B.notSynchronized
  have hin : meth.name = "<init>" := (name_of_methodNamed B.named B.method).1
  subst hsz
  have hD := hD0.self (sz := s.heap.size)
  generalize hAe : va_A [(a_t, .inr (5, [.int 0, .int 0, .int 0, .int 0, .int 0, .int 0, .int 0]))] s.heap.size = A at hD ⊢
  have hA : ∀ q : Nat, s.heap.size ≤ q → A q := fun q h => by rw [← hAe]; exact Or.inr h
  have hS : va_S A s.heap s.heap [] := va_S.rf
  have hP : va_P (dC, dI) vwCl [(a_t, .inr (5, [.int 0, .int 0, .int 0, .int 0, .int 0, .int 0, .int 0]))] s.heap := hP
  have hl := lv_entry ([.ref a_t]) (n := 1) (Nat.le_of_ble_eq_true rfl)
  rw [lg_entry_eq]
  generalize (lg_sl ([.ref a_t]) ++ List.replicate (1 - (lg_sl ([.ref a_t])).length) Slot.unset).toArray = ls at hl ⊢
  have hl : lv_has ls 1 [(0, .ref a_t)] := hl
  refine lv_aload_n hx hb dX5_init_0 rfl (lv_at hl 0 rfl) ?_
  refine W.objInit hx hb hown (hts (.methodLink RX5 1 objectInit) zw_111) (hts (.instanceMethod objectInit) zw_104) (hts (.code objectInit ⟨#[0xb1]⟩ 1 none) zw_105) rfl (by rw [hml]; exact hl.1) rfl dX5_init_1 (Nat.le_of_ble_eq_true rfl) (Nat.le_of_ble_eq_true rfl) ?_
  refine W.eq (g2 := F0 m 4 ls []) rfl ?_
  have hP9 := hP.sub (ws' := [(a_t, .inr (5, [.int 0, .int 0, .int 0, .int 0, .int 0, .int 0, .int 0]))]) [0] rfl
  have hD9 := hD.sub (ws' := [(a_t, .inr (5, [.int 0, .int 0, .int 0, .int 0, .int 0, .int 0, .int 0]))]) [0] (by decide) rfl
  have hK9 := hK.sub (tys' := []) [] rfl
  exact W.vret hx hb hr (fun t9 ht hW => ⟨⟨(), rfl, trivial, by rw [ht]; exact hP9, va_K.moved hW.alike hK9, hD9⟩, hS.F ht⟩) hS.2.2 dX5_init_4
set_option maxHeartbeats 4000000 in
set_option maxRecDepth 100000 in
theorem c_i0 (l : Launch) (dC : Nat → ClassId) (dI : Nat → Nat → Nat) (a_f : Nat) (sz : Nat) : Met l yX0_init (zq yX0_init cX0_init 1 none) ({ frames := 1, cells := 0, slots := 0, locals := 12 }) (va_Pc [.ref a_f] (zc_P (dC, dI) [(a_f, .inr (0, [.int 0]))] [] sz)) (va_Qv (fun _ => True) (fun (u : Unit) t9 => zc_B (dC, dI) (va_A [(a_f, .inr (0, [.int 0]))] sz) [(a_f, .inr (0, [.int 0]))] [] t9) (va_A [(a_f, .inr (0, [.int 0]))] sz)) 0 0 (va_A [(a_f, .inr (0, [.int 0]))] sz) := by
  refine Met.ofW (cc := cX0_init) (maxL := 1) (ret := none) (by decide) rfl ?_
  intro p e s m args below meth c s₁ B hml hv
  obtain ⟨rfl, hsz, hP, hK, hD0, hN⟩ := hv
  have hx := B.exec
  have hb := B.bytes
  have hr := B.returns
  have hts : ∀ w ∈ zw, w.before _ s = true := fun w h => atoms_spec (ws := (zq yX0_init cX0_init 1 none)) B.pre w (List.mem_cons_of_mem _ h)
  have hown : s.vm.findClass RX0 = some m.cls := findClass_of_methodNamed B.named
  have hlocks := B.notSynchronized
  have hin : meth.name = "<init>" := (name_of_methodNamed B.named B.method).1
  subst hsz
  have hD := hD0.self (sz := s.heap.size)
  generalize hAe : va_A [(a_f, .inr (0, [.int 0]))] s.heap.size = A at hD ⊢
  have hA : ∀ q : Nat, s.heap.size ≤ q → A q := fun q h => by rw [← hAe]; exact Or.inr h
  have hS : va_S A s.heap s.heap [] := va_S.rf
  have hP : va_P (dC, dI) vwCl [(a_f, .inr (0, [.int 0]))] s.heap := hP
  have hl := lv_entry ([.ref a_f]) (n := 1) (Nat.le_of_ble_eq_true rfl)
  rw [lg_entry_eq]
  generalize (lg_sl ([.ref a_f]) ++ List.replicate (1 - (lg_sl ([.ref a_f])).length) Slot.unset).toArray = ls at hl ⊢
  have hl : lv_has ls 1 [(0, .ref a_f)] := hl
  refine lv_aload_n hx hb dX0_init_0 rfl (lv_at hl 0 rfl) ?_
  refine W.objInit hx hb hown (hts (.methodLink RX0 3 objectInit) zw_229) (hts (.instanceMethod objectInit) zw_104) (hts (.code objectInit ⟨#[0xb1]⟩ 1 none) zw_105) rfl (by rw [hml]; exact hl.1) rfl dX0_init_1 (Nat.le_of_ble_eq_true rfl) (Nat.le_of_ble_eq_true rfl) ?_
  refine W.eq (g2 := F0 m 4 ls []) rfl ?_
  have hP9 := hP.sub (ws' := [(a_f, .inr (0, [.int 0]))]) [0] rfl
  have hD9 := hD.sub (ws' := [(a_f, .inr (0, [.int 0]))]) [0] (by decide) rfl
  have hK9 := hK.sub (tys' := []) [] rfl
  exact W.vret hx hb hr (fun t9 ht hW => ⟨⟨(), rfl, trivial, by rw [ht]; exact hP9, va_K.moved hW.alike hK9, hD9⟩, hS.F ht⟩) hS.2.2 dX0_init_4
set_option maxHeartbeats 4000000 in
set_option maxRecDepth 100000 in
theorem c_i1 (l : Launch) (dC : Nat → ClassId) (dI : Nat → Nat → Nat) (a_i : Nat) (sz : Nat) : Met l yX1_init (zq yX1_init cX1_init 1 none) ({ frames := 1, cells := 0, slots := 0, locals := 12 }) (va_Pc [.ref a_i] (zc_P (dC, dI) [(a_i, .inr (1, [.int 0, .int 0, .int 0, .int 0, .int 0, .int 0, .int 0]))] [] sz)) (va_Qv (fun _ => True) (fun (u : Unit) t9 => zc_B (dC, dI) (va_A [(a_i, .inr (1, [.int 0, .int 0, .int 0, .int 0, .int 0, .int 0, .int 0]))] sz) [(a_i, .inr (1, [.int 0, .int 0, .int 7, .int 0, .int 0, .int 0, .int 0]))] [] t9) (va_A [(a_i, .inr (1, [.int 0, .int 0, .int 0, .int 0, .int 0, .int 0, .int 0]))] sz)) 0 0 (va_A [(a_i, .inr (1, [.int 0, .int 0, .int 0, .int 0, .int 0, .int 0, .int 0]))] sz) := by
  refine Met.ofW (cc := cX1_init) (maxL := 1) (ret := none) (by decide) rfl ?_
  intro p e s m args below meth c s₁ B hml hv
  obtain ⟨rfl, hsz, hP, hK, hD0, hN⟩ := hv
  have hx := B.exec
  have hb := B.bytes
  have hr := B.returns
  have hts : ∀ w ∈ zw, w.before _ s = true := fun w h => atoms_spec (ws := (zq yX1_init cX1_init 1 none)) B.pre w (List.mem_cons_of_mem _ h)
  have hown : s.vm.findClass RX1 = some m.cls := findClass_of_methodNamed B.named
  have hlocks := B.notSynchronized
  have hin : meth.name = "<init>" := (name_of_methodNamed B.named B.method).1
  subst hsz
  have hD := hD0.self (sz := s.heap.size)
  generalize hAe : va_A [(a_i, .inr (1, [.int 0, .int 0, .int 0, .int 0, .int 0, .int 0, .int 0]))] s.heap.size = A at hD ⊢
  have hA : ∀ q : Nat, s.heap.size ≤ q → A q := fun q h => by rw [← hAe]; exact Or.inr h
  have hS : va_S A s.heap s.heap [] := va_S.rf
  have hP : va_P (dC, dI) vwCl [(a_i, .inr (1, [.int 0, .int 0, .int 0, .int 0, .int 0, .int 0, .int 0]))] s.heap := hP
  have hl := lv_entry ([.ref a_i]) (n := 1) (Nat.le_of_ble_eq_true rfl)
  rw [lg_entry_eq]
  generalize (lg_sl ([.ref a_i]) ++ List.replicate (1 - (lg_sl ([.ref a_i])).length) Slot.unset).toArray = ls at hl ⊢
  have hl : lv_has ls 1 [(0, .ref a_i)] := hl
  refine lv_aload_n hx hb dX1_init_0 rfl (lv_at hl 0 rfl) ?_
  refine W.objInit hx hb hown (hts (.methodLink RX1 1 objectInit) zw_187) (hts (.instanceMethod objectInit) zw_104) (hts (.code objectInit ⟨#[0xb1]⟩ 1 none) zw_105) rfl (by rw [hml]; exact hl.1) rfl dX1_init_1 (Nat.le_of_ble_eq_true rfl) (Nat.le_of_ble_eq_true rfl) ?_
  refine W.eq (g2 := F0 m 4 ls []) rfl ?_
  refine lv_aload_n hx hb dX1_init_4 rfl (lv_at hl 0 rfl) ?_
  refine lv_bipush (v := 7) hx hb dX1_init_5 (by decide) ?_
  refine va_put (D := (dC, dI)) (ci := 1) (v := .int 7) (ty := .int) (C := RX1) (T := TX1) (N := 7) hx hb hts zx_1 tyX1 tyX1_ok nmX1 hown hK hP hD hS 0 rfl rfl 2 (by decide) (hts (.fieldLink RX1 9 "KeyboardKit$Interrupts" "masks" "I") zw_193) (fun _ h9 => h9) rfl (by decide +kernel) rfl rfl (Nat.le_of_ble_eq_true rfl) dX1_init_7 (fun H locs hP hD hS => ?_)
  have hP : va_P (dC, dI) vwCl [(a_i, .inr (1, [.int 0, .int 0, .int 7, .int 0, .int 0, .int 0, .int 0]))] H := hP
  have hD : va_D A [(a_i, .inr (1, [.int 0, .int 0, .int 7, .int 0, .int 0, .int 0, .int 0]))] := hD
  have hP9 := hP.sub (ws' := [(a_i, .inr (1, [.int 0, .int 0, .int 7, .int 0, .int 0, .int 0, .int 0]))]) [0] rfl
  have hD9 := hD.sub (ws' := [(a_i, .inr (1, [.int 0, .int 0, .int 7, .int 0, .int 0, .int 0, .int 0]))]) [0] (by decide) rfl
  have hK9 := hK.sub (tys' := []) [] rfl
  exact W.vret hx hb hr (fun t9 ht hW => ⟨⟨(), rfl, trivial, by rw [ht]; exact hP9, va_K.moved hW.alike hK9, hD9⟩, hS.F ht⟩) hS.2.2 dX1_init_10
set_option maxHeartbeats 4000000 in
set_option maxRecDepth 100000 in
theorem c_i3 (l : Launch) (dC : Nat → ClassId) (dI : Nat → Nat → Nat) (a_o : Nat) (a_t : Nat) (a_u : Nat) (sz : Nat) : Met l yX3_init (zq yX3_init cX3_init 3 none) ({ frames := 1, cells := 0, slots := 0, locals := 12 }) (va_Pc [.ref a_o, .ref a_t, .ref a_u] (zc_P (dC, dI) [(a_o, .inr (3, [.null, .null]))] [] sz)) (va_Qv (fun _ => True) (fun (u : Unit) t9 => zc_B (dC, dI) (va_A [(a_o, .inr (3, [.null, .null]))] sz) [(a_o, .inr (3, [.ref a_t, .ref a_u]))] [] t9) (va_A [(a_o, .inr (3, [.null, .null]))] sz)) 0 0 (va_A [(a_o, .inr (3, [.null, .null]))] sz) := by
  refine Met.ofW (cc := cX3_init) (maxL := 3) (ret := none) (by decide) rfl ?_
  intro p e s m args below meth c s₁ B hml hv
  obtain ⟨rfl, hsz, hP, hK, hD0, hN⟩ := hv
  have hx := B.exec
  have hb := B.bytes
  have hr := B.returns
  have hts : ∀ w ∈ zw, w.before _ s = true := fun w h => atoms_spec (ws := (zq yX3_init cX3_init 3 none)) B.pre w (List.mem_cons_of_mem _ h)
  have hown : s.vm.findClass RX3 = some m.cls := findClass_of_methodNamed B.named
  have hlocks := B.notSynchronized
  have hin : meth.name = "<init>" := (name_of_methodNamed B.named B.method).1
  subst hsz
  have hD := hD0.self (sz := s.heap.size)
  generalize hAe : va_A [(a_o, .inr (3, [.null, .null]))] s.heap.size = A at hD ⊢
  have hA : ∀ q : Nat, s.heap.size ≤ q → A q := fun q h => by rw [← hAe]; exact Or.inr h
  have hS : va_S A s.heap s.heap [] := va_S.rf
  have hP : va_P (dC, dI) vwCl [(a_o, .inr (3, [.null, .null]))] s.heap := hP
  have hl := lv_entry ([.ref a_o, .ref a_t, .ref a_u]) (n := 3) (Nat.le_of_ble_eq_true rfl)
  rw [lg_entry_eq]
  generalize (lg_sl ([.ref a_o, .ref a_t, .ref a_u]) ++ List.replicate (3 - (lg_sl ([.ref a_o, .ref a_t, .ref a_u])).length) Slot.unset).toArray = ls at hl ⊢
  have hl : lv_has ls 3 [(0, .ref a_o), (1, .ref a_t), (2, .ref a_u)] := hl
  refine lv_aload_n hx hb dX3_init_0 rfl (lv_at hl 0 rfl) ?_
  refine W.objInit hx hb hown (hts (.methodLink RX3 1 objectInit) zw_241) (hts (.instanceMethod objectInit) zw_104) (hts (.code objectInit ⟨#[0xb1]⟩ 1 none) zw_105) rfl (by rw [hml]; exact hl.1) rfl dX3_init_1 (Nat.le_of_ble_eq_true rfl) (Nat.le_of_ble_eq_true rfl) ?_
  refine W.eq (g2 := F0 m 4 ls []) rfl ?_
  refine lv_aload_n hx hb dX3_init_4 rfl (lv_at hl 0 rfl) ?_
  refine lv_aload_n hx hb dX3_init_5 rfl (lv_at hl 1 rfl) ?_
  refine va_putF (D := (dC, dI)) (ci := 3) (v := .ref a_t) (ty := .object "KeyboardKit$Timer") (C := RX3) (T := TX3) (N := 2) hx hb hts zx_3 tyX3 tyX3_ok nmX3 hown hK hP hD hS 0 rfl rfl 0 (by decide) (hts (.fieldLink RX3 7 "KeyboardKit$Ports" "timer" "LKeyboardKit$Timer;") zw_242) (fun _ h9 => h9) rfl hin rfl (by decide +kernel) rfl rfl (Nat.le_of_ble_eq_true rfl) dX3_init_6 (fun H locs hP hD hS => ?_)
  have hP : va_P (dC, dI) vwCl [(a_o, .inr (3, [.ref a_t, .null]))] H := hP
  have hD : va_D A [(a_o, .inr (3, [.ref a_t, .null]))] := hD
  refine lv_aload_n hx hb dX3_init_9 rfl (lv_at hl 0 rfl) ?_
  refine lv_aload_n hx hb dX3_init_10 rfl (lv_at hl 2 rfl) ?_
  refine va_putF (D := (dC, dI)) (ci := 3) (v := .ref a_u) (ty := .object "KeyboardKit$KeyUnit") (C := RX3) (T := TX3) (N := 2) hx hb hts zx_3 tyX3 tyX3_ok nmX3 hown hK hP hD hS 0 rfl rfl 1 (by decide) (hts (.fieldLink RX3 13 "KeyboardKit$Ports" "unit" "LKeyboardKit$KeyUnit;") zw_243) (fun _ h9 => h9) rfl hin rfl (by decide +kernel) rfl rfl (Nat.le_of_ble_eq_true rfl) dX3_init_11 (fun H locs hP hD hS => ?_)
  have hP : va_P (dC, dI) vwCl [(a_o, .inr (3, [.ref a_t, .ref a_u]))] H := hP
  have hD : va_D A [(a_o, .inr (3, [.ref a_t, .ref a_u]))] := hD
  have hP9 := hP.sub (ws' := [(a_o, .inr (3, [.ref a_t, .ref a_u]))]) [0] rfl
  have hD9 := hD.sub (ws' := [(a_o, .inr (3, [.ref a_t, .ref a_u]))]) [0] (by decide) rfl
  have hK9 := hK.sub (tys' := []) [] rfl
  exact W.vret hx hb hr (fun t9 ht hW => ⟨⟨(), rfl, trivial, by rw [ht]; exact hP9, va_K.moved hW.alike hK9, hD9⟩, hS.F ht⟩) hS.2.2 dX3_init_14
set_option maxHeartbeats 4000000 in
set_option maxRecDepth 100000 in
/-- KeyUnit() -/
theorem c_i2 (l : Launch) (dC : Nat → ClassId) (dI : Nat → Nat → Nat) (a_u : Nat) (sz : Nat) : Met l yX2_init (zq yX2_init cX2_init 1 none) ({ frames := 1, cells := 5, slots := 72, locals := 12 }) (va_Pc [.ref a_u] (zc_P (dC, dI) [(a_u, .inr (2, [.null, .null, .null, .null, .int 0, .int 0, .int 0, .int 0, .null, .int 0, .int 0]))] [] sz)) (va_Qv (fun _ => True) (fun (u : (Nat → Nat) × (Nat → ClassId)) t9 => zc_B (dC, dI) (va_A [(a_u, .inr (2, [.null, .null, .null, .null, .int 0, .int 0, .int 0, .int 0, .null, .int 0, .int 0]))] sz) [(a_u, .inr (2, [.ref (u.1 0), .ref (u.1 1), .ref (u.1 2), .ref (u.1 3), .int 0, .int 0, .int 0, .int 0, .ref (u.1 4), .int 0, .int 64])), ((u.1 0), .inl ((u.2 0), 16, .inl (fun _ => 0))), ((u.1 1), .inl ((u.2 1), 16, .inl (fun _ => 0))), ((u.1 2), .inl ((u.2 2), 16, .inl (fun _ => 0))), ((u.1 3), .inl ((u.2 3), 8, .inl (fun _ => 0))), ((u.1 4), .inl ((u.2 4), 16, .inl (fun _ => 0)))] [((u.2 0), .boolean), ((u.2 1), .boolean), ((u.2 2), .boolean), ((u.2 3), .int), ((u.2 4), .int)] t9) (va_A [(a_u, .inr (2, [.null, .null, .null, .null, .int 0, .int 0, .int 0, .int 0, .null, .int 0, .int 0]))] sz)) 5 72 (va_A [(a_u, .inr (2, [.null, .null, .null, .null, .int 0, .int 0, .int 0, .int 0, .null, .int 0, .int 0]))] sz) := by
  refine Met.ofW (cc := cX2_init) (maxL := 1) (ret := none) (by decide) rfl ?_
  intro p e s m args below meth c s₁ B hml hv
  obtain ⟨rfl, hsz, hP, hK, hD0, hN⟩ := hv
  have hx := B.exec
  have hb := B.bytes
  have hr := B.returns
  have hts : ∀ w ∈ zw, w.before _ s = true := fun w h => atoms_spec (ws := (zq yX2_init cX2_init 1 none)) B.pre w (List.mem_cons_of_mem _ h)
  have hown : s.vm.findClass RX2 = some m.cls := findClass_of_methodNamed B.named
  have hlocks := B.notSynchronized
  have hin : meth.name = "<init>" := (name_of_methodNamed B.named B.method).1
  subst hsz
  have hD := hD0.self (sz := s.heap.size)
  generalize hAe : va_A [(a_u, .inr (2, [.null, .null, .null, .null, .int 0, .int 0, .int 0, .int 0, .null, .int 0, .int 0]))] s.heap.size = A at hD ⊢
  have hA : ∀ q : Nat, s.heap.size ≤ q → A q := fun q h => by rw [← hAe]; exact Or.inr h
  have hS : va_S A s.heap s.heap [] := va_S.rf
  have hP : va_P (dC, dI) vwCl [(a_u, .inr (2, [.null, .null, .null, .null, .int 0, .int 0, .int 0, .int 0, .null, .int 0, .int 0]))] s.heap := hP
  have hl := lv_entry ([.ref a_u]) (n := 1) (Nat.le_of_ble_eq_true rfl)
  rw [lg_entry_eq]
  generalize (lg_sl ([.ref a_u]) ++ List.replicate (1 - (lg_sl ([.ref a_u])).length) Slot.unset).toArray = ls at hl ⊢
  have hl : lv_has ls 1 [(0, .ref a_u)] := hl
  refine lv_aload_n hx hb dX2_init_0 rfl (lv_at hl 0 rfl) ?_
  refine W.objInit hx hb hown (hts (.methodLink RX2 3 objectInit) zw_143) (hts (.instanceMethod objectInit) zw_104) (hts (.code objectInit ⟨#[0xb1]⟩ 1 none) zw_105) rfl (by rw [hml]; exact hl.1) rfl dX2_init_1 (Nat.le_of_ble_eq_true rfl) (Nat.le_of_ble_eq_true rfl) ?_
  refine W.eq (g2 := F0 m 4 ls []) rfl ?_
  refine lv_aload_n hx hb dX2_init_4 rfl (lv_at hl 0 rfl) ?_
  refine lv_bipush (v := 16) hx hb dX2_init_5 (by decide) ?_
  refine va_newa (atype := .boolean) (n := 16) (ty := .boolean) (a0 := (16, .inl (fun _ => 0))) (N' := 16) hx hb (hts (.arrayClass .boolean) zw_181) rfl hK hP hD hS hA (fun cA => rfl) (by decide) (by decide) (by decide) (Nat.le_of_ble_eq_true rfl) (Nat.le_of_ble_eq_true rfl) dX2_init_7 (fun q_1 a_1 H hK hP hD hS => ?_)
  have hP : va_P (dC, dI) vwCl [(a_u, .inr (2, [.null, .null, .null, .null, .int 0, .int 0, .int 0, .int 0, .null, .int 0, .int 0])), (q_1, .inl (a_1, 16, .inl (fun _ => 0)))] H := hP
  have hD : va_D A [(a_u, .inr (2, [.null, .null, .null, .null, .int 0, .int 0, .int 0, .int 0, .null, .int 0, .int 0])), (q_1, .inl (a_1, 16, .inl (fun _ => 0)))] := hD
  have hK : va_K (dC, dI) vwCl [(a_1, .boolean)] s := hK
  refine W.widen (k := 1) (n := 16) (by decide) (by decide) ?_
  refine va_putF (D := (dC, dI)) (ci := 2) (v := .ref q_1) (ty := .array .boolean) (C := RX2) (T := TX2) (N := 11) hx hb hts zx_2 tyX2 tyX2_ok nmX2 hown hK hP hD hS 0 rfl rfl 0 (by decide) (hts (.fieldLink RX2 9 "KeyboardKit$KeyUnit" "down" "[Z") zw_144) (fun _ h9 => h9) rfl hin rfl (by decide +kernel) rfl rfl (Nat.le_of_ble_eq_true rfl) dX2_init_9 (fun H locs hP hD hS => ?_)
  have hP : va_P (dC, dI) vwCl [(a_u, .inr (2, [.ref q_1, .null, .null, .null, .int 0, .int 0, .int 0, .int 0, .null, .int 0, .int 0])), (q_1, .inl (a_1, 16, .inl (fun _ => 0)))] H := hP
  have hD : va_D A [(a_u, .inr (2, [.ref q_1, .null, .null, .null, .int 0, .int 0, .int 0, .int 0, .null, .int 0, .int 0])), (q_1, .inl (a_1, 16, .inl (fun _ => 0)))] := hD
  refine lv_aload_n hx hb dX2_init_12 rfl (lv_at hl 0 rfl) ?_
  refine lv_bipush (v := 16) hx hb dX2_init_13 (by decide) ?_
  refine va_newa (atype := .boolean) (n := 16) (ty := .boolean) (a0 := (16, .inl (fun _ => 0))) (N' := 16) hx hb (hts (.arrayClass .boolean) zw_181) rfl hK hP hD hS hA (fun cA => rfl) (by decide) (by decide) (by decide) (Nat.le_of_ble_eq_true rfl) (Nat.le_of_ble_eq_true rfl) dX2_init_15 (fun q_2 a_2 H hK hP hD hS => ?_)
  have hP : va_P (dC, dI) vwCl [(a_u, .inr (2, [.ref q_1, .null, .null, .null, .int 0, .int 0, .int 0, .int 0, .null, .int 0, .int 0])), (q_1, .inl (a_1, 16, .inl (fun _ => 0))), (q_2, .inl (a_2, 16, .inl (fun _ => 0)))] H := hP
  have hD : va_D A [(a_u, .inr (2, [.ref q_1, .null, .null, .null, .int 0, .int 0, .int 0, .int 0, .null, .int 0, .int 0])), (q_1, .inl (a_1, 16, .inl (fun _ => 0))), (q_2, .inl (a_2, 16, .inl (fun _ => 0)))] := hD
  have hK : va_K (dC, dI) vwCl [(a_1, .boolean), (a_2, .boolean)] s := hK
  refine W.widen (k := 2) (n := 32) (by decide) (by decide) ?_
  refine va_putF (D := (dC, dI)) (ci := 2) (v := .ref q_2) (ty := .array .boolean) (C := RX2) (T := TX2) (N := 11) hx hb hts zx_2 tyX2 tyX2_ok nmX2 hown hK hP hD hS 0 rfl rfl 1 (by decide) (hts (.fieldLink RX2 15 "KeyboardKit$KeyUnit" "downBefore" "[Z") zw_146) (fun _ h9 => h9) rfl hin rfl (by decide +kernel) rfl rfl (Nat.le_of_ble_eq_true rfl) dX2_init_17 (fun H locs hP hD hS => ?_)
  have hP : va_P (dC, dI) vwCl [(a_u, .inr (2, [.ref q_1, .ref q_2, .null, .null, .int 0, .int 0, .int 0, .int 0, .null, .int 0, .int 0])), (q_1, .inl (a_1, 16, .inl (fun _ => 0))), (q_2, .inl (a_2, 16, .inl (fun _ => 0)))] H := hP
  have hD : va_D A [(a_u, .inr (2, [.ref q_1, .ref q_2, .null, .null, .int 0, .int 0, .int 0, .int 0, .null, .int 0, .int 0])), (q_1, .inl (a_1, 16, .inl (fun _ => 0))), (q_2, .inl (a_2, 16, .inl (fun _ => 0)))] := hD
  refine lv_aload_n hx hb dX2_init_20 rfl (lv_at hl 0 rfl) ?_
  refine lv_bipush (v := 16) hx hb dX2_init_21 (by decide) ?_
  refine va_newa (atype := .boolean) (n := 16) (ty := .boolean) (a0 := (16, .inl (fun _ => 0))) (N' := 16) hx hb (hts (.arrayClass .boolean) zw_181) rfl hK hP hD hS hA (fun cA => rfl) (by decide) (by decide) (by decide) (Nat.le_of_ble_eq_true rfl) (Nat.le_of_ble_eq_true rfl) dX2_init_23 (fun q_3 a_3 H hK hP hD hS => ?_)
  have hP : va_P (dC, dI) vwCl [(a_u, .inr (2, [.ref q_1, .ref q_2, .null, .null, .int 0, .int 0, .int 0, .int 0, .null, .int 0, .int 0])), (q_1, .inl (a_1, 16, .inl (fun _ => 0))), (q_2, .inl (a_2, 16, .inl (fun _ => 0))), (q_3, .inl (a_3, 16, .inl (fun _ => 0)))] H := hP
  have hD : va_D A [(a_u, .inr (2, [.ref q_1, .ref q_2, .null, .null, .int 0, .int 0, .int 0, .int 0, .null, .int 0, .int 0])), (q_1, .inl (a_1, 16, .inl (fun _ => 0))), (q_2, .inl (a_2, 16, .inl (fun _ => 0))), (q_3, .inl (a_3, 16, .inl (fun _ => 0)))] := hD
  have hK : va_K (dC, dI) vwCl [(a_1, .boolean), (a_2, .boolean), (a_3, .boolean)] s := hK
  refine W.widen (k := 3) (n := 48) (by decide) (by decide) ?_
  refine va_putF (D := (dC, dI)) (ci := 2) (v := .ref q_3) (ty := .array .boolean) (C := RX2) (T := TX2) (N := 11) hx hb hts zx_2 tyX2 tyX2_ok nmX2 hown hK hP hD hS 0 rfl rfl 2 (by decide) (hts (.fieldLink RX2 18 "KeyboardKit$KeyUnit" "counted" "[Z") zw_147) (fun _ h9 => h9) rfl hin rfl (by decide +kernel) rfl rfl (Nat.le_of_ble_eq_true rfl) dX2_init_25 (fun H locs hP hD hS => ?_)
  have hP : va_P (dC, dI) vwCl [(a_u, .inr (2, [.ref q_1, .ref q_2, .ref q_3, .null, .int 0, .int 0, .int 0, .int 0, .null, .int 0, .int 0])), (q_1, .inl (a_1, 16, .inl (fun _ => 0))), (q_2, .inl (a_2, 16, .inl (fun _ => 0))), (q_3, .inl (a_3, 16, .inl (fun _ => 0)))] H := hP
  have hD : va_D A [(a_u, .inr (2, [.ref q_1, .ref q_2, .ref q_3, .null, .int 0, .int 0, .int 0, .int 0, .null, .int 0, .int 0])), (q_1, .inl (a_1, 16, .inl (fun _ => 0))), (q_2, .inl (a_2, 16, .inl (fun _ => 0))), (q_3, .inl (a_3, 16, .inl (fun _ => 0)))] := hD
  refine lv_aload_n hx hb dX2_init_28 rfl (lv_at hl 0 rfl) ?_
  refine lv_bipush (v := 8) hx hb dX2_init_29 (by decide) ?_
  refine va_newa (atype := .int) (n := 8) (ty := .int) (a0 := (8, .inl (fun _ => 0))) (N' := 8) hx hb (hts (.arrayClass .int) zw_137) rfl hK hP hD hS hA (fun cA => rfl) (by decide) (by decide) (by decide) (Nat.le_of_ble_eq_true rfl) (Nat.le_of_ble_eq_true rfl) dX2_init_31 (fun q_4 a_4 H hK hP hD hS => ?_)
  have hP : va_P (dC, dI) vwCl [(a_u, .inr (2, [.ref q_1, .ref q_2, .ref q_3, .null, .int 0, .int 0, .int 0, .int 0, .null, .int 0, .int 0])), (q_1, .inl (a_1, 16, .inl (fun _ => 0))), (q_2, .inl (a_2, 16, .inl (fun _ => 0))), (q_3, .inl (a_3, 16, .inl (fun _ => 0))), (q_4, .inl (a_4, 8, .inl (fun _ => 0)))] H := hP
  have hD : va_D A [(a_u, .inr (2, [.ref q_1, .ref q_2, .ref q_3, .null, .int 0, .int 0, .int 0, .int 0, .null, .int 0, .int 0])), (q_1, .inl (a_1, 16, .inl (fun _ => 0))), (q_2, .inl (a_2, 16, .inl (fun _ => 0))), (q_3, .inl (a_3, 16, .inl (fun _ => 0))), (q_4, .inl (a_4, 8, .inl (fun _ => 0)))] := hD
  have hK : va_K (dC, dI) vwCl [(a_1, .boolean), (a_2, .boolean), (a_3, .boolean), (a_4, .int)] s := hK
  refine W.widen (k := 4) (n := 56) (by decide) (by decide) ?_
  refine va_putF (D := (dC, dI)) (ci := 2) (v := .ref q_4) (ty := .array .int) (C := RX2) (T := TX2) (N := 11) hx hb hts zx_2 tyX2 tyX2_ok nmX2 hown hK hP hD hS 0 rfl rfl 3 (by decide) (hts (.fieldLink RX2 21 "KeyboardKit$KeyUnit" "queue" "[I") zw_148) (fun _ h9 => h9) rfl hin rfl (by decide +kernel) rfl rfl (Nat.le_of_ble_eq_true rfl) dX2_init_33 (fun H locs hP hD hS => ?_)
  have hP : va_P (dC, dI) vwCl [(a_u, .inr (2, [.ref q_1, .ref q_2, .ref q_3, .ref q_4, .int 0, .int 0, .int 0, .int 0, .null, .int 0, .int 0])), (q_1, .inl (a_1, 16, .inl (fun _ => 0))), (q_2, .inl (a_2, 16, .inl (fun _ => 0))), (q_3, .inl (a_3, 16, .inl (fun _ => 0))), (q_4, .inl (a_4, 8, .inl (fun _ => 0)))] H := hP
  have hD : va_D A [(a_u, .inr (2, [.ref q_1, .ref q_2, .ref q_3, .ref q_4, .int 0, .int 0, .int 0, .int 0, .null, .int 0, .int 0])), (q_1, .inl (a_1, 16, .inl (fun _ => 0))), (q_2, .inl (a_2, 16, .inl (fun _ => 0))), (q_3, .inl (a_3, 16, .inl (fun _ => 0))), (q_4, .inl (a_4, 8, .inl (fun _ => 0)))] := hD
  refine lv_aload_n hx hb dX2_init_36 rfl (lv_at hl 0 rfl) ?_
  refine lv_bipush (v := 16) hx hb dX2_init_37 (by decide) ?_
  refine va_newa (atype := .int) (n := 16) (ty := .int) (a0 := (16, .inl (fun _ => 0))) (N' := 16) hx hb (hts (.arrayClass .int) zw_137) rfl hK hP hD hS hA (fun cA => rfl) (by decide) (by decide) (by decide) (Nat.le_of_ble_eq_true rfl) (Nat.le_of_ble_eq_true rfl) dX2_init_39 (fun q_5 a_5 H hK hP hD hS => ?_)
  have hP : va_P (dC, dI) vwCl [(a_u, .inr (2, [.ref q_1, .ref q_2, .ref q_3, .ref q_4, .int 0, .int 0, .int 0, .int 0, .null, .int 0, .int 0])), (q_1, .inl (a_1, 16, .inl (fun _ => 0))), (q_2, .inl (a_2, 16, .inl (fun _ => 0))), (q_3, .inl (a_3, 16, .inl (fun _ => 0))), (q_4, .inl (a_4, 8, .inl (fun _ => 0))), (q_5, .inl (a_5, 16, .inl (fun _ => 0)))] H := hP
  have hD : va_D A [(a_u, .inr (2, [.ref q_1, .ref q_2, .ref q_3, .ref q_4, .int 0, .int 0, .int 0, .int 0, .null, .int 0, .int 0])), (q_1, .inl (a_1, 16, .inl (fun _ => 0))), (q_2, .inl (a_2, 16, .inl (fun _ => 0))), (q_3, .inl (a_3, 16, .inl (fun _ => 0))), (q_4, .inl (a_4, 8, .inl (fun _ => 0))), (q_5, .inl (a_5, 16, .inl (fun _ => 0)))] := hD
  have hK : va_K (dC, dI) vwCl [(a_1, .boolean), (a_2, .boolean), (a_3, .boolean), (a_4, .int), (a_5, .int)] s := hK
  refine W.widen (k := 5) (n := 72) (by decide) (by decide) ?_
  refine va_putF (D := (dC, dI)) (ci := 2) (v := .ref q_5) (ty := .array .int) (C := RX2) (T := TX2) (N := 11) hx hb hts zx_2 tyX2 tyX2_ok nmX2 hown hK hP hD hS 0 rfl rfl 8 (by decide) (hts (.fieldLink RX2 25 "KeyboardKit$KeyUnit" "display" "[I") zw_154) (fun _ h9 => h9) rfl hin rfl (by decide +kernel) rfl rfl (Nat.le_of_ble_eq_true rfl) dX2_init_41 (fun H locs hP hD hS => ?_)
  have hP : va_P (dC, dI) vwCl [(a_u, .inr (2, [.ref q_1, .ref q_2, .ref q_3, .ref q_4, .int 0, .int 0, .int 0, .int 0, .ref q_5, .int 0, .int 0])), (q_1, .inl (a_1, 16, .inl (fun _ => 0))), (q_2, .inl (a_2, 16, .inl (fun _ => 0))), (q_3, .inl (a_3, 16, .inl (fun _ => 0))), (q_4, .inl (a_4, 8, .inl (fun _ => 0))), (q_5, .inl (a_5, 16, .inl (fun _ => 0)))] H := hP
  have hD : va_D A [(a_u, .inr (2, [.ref q_1, .ref q_2, .ref q_3, .ref q_4, .int 0, .int 0, .int 0, .int 0, .ref q_5, .int 0, .int 0])), (q_1, .inl (a_1, 16, .inl (fun _ => 0))), (q_2, .inl (a_2, 16, .inl (fun _ => 0))), (q_3, .inl (a_3, 16, .inl (fun _ => 0))), (q_4, .inl (a_4, 8, .inl (fun _ => 0))), (q_5, .inl (a_5, 16, .inl (fun _ => 0)))] := hD
  refine lv_aload_n hx hb dX2_init_44 rfl (lv_at hl 0 rfl) ?_
  refine lv_bipush (v := 64) hx hb dX2_init_45 (by decide) ?_
  refine va_put (D := (dC, dI)) (ci := 2) (v := .int 64) (ty := .int) (C := RX2) (T := TX2) (N := 11) hx hb hts zx_2 tyX2 tyX2_ok nmX2 hown hK hP hD hS 0 rfl rfl 10 (by decide) (hts (.fieldLink RX2 28 "KeyboardKit$KeyUnit" "ticksToScan" "I") zw_157) (fun _ h9 => h9) rfl (by decide +kernel) rfl rfl (Nat.le_of_ble_eq_true rfl) dX2_init_47 (fun H locs hP hD hS => ?_)
  have hP : va_P (dC, dI) vwCl [(a_u, .inr (2, [.ref q_1, .ref q_2, .ref q_3, .ref q_4, .int 0, .int 0, .int 0, .int 0, .ref q_5, .int 0, .int 64])), (q_1, .inl (a_1, 16, .inl (fun _ => 0))), (q_2, .inl (a_2, 16, .inl (fun _ => 0))), (q_3, .inl (a_3, 16, .inl (fun _ => 0))), (q_4, .inl (a_4, 8, .inl (fun _ => 0))), (q_5, .inl (a_5, 16, .inl (fun _ => 0)))] H := hP
  have hD : va_D A [(a_u, .inr (2, [.ref q_1, .ref q_2, .ref q_3, .ref q_4, .int 0, .int 0, .int 0, .int 0, .ref q_5, .int 0, .int 64])), (q_1, .inl (a_1, 16, .inl (fun _ => 0))), (q_2, .inl (a_2, 16, .inl (fun _ => 0))), (q_3, .inl (a_3, 16, .inl (fun _ => 0))), (q_4, .inl (a_4, 8, .inl (fun _ => 0))), (q_5, .inl (a_5, 16, .inl (fun _ => 0)))] := hD
  have hP9 := hP.sub (ws' := [(a_u, .inr (2, [.ref q_1, .ref q_2, .ref q_3, .ref q_4, .int 0, .int 0, .int 0, .int 0, .ref q_5, .int 0, .int 64])), (q_1, .inl (a_1, 16, .inl (fun _ => 0))), (q_2, .inl (a_2, 16, .inl (fun _ => 0))), (q_3, .inl (a_3, 16, .inl (fun _ => 0))), (q_4, .inl (a_4, 8, .inl (fun _ => 0))), (q_5, .inl (a_5, 16, .inl (fun _ => 0)))]) [0, 1, 2, 3, 4, 5] rfl
  have hD9 := hD.sub (ws' := [(a_u, .inr (2, [.ref q_1, .ref q_2, .ref q_3, .ref q_4, .int 0, .int 0, .int 0, .int 0, .ref q_5, .int 0, .int 64])), (q_1, .inl (a_1, 16, .inl (fun _ => 0))), (q_2, .inl (a_2, 16, .inl (fun _ => 0))), (q_3, .inl (a_3, 16, .inl (fun _ => 0))), (q_4, .inl (a_4, 8, .inl (fun _ => 0))), (q_5, .inl (a_5, 16, .inl (fun _ => 0)))]) [0, 1, 2, 3, 4, 5] (by decide) rfl
  have hK9 := hK.sub (tys' := [(a_1, .boolean), (a_2, .boolean), (a_3, .boolean), (a_4, .int), (a_5, .int)]) [0, 1, 2, 3, 4] rfl
  exact W.vret hx hb hr (fun t9 ht hW => ⟨⟨(fun k => match k with | 0 => q_1 | 1 => q_2 | 2 => q_3 | 3 => q_4 | _ => q_5, fun k => match k with | 0 => a_1 | 1 => a_2 | 2 => a_3 | 3 => a_4 | _ => a_5), rfl, trivial, by rw [ht]; exact hP9, va_K.moved hW.alike hK9, hD9⟩, hS.F ht⟩) hS.2.2 dX2_init_50
set_option maxHeartbeats 4000000 in
set_option maxRecDepth 100000 in
/-- Processor(..) -/
theorem c_i4 (l : Launch) (dC : Nat → ClassId) (dI : Nat → Nat → Nat) (a_p : Nat) (a_m : Nat) (a_t : Nat) (a_u : Nat) (a_i : Nat) (sz : Nat) : Met l yX4_init (zq yX4_init cX4_init 5 none) ({ frames := 2, cells := 3, slots := 11, locals := 34 }) (va_Pc [.ref a_p, .ref a_m, .ref a_t, .ref a_u, .ref a_i] (zc_P (dC, dI) [(a_p, .inr (4, [.null, .null, .null, .null, .null, .null, .null, .int 0, .int 0, .int 0, .int 0]))] [] sz)) (va_Qv (fun _ => True) (fun (u : (Nat → Nat) × (Nat → ClassId)) t9 => zc_B (dC, dI) (va_A [(a_p, .inr (4, [.null, .null, .null, .null, .null, .null, .null, .int 0, .int 0, .int 0, .int 0]))] sz) [(a_p, .inr (4, [.ref a_m, .ref a_t, .ref a_u, .ref a_i, .ref (u.1 2), .ref (u.1 0), .ref (u.1 1), .int 0, .int 0, .int 0, .int 0])), ((u.1 0), .inl ((u.2 0), 8, .inl (fun _ => 0))), ((u.1 1), .inr (0, [.int 0])), ((u.1 2), .inr (3, [.ref a_t, .ref a_u]))] [((u.2 0), .int)] t9) (va_A [(a_p, .inr (4, [.null, .null, .null, .null, .null, .null, .null, .int 0, .int 0, .int 0, .int 0]))] sz)) 3 11 (va_A [(a_p, .inr (4, [.null, .null, .null, .null, .null, .null, .null, .int 0, .int 0, .int 0, .int 0]))] sz) := by
  refine Met.ofW (cc := cX4_init) (maxL := 5) (ret := none) (by decide) rfl ?_
  intro p e s m args below meth c s₁ B hml hv
  obtain ⟨rfl, hsz, hP, hK, hD0, hN⟩ := hv
  have hx := B.exec
  have hb := B.bytes
  have hr := B.returns
  have hts : ∀ w ∈ zw, w.before _ s = true := fun w h => atoms_spec (ws := (zq yX4_init cX4_init 5 none)) B.pre w (List.mem_cons_of_mem _ h)
  have hown : s.vm.findClass RX4 = some m.cls := findClass_of_methodNamed B.named
  have hlocks := B.notSynchronized
  have hin : meth.name = "<init>" := (name_of_methodNamed B.named B.method).1
  subst hsz
  have hD := hD0.self (sz := s.heap.size)
  generalize hAe : va_A [(a_p, .inr (4, [.null, .null, .null, .null, .null, .null, .null, .int 0, .int 0, .int 0, .int 0]))] s.heap.size = A at hD ⊢
  have hA : ∀ q : Nat, s.heap.size ≤ q → A q := fun q h => by rw [← hAe]; exact Or.inr h
  have hS : va_S A s.heap s.heap [] := va_S.rf
  have hP : va_P (dC, dI) vwCl [(a_p, .inr (4, [.null, .null, .null, .null, .null, .null, .null, .int 0, .int 0, .int 0, .int 0]))] s.heap := hP
  have hl := lv_entry ([.ref a_p, .ref a_m, .ref a_t, .ref a_u, .ref a_i]) (n := 5) (Nat.le_of_ble_eq_true rfl)
  rw [lg_entry_eq]
  generalize (lg_sl ([.ref a_p, .ref a_m, .ref a_t, .ref a_u, .ref a_i]) ++ List.replicate (5 - (lg_sl ([.ref a_p, .ref a_m, .ref a_t, .ref a_u, .ref a_i])).length) Slot.unset).toArray = ls at hl ⊢
  have hl : lv_has ls 5 [(0, .ref a_p), (1, .ref a_m), (2, .ref a_t), (3, .ref a_u), (4, .ref a_i)] := hl
  refine lv_aload_n hx hb dX4_init_0 rfl (lv_at hl 0 rfl) ?_
  refine W.objInit hx hb hown (hts (.methodLink RX4 3 objectInit) zw_223) (hts (.instanceMethod objectInit) zw_104) (hts (.code objectInit ⟨#[0xb1]⟩ 1 none) zw_105) rfl (by rw [hml]; exact hl.1) rfl dX4_init_1 (Nat.le_of_ble_eq_true rfl) (Nat.le_of_ble_eq_true rfl) ?_
  refine W.eq (g2 := F0 m 4 ls []) rfl ?_
  refine lv_aload_n hx hb dX4_init_4 rfl (lv_at hl 0 rfl) ?_
  refine lv_bipush (v := 8) hx hb dX4_init_5 (by decide) ?_
  refine va_newa (atype := .int) (n := 8) (ty := .int) (a0 := (8, .inl (fun _ => 0))) (N' := 8) hx hb (hts (.arrayClass .int) zw_137) rfl hK hP hD hS hA (fun cA => rfl) (by decide) (by decide) (by decide) (Nat.le_of_ble_eq_true rfl) (Nat.le_of_ble_eq_true rfl) dX4_init_7 (fun q_1 a_1 H hK hP hD hS => ?_)
  have hP : va_P (dC, dI) vwCl [(a_p, .inr (4, [.null, .null, .null, .null, .null, .null, .null, .int 0, .int 0, .int 0, .int 0])), (q_1, .inl (a_1, 8, .inl (fun _ => 0)))] H := hP
  have hD : va_D A [(a_p, .inr (4, [.null, .null, .null, .null, .null, .null, .null, .int 0, .int 0, .int 0, .int 0])), (q_1, .inl (a_1, 8, .inl (fun _ => 0)))] := hD
  have hK : va_K (dC, dI) vwCl [(a_1, .int)] s := hK
  refine W.widen (k := 1) (n := 8) (by decide) (by decide) ?_
  refine va_putF (D := (dC, dI)) (ci := 4) (v := .ref q_1) (ty := .array .int) (C := RX4) (T := TX4) (N := 11) hx hb hts zx_4 tyX4 tyX4_ok nmX4 hown hK hP hD hS 0 rfl rfl 5 (by decide) (hts (.fieldLink RX4 9 "KeyboardKit$Processor" "registers" "[I") zw_254) (fun _ h9 => h9) rfl hin rfl (by decide +kernel) rfl rfl (Nat.le_of_ble_eq_true rfl) dX4_init_9 (fun H locs hP hD hS => ?_)
  have hP : va_P (dC, dI) vwCl [(a_p, .inr (4, [.null, .null, .null, .null, .null, .ref q_1, .null, .int 0, .int 0, .int 0, .int 0])), (q_1, .inl (a_1, 8, .inl (fun _ => 0)))] H := hP
  have hD : va_D A [(a_p, .inr (4, [.null, .null, .null, .null, .null, .ref q_1, .null, .int 0, .int 0, .int 0, .int 0])), (q_1, .inl (a_1, 8, .inl (fun _ => 0)))] := hD
  refine lv_aload_n hx hb dX4_init_12 rfl (lv_at hl 0 rfl) ?_
  refine va_new (ci := 0) (fs := [.int 0]) (C := RX0) (T := TX0) (N := 1) hx hb hts zx_0 tyX0 tyX0_ok hown (hts (.classLink RX4 15 RX0) zw_224) (hts (.instantiable RX0 1) zw_225) (hts (.initialized RX0) zw_88) hK hP hD hS hA rfl (fun j hj => by rcases (show j = 0 by omega) with rfl <;> rfl) (Nat.le_of_ble_eq_true rfl) (Nat.le_of_ble_eq_true rfl) dX4_init_13 (fun q_2 H hP hD hS => ?_)
  have hP : va_P (dC, dI) vwCl [(a_p, .inr (4, [.null, .null, .null, .null, .null, .ref q_1, .null, .int 0, .int 0, .int 0, .int 0])), (q_1, .inl (a_1, 8, .inl (fun _ => 0))), (q_2, .inr (0, [.int 0]))] H := hP
  have hD : va_D A [(a_p, .inr (4, [.null, .null, .null, .null, .null, .ref q_1, .null, .int 0, .int 0, .int 0, .int 0])), (q_1, .inl (a_1, 8, .inl (fun _ => 0))), (q_2, .inr (0, [.int 0]))] := hD
  refine W.widen (k := 2) (n := 9) (by decide) (by decide) ?_
  refine lv_dup hx hb dX4_init_16 rfl ?_
  refine zc_v (wr := [(a_p, .inr (4, [.null, .null, .null, .null, .null, .ref q_1, .null, .int 0, .int 0, .int 0, .int 0])), (q_1, .inl (a_1, 8, .inl (fun _ => 0)))]) hP hD hS hA [2] [0, 1] rfl rfl (by decide) (by decide) (va_runIN (As := []) (rest := [.ref q_2, .ref a_p]) ⟨hx, hb, hml, hown, hts⟩ (c_i0 l dC dI q_2 _) ⟨va_cnB 0 hts (zg_0 zw_228) rfl rfl rfl (nm_3 hN) (hts (.initialized RX0) zw_88) (by decide +kernel) ⟨Nat.le_of_ble_eq_true rfl, Nat.le_of_ble_eq_true rfl⟩, rfl, hts (.instanceMethod yX0_init) zw_227⟩ ⟨zc_blind, zc_start hP hD hK hN [2] [] rfl (by decide) rfl⟩ rfl rfl hl.1 rfl (lv_room (Nat.le_of_ble_eq_true rfl)) dX4_init_17 ⟨Nat.le_of_ble_eq_true rfl, Nat.le_of_ble_eq_true rfl⟩) (fun u_3 H locs hw hK1 hP hD hS => ?_)
  have hP : va_P (dC, dI) vwCl [(a_p, .inr (4, [.null, .null, .null, .null, .null, .ref q_1, .null, .int 0, .int 0, .int 0, .int 0])), (q_1, .inl (a_1, 8, .inl (fun _ => 0))), (q_2, .inr (0, [.int 0]))] H := hP
  have hD : va_D A [(a_p, .inr (4, [.null, .null, .null, .null, .null, .ref q_1, .null, .int 0, .int 0, .int 0, .int 0])), (q_1, .inl (a_1, 8, .inl (fun _ => 0))), (q_2, .inr (0, [.int 0]))] := hD
  refine va_putF (D := (dC, dI)) (ci := 4) (v := .ref q_2) (ty := .object "KeyboardKit$Flags") (C := RX4) (T := TX4) (N := 11) hx hb hts zx_4 tyX4 tyX4_ok nmX4 hown hK hP hD hS 0 rfl rfl 6 (by decide) (hts (.fieldLink RX4 18 "KeyboardKit$Processor" "flags" "LKeyboardKit$Flags;") zw_256) (fun _ h9 => h9) rfl hin rfl (by decide +kernel) rfl rfl (Nat.le_of_ble_eq_true rfl) dX4_init_20 (fun H locs hP hD hS => ?_)
  have hP : va_P (dC, dI) vwCl [(a_p, .inr (4, [.null, .null, .null, .null, .null, .ref q_1, .ref q_2, .int 0, .int 0, .int 0, .int 0])), (q_1, .inl (a_1, 8, .inl (fun _ => 0))), (q_2, .inr (0, [.int 0]))] H := hP
  have hD : va_D A [(a_p, .inr (4, [.null, .null, .null, .null, .null, .ref q_1, .ref q_2, .int 0, .int 0, .int 0, .int 0])), (q_1, .inl (a_1, 8, .inl (fun _ => 0))), (q_2, .inr (0, [.int 0]))] := hD
  refine lv_aload_n hx hb dX4_init_23 rfl (lv_at hl 0 rfl) ?_
  refine lv_aload_n hx hb dX4_init_24 rfl (lv_at hl 1 rfl) ?_
  refine va_putF (D := (dC, dI)) (ci := 4) (v := .ref a_m) (ty := .array .int) (C := RX4) (T := TX4) (N := 11) hx hb hts zx_4 tyX4 tyX4_ok nmX4 hown hK hP hD hS 0 rfl rfl 0 (by decide) (hts (.fieldLink RX4 22 "KeyboardKit$Processor" "memory" "[I") zw_249) (fun _ h9 => h9) rfl hin rfl (by decide +kernel) rfl rfl (Nat.le_of_ble_eq_true rfl) dX4_init_25 (fun H locs hP hD hS => ?_)
  have hP : va_P (dC, dI) vwCl [(a_p, .inr (4, [.ref a_m, .null, .null, .null, .null, .ref q_1, .ref q_2, .int 0, .int 0, .int 0, .int 0])), (q_1, .inl (a_1, 8, .inl (fun _ => 0))), (q_2, .inr (0, [.int 0]))] H := hP
  have hD : va_D A [(a_p, .inr (4, [.ref a_m, .null, .null, .null, .null, .ref q_1, .ref q_2, .int 0, .int 0, .int 0, .int 0])), (q_1, .inl (a_1, 8, .inl (fun _ => 0))), (q_2, .inr (0, [.int 0]))] := hD
  refine lv_aload_n hx hb dX4_init_28 rfl (lv_at hl 0 rfl) ?_
  refine lv_aload_n hx hb dX4_init_29 rfl (lv_at hl 2 rfl) ?_
  refine va_putF (D := (dC, dI)) (ci := 4) (v := .ref a_t) (ty := .object "KeyboardKit$Timer") (C := RX4) (T := TX4) (N := 11) hx hb hts zx_4 tyX4 tyX4_ok nmX4 hown hK hP hD hS 0 rfl rfl 1 (by decide) (hts (.fieldLink RX4 25 "KeyboardKit$Processor" "timer" "LKeyboardKit$Timer;") zw_250) (fun _ h9 => h9) rfl hin rfl (by decide +kernel) rfl rfl (Nat.le_of_ble_eq_true rfl) dX4_init_30 (fun H locs hP hD hS => ?_)
  have hP : va_P (dC, dI) vwCl [(a_p, .inr (4, [.ref a_m, .ref a_t, .null, .null, .null, .ref q_1, .ref q_2, .int 0, .int 0, .int 0, .int 0])), (q_1, .inl (a_1, 8, .inl (fun _ => 0))), (q_2, .inr (0, [.int 0]))] H := hP
  have hD : va_D A [(a_p, .inr (4, [.ref a_m, .ref a_t, .null, .null, .null, .ref q_1, .ref q_2, .int 0, .int 0, .int 0, .int 0])), (q_1, .inl (a_1, 8, .inl (fun _ => 0))), (q_2, .inr (0, [.int 0]))] := hD
  refine lv_aload_n hx hb dX4_init_33 rfl (lv_at hl 0 rfl) ?_
  refine lv_aload_n hx hb dX4_init_34 rfl (lv_at hl 3 rfl) ?_
  refine va_putF (D := (dC, dI)) (ci := 4) (v := .ref a_u) (ty := .object "KeyboardKit$KeyUnit") (C := RX4) (T := TX4) (N := 11) hx hb hts zx_4 tyX4 tyX4_ok nmX4 hown hK hP hD hS 0 rfl rfl 2 (by decide) (hts (.fieldLink RX4 29 "KeyboardKit$Processor" "unit" "LKeyboardKit$KeyUnit;") zw_251) (fun _ h9 => h9) rfl hin rfl (by decide +kernel) rfl rfl (Nat.le_of_ble_eq_true rfl) dX4_init_35 (fun H locs hP hD hS => ?_)
  have hP : va_P (dC, dI) vwCl [(a_p, .inr (4, [.ref a_m, .ref a_t, .ref a_u, .null, .null, .ref q_1, .ref q_2, .int 0, .int 0, .int 0, .int 0])), (q_1, .inl (a_1, 8, .inl (fun _ => 0))), (q_2, .inr (0, [.int 0]))] H := hP
  have hD : va_D A [(a_p, .inr (4, [.ref a_m, .ref a_t, .ref a_u, .null, .null, .ref q_1, .ref q_2, .int 0, .int 0, .int 0, .int 0])), (q_1, .inl (a_1, 8, .inl (fun _ => 0))), (q_2, .inr (0, [.int 0]))] := hD
  refine lv_aload_n hx hb dX4_init_38 rfl (lv_at hl 0 rfl) ?_
  refine lv_aload hx hb dX4_init_39 (lv_at hl 4 rfl) ?_
  refine va_putF (D := (dC, dI)) (ci := 4) (v := .ref a_i) (ty := .object "KeyboardKit$Interrupts") (C := RX4) (T := TX4) (N := 11) hx hb hts zx_4 tyX4 tyX4_ok nmX4 hown hK hP hD hS 0 rfl rfl 3 (by decide) (hts (.fieldLink RX4 33 "KeyboardKit$Processor" "interrupts" "LKeyboardKit$Interrupts;") zw_252) (fun _ h9 => h9) rfl hin rfl (by decide +kernel) rfl rfl (Nat.le_of_ble_eq_true rfl) dX4_init_41 (fun H locs hP hD hS => ?_)
  have hP : va_P (dC, dI) vwCl [(a_p, .inr (4, [.ref a_m, .ref a_t, .ref a_u, .ref a_i, .null, .ref q_1, .ref q_2, .int 0, .int 0, .int 0, .int 0])), (q_1, .inl (a_1, 8, .inl (fun _ => 0))), (q_2, .inr (0, [.int 0]))] H := hP
  have hD : va_D A [(a_p, .inr (4, [.ref a_m, .ref a_t, .ref a_u, .ref a_i, .null, .ref q_1, .ref q_2, .int 0, .int 0, .int 0, .int 0])), (q_1, .inl (a_1, 8, .inl (fun _ => 0))), (q_2, .inr (0, [.int 0]))] := hD
  refine lv_aload_n hx hb dX4_init_44 rfl (lv_at hl 0 rfl) ?_
  refine va_new (ci := 3) (fs := [.null, .null]) (C := RX3) (T := TX3) (N := 2) hx hb hts zx_3 tyX3 tyX3_ok hown (hts (.classLink RX4 37 RX3) zw_236) (hts (.instantiable RX3 2) zw_237) (hts (.initialized RX3) zw_89) hK hP hD hS hA rfl (fun j hj => by rcases (show j = 0 ∨ j = 1 by omega) with rfl | rfl <;> rfl) (Nat.le_of_ble_eq_true rfl) (Nat.le_of_ble_eq_true rfl) dX4_init_45 (fun q_4 H hP hD hS => ?_)
  have hP : va_P (dC, dI) vwCl [(a_p, .inr (4, [.ref a_m, .ref a_t, .ref a_u, .ref a_i, .null, .ref q_1, .ref q_2, .int 0, .int 0, .int 0, .int 0])), (q_1, .inl (a_1, 8, .inl (fun _ => 0))), (q_2, .inr (0, [.int 0])), (q_4, .inr (3, [.null, .null]))] H := hP
  have hD : va_D A [(a_p, .inr (4, [.ref a_m, .ref a_t, .ref a_u, .ref a_i, .null, .ref q_1, .ref q_2, .int 0, .int 0, .int 0, .int 0])), (q_1, .inl (a_1, 8, .inl (fun _ => 0))), (q_2, .inr (0, [.int 0])), (q_4, .inr (3, [.null, .null]))] := hD
  refine W.widen (k := 3) (n := 11) (by decide) (by decide) ?_
  refine lv_dup hx hb dX4_init_48 rfl ?_
  refine lv_aload_n hx hb dX4_init_49 rfl (lv_at hl 2 rfl) ?_
  refine lv_aload_n hx hb dX4_init_50 rfl (lv_at hl 3 rfl) ?_
  refine zc_v (wr := [(a_p, .inr (4, [.ref a_m, .ref a_t, .ref a_u, .ref a_i, .null, .ref q_1, .ref q_2, .int 0, .int 0, .int 0, .int 0])), (q_1, .inl (a_1, 8, .inl (fun _ => 0))), (q_2, .inr (0, [.int 0]))]) hP hD hS hA [3] [0, 1, 2] rfl rfl (by decide) (by decide) (va_runI (As := [.ref a_t, .ref a_u]) (rest := [.ref q_4, .ref a_p]) ⟨hx, hb, hml, hown, hts⟩ (c_i3 l dC dI q_4 a_t a_u _) (cwI 2 hts (zg_0 zw_240) rfl rfl rfl (hts (.initialized RX3) zw_89) (hts (.methodLink RX4 39 yX3_init) zw_238) (hts (.instanceMethod yX3_init) zw_239) rfl (by decide +kernel) ⟨Nat.le_of_ble_eq_true rfl, Nat.le_of_ble_eq_true rfl⟩) ⟨zc_blind, zc_start hP hD hK hN [3] [] rfl (by decide) rfl⟩ rfl rfl hl.1 rfl (lv_room (Nat.le_of_ble_eq_true rfl)) dX4_init_51 ⟨Nat.le_of_ble_eq_true rfl, Nat.le_of_ble_eq_true rfl⟩) (fun u_5 H locs hw hK1 hP hD hS => ?_)
  have hP : va_P (dC, dI) vwCl [(a_p, .inr (4, [.ref a_m, .ref a_t, .ref a_u, .ref a_i, .null, .ref q_1, .ref q_2, .int 0, .int 0, .int 0, .int 0])), (q_1, .inl (a_1, 8, .inl (fun _ => 0))), (q_2, .inr (0, [.int 0])), (q_4, .inr (3, [.ref a_t, .ref a_u]))] H := hP
  have hD : va_D A [(a_p, .inr (4, [.ref a_m, .ref a_t, .ref a_u, .ref a_i, .null, .ref q_1, .ref q_2, .int 0, .int 0, .int 0, .int 0])), (q_1, .inl (a_1, 8, .inl (fun _ => 0))), (q_2, .inr (0, [.int 0])), (q_4, .inr (3, [.ref a_t, .ref a_u]))] := hD
  refine va_putF (D := (dC, dI)) (ci := 4) (v := .ref q_4) (ty := .object "KeyboardKit$Ports") (C := RX4) (T := TX4) (N := 11) hx hb hts zx_4 tyX4 tyX4_ok nmX4 hown hK hP hD hS 0 rfl rfl 4 (by decide) (hts (.fieldLink RX4 42 "KeyboardKit$Processor" "ports" "LKeyboardKit$Ports;") zw_253) (fun _ h9 => h9) rfl hin rfl (by decide +kernel) rfl rfl (Nat.le_of_ble_eq_true rfl) dX4_init_54 (fun H locs hP hD hS => ?_)
  have hP : va_P (dC, dI) vwCl [(a_p, .inr (4, [.ref a_m, .ref a_t, .ref a_u, .ref a_i, .ref q_4, .ref q_1, .ref q_2, .int 0, .int 0, .int 0, .int 0])), (q_1, .inl (a_1, 8, .inl (fun _ => 0))), (q_2, .inr (0, [.int 0])), (q_4, .inr (3, [.ref a_t, .ref a_u]))] H := hP
  have hD : va_D A [(a_p, .inr (4, [.ref a_m, .ref a_t, .ref a_u, .ref a_i, .ref q_4, .ref q_1, .ref q_2, .int 0, .int 0, .int 0, .int 0])), (q_1, .inl (a_1, 8, .inl (fun _ => 0))), (q_2, .inr (0, [.int 0])), (q_4, .inr (3, [.ref a_t, .ref a_u]))] := hD
  have hP9 := hP.sub (ws' := [(a_p, .inr (4, [.ref a_m, .ref a_t, .ref a_u, .ref a_i, .ref q_4, .ref q_1, .ref q_2, .int 0, .int 0, .int 0, .int 0])), (q_1, .inl (a_1, 8, .inl (fun _ => 0))), (q_2, .inr (0, [.int 0])), (q_4, .inr (3, [.ref a_t, .ref a_u]))]) [0, 1, 2, 3] rfl
  have hD9 := hD.sub (ws' := [(a_p, .inr (4, [.ref a_m, .ref a_t, .ref a_u, .ref a_i, .ref q_4, .ref q_1, .ref q_2, .int 0, .int 0, .int 0, .int 0])), (q_1, .inl (a_1, 8, .inl (fun _ => 0))), (q_2, .inr (0, [.int 0])), (q_4, .inr (3, [.ref a_t, .ref a_u]))]) [0, 1, 2, 3] (by decide) rfl
  have hK9 := hK.sub (tys' := [(a_1, .int)]) [0] rfl
  exact W.vret hx hb hr (fun t9 ht hW => ⟨⟨(fun k => match k with | 0 => q_1 | 1 => q_2 | _ => q_4, fun k => match k with | _ => a_1), rfl, trivial, by rw [ht]; exact hP9, va_K.moved hW.alike hK9, hD9⟩, hS.F ht⟩) hS.2.2 dX4_init_57
