theorem dX6_set_0 : decode cX6_set 0 = .ok (.iload_n 1, 1) := by decide +kernel
theorem dX6_set_1 : decode cX6_set 1 = .ok (.tableswitch 118 0 9 #[55, 55, 55, 55, 55, 55, 72, 55, 90, 104], 55) := by decide +kernel
theorem dX6_set_102 : decode cX6_set 102 = .ok (.goto 27, 3) := by decide +kernel
theorem dX6_set_105 : decode cX6_set 105 = .ok (.aload_n 0, 1) := by decide +kernel
theorem dX6_set_106 : decode cX6_set 106 = .ok (.getfield 39, 3) := by decide +kernel
theorem dX6_set_109 : decode cX6_set 109 = .ok (.iload_n 2, 1) := by decide +kernel
theorem dX6_set_110 : decode cX6_set 110 = .ok (.ldc 116, 2) := by decide +kernel
theorem dX6_set_112 : decode cX6_set 112 = .ok (.iand, 1) := by decide +kernel
theorem dX6_set_113 : decode cX6_set 113 = .ok (.putfield 88, 3) := by decide +kernel
theorem dX6_set_116 : decode cX6_set 116 = .ok (.goto 13, 3) := by decide +kernel
theorem dX6_set_129 : decode cX6_set 129 = .ok (.return_, 1) := by decide +kernel
theorem dX6_set_56 : decode cX6_set 56 = .ok (.aload_n 0, 1) := by decide +kernel
theorem dX6_set_57 : decode cX6_set 57 = .ok (.getfield 39, 3) := by decide +kernel
theorem dX6_set_60 : decode cX6_set 60 = .ok (.getfield 72, 3) := by decide +kernel
theorem dX6_set_63 : decode cX6_set 63 = .ok (.iload_n 1, 1) := by decide +kernel
theorem dX6_set_64 : decode cX6_set 64 = .ok (.iload_n 2, 1) := by decide +kernel
theorem dX6_set_65 : decode cX6_set 65 = .ok (.sipush 255, 3) := by decide +kernel
theorem dX6_set_68 : decode cX6_set 68 = .ok (.iand, 1) := by decide +kernel
theorem dX6_set_69 : decode cX6_set 69 = .ok (.iastore, 1) := by decide +kernel
theorem dX6_set_70 : decode cX6_set 70 = .ok (.goto 59, 3) := by decide +kernel
theorem dX6_set_73 : decode cX6_set 73 = .ok (.aload_n 0, 1) := by decide +kernel
theorem dX6_set_74 : decode cX6_set 74 = .ok (.getfield 39, 3) := by decide +kernel
theorem dX6_set_77 : decode cX6_set 77 = .ok (.getfield 75, 3) := by decide +kernel
theorem dX6_set_80 : decode cX6_set 80 = .ok (.iload_n 2, 1) := by decide +kernel
theorem dX6_set_81 : decode cX6_set 81 = .ok (.sipush 247, 3) := by decide +kernel
theorem dX6_set_84 : decode cX6_set 84 = .ok (.iand, 1) := by decide +kernel
theorem dX6_set_85 : decode cX6_set 85 = .ok (.putfield 79, 3) := by decide +kernel
theorem dX6_set_88 : decode cX6_set 88 = .ok (.goto 41, 3) := by decide +kernel
theorem dX6_set_91 : decode cX6_set 91 = .ok (.aload_n 0, 1) := by decide +kernel
theorem dX6_set_92 : decode cX6_set 92 = .ok (.getfield 39, 3) := by decide +kernel
theorem dX6_set_95 : decode cX6_set 95 = .ok (.iload_n 2, 1) := by decide +kernel
theorem dX6_set_96 : decode cX6_set 96 = .ok (.ldc 116, 2) := by decide +kernel
theorem dX6_set_98 : decode cX6_set 98 = .ok (.iand, 1) := by decide +kernel
theorem dX6_set_99 : decode cX6_set 99 = .ok (.putfield 85, 3) := by decide +kernel
set_option maxHeartbeats 4000000 in
set_option maxRecDepth 100000 in
/-- set(0, v) -/
theorem c_set0 (l : Launch) (dC : Nat → ClassId) (dI : Nat → Nat → Nat) (a_k : Nat) (a_m : Nat) (a_t : Nat) (a_u : Nat) (a_i : Nat) (a_p : Nat) (a_o : Nat) (a_r : Nat) (a_f : Nat) (k_r : ClassId) (pc : Int32) (tk : Int32) (v : Int32) (sz : Nat) : Met l yX6_set (zq yX6_set cX6_set 3 none) ({ frames := 0, cells := 0, slots := 0, locals := 0 }) (va_Pc [.ref a_k, .int 0, .int v] (zc_P (dC, dI) [(a_k, .inr (6, [.ref a_m, .ref a_t, .ref a_u, .ref a_i, .ref a_p])), (a_p, .inr (4, [.ref a_m, .ref a_t, .ref a_u, .ref a_i, .ref a_o, .ref a_r, .ref a_f, .int 0, .int pc, .int 0, .int tk])), (a_r, .inl (k_r, 8, .inl (fun _ => 0))), (a_f, .inr (0, [.int 0]))] [(k_r, .int)] sz)) (va_Qv (fun _ => True) (fun (u : Unit) t9 => zc_B (dC, dI) (va_A [(a_k, .inr (6, [.ref a_m, .ref a_t, .ref a_u, .ref a_i, .ref a_p])), (a_p, .inr (4, [.ref a_m, .ref a_t, .ref a_u, .ref a_i, .ref a_o, .ref a_r, .ref a_f, .int 0, .int pc, .int 0, .int tk])), (a_r, .inl (k_r, 8, .inl (fun _ => 0))), (a_f, .inr (0, [.int 0]))] sz) [] [] t9) (va_A [(a_k, .inr (6, [.ref a_m, .ref a_t, .ref a_u, .ref a_i, .ref a_p])), (a_p, .inr (4, [.ref a_m, .ref a_t, .ref a_u, .ref a_i, .ref a_o, .ref a_r, .ref a_f, .int 0, .int pc, .int 0, .int tk])), (a_r, .inl (k_r, 8, .inl (fun _ => 0))), (a_f, .inr (0, [.int 0]))] sz)) 0 0 (va_A [(a_k, .inr (6, [.ref a_m, .ref a_t, .ref a_u, .ref a_i, .ref a_p])), (a_p, .inr (4, [.ref a_m, .ref a_t, .ref a_u, .ref a_i, .ref a_o, .ref a_r, .ref a_f, .int 0, .int pc, .int 0, .int tk])), (a_r, .inl (k_r, 8, .inl (fun _ => 0))), (a_f, .inr (0, [.int 0]))] sz) := by
  refine Met.ofW (cc := cX6_set) (maxL := 3) (ret := none) (by decide) rfl ?_
  intro p e s m args below meth c s₁ B hml hv
  obtain ⟨rfl, hsz, hP, hK, hD0, hN⟩ := hv
  have hx := B.exec
  have hb := B.bytes
  have hr := B.returns
  have hts : ∀ w ∈ zw, w.before _ s = true := fun w h => atoms_spec (ws := (zq yX6_set cX6_set 3 none)) B.pre w (List.mem_cons_of_mem _ h)
  have hown : s.vm.findClass RX6 = some m.cls := findClass_of_methodNamed B.named
  have hlocks := B.notSynchronized
  subst hsz
  have hD := hD0.self (sz := s.heap.size)
  generalize hAe : va_A [(a_k, .inr (6, [.ref a_m, .ref a_t, .ref a_u, .ref a_i, .ref a_p])), (a_p, .inr (4, [.ref a_m, .ref a_t, .ref a_u, .ref a_i, .ref a_o, .ref a_r, .ref a_f, .int 0, .int pc, .int 0, .int tk])), (a_r, .inl (k_r, 8, .inl (fun _ => 0))), (a_f, .inr (0, [.int 0]))] s.heap.size = A at hD ⊢
  have hA : ∀ q : Nat, s.heap.size ≤ q → A q := fun q h => by rw [← hAe]; exact Or.inr h
  have hS : va_S A s.heap s.heap [] := va_S.rf
  have hP : va_P (dC, dI) vwCl [(a_k, .inr (6, [.ref a_m, .ref a_t, .ref a_u, .ref a_i, .ref a_p])), (a_p, .inr (4, [.ref a_m, .ref a_t, .ref a_u, .ref a_i, .ref a_o, .ref a_r, .ref a_f, .int 0, .int pc, .int 0, .int tk])), (a_r, .inl (k_r, 8, .inl (fun _ => 0))), (a_f, .inr (0, [.int 0]))] s.heap := hP
  have hl := lv_entry ([.ref a_k, .int 0, .int v]) (n := 3) (Nat.le_of_ble_eq_true rfl)
  rw [lg_entry_eq]
  generalize (lg_sl ([.ref a_k, .int 0, .int v]) ++ List.replicate (3 - (lg_sl ([.ref a_k, .int 0, .int v])).length) Slot.unset).toArray = ls at hl ⊢
  have hl : lv_has ls 3 [(0, .ref a_k), (1, .int 0), (2, .int v)] := hl
  refine lv_iload_n hx hb dX6_set_0 rfl (lv_at hl 1 rfl) ?_
  refine lv_tableIn (off := 55) (tgt := 56) hx hb dX6_set_1 (by decide) (by decide) rfl (by decide) ?_
  refine lv_aload_n hx hb dX6_set_56 rfl (lv_at hl 0 rfl) ?_
  refine va_get (D := (dC, dI)) (ci := 6) (v := .ref a_p) (C := RX6) (T := TX6) (N := 5) hx hb hts zx_6 hown hK hP 0 rfl rfl 4 (by decide) (hts (.fieldLink RX6 39 "KeyboardKit" "processor" "LKeyboardKit$Processor;") zw_292) (fun _ h9 => h9) rfl dX6_set_57 ?_
  refine va_getN (D := (dC, dI)) (ci := 4) (v := .ref a_r) (C := RX4) (T := TX4) (N := 11) hx hb hts zx_4 hown hK hP 1 rfl rfl 5 (by decide) (va_Nw.use rfl (nf_16 hN)) (fun _ h9 => h9) rfl dX6_set_60 ?_
  refine lv_iload_n hx hb dX6_set_63 rfl (lv_at hl 1 rfl) ?_
  refine lv_iload_n hx hb dX6_set_64 rfl (lv_at hl 2 rfl) ?_
  refine lv_sipush (v := 255) hx hb dX6_set_65 (by decide) ?_
  refine lv_iand hx hb dX6_set_68 ?_
  refine lv_topi (fun v_1 ev_1 => ?_)
  refine va_iast hx hb hK hP hD hS 2 0 rfl rfl (show ¬ ((0 : Int32) < 0 ∨ 8 ≤ (0 : Int32).toNatClampNeg) by decide) dX6_set_69 (fun H locs hP hD hS => ?_)
  have hP : va_P (dC, dI) vwCl [(a_k, .inr (6, [.ref a_m, .ref a_t, .ref a_u, .ref a_i, .ref a_p])), (a_p, .inr (4, [.ref a_m, .ref a_t, .ref a_u, .ref a_i, .ref a_o, .ref a_r, .ref a_f, .int 0, .int pc, .int 0, .int tk])), (a_r, .inl (k_r, 8, .inl (upd (fun _ => 0) (0 : Int32).toNatClampNeg v_1))), (a_f, .inr (0, [.int 0]))] H := hP
  have hD : va_D A [(a_k, .inr (6, [.ref a_m, .ref a_t, .ref a_u, .ref a_i, .ref a_p])), (a_p, .inr (4, [.ref a_m, .ref a_t, .ref a_u, .ref a_i, .ref a_o, .ref a_r, .ref a_f, .int 0, .int pc, .int 0, .int tk])), (a_r, .inl (k_r, 8, .inl (upd (fun _ => 0) (0 : Int32).toNatClampNeg v_1))), (a_f, .inr (0, [.int 0]))] := hD
  refine lv_goto (tgt := 129) hx hb dX6_set_70 (by decide) ?_
  have hP9 := hP.sub (ws' := []) [] rfl
  have hD9 := hD.sub (ws' := []) [] (by decide) rfl
  have hK9 := hK.sub (tys' := []) [] rfl
  exact W.vret hx hb hr (fun t9 ht hW => ⟨⟨(), rfl, trivial, by rw [ht]; exact hP9, va_K.moved hW.alike hK9, hD9⟩, hS.F ht⟩) hS.2.2 dX6_set_129
set_option maxHeartbeats 4000000 in
set_option maxRecDepth 100000 in
/-- set(1, v) -/
theorem c_set1 (l : Launch) (dC : Nat → ClassId) (dI : Nat → Nat → Nat) (a_k : Nat) (a_m : Nat) (a_t : Nat) (a_u : Nat) (a_i : Nat) (a_p : Nat) (a_o : Nat) (a_r : Nat) (a_f : Nat) (k_r : ClassId) (pc : Int32) (tk : Int32) (v : Int32) (sz : Nat) : Met l yX6_set (zq yX6_set cX6_set 3 none) ({ frames := 0, cells := 0, slots := 0, locals := 0 }) (va_Pc [.ref a_k, .int 1, .int v] (zc_P (dC, dI) [(a_k, .inr (6, [.ref a_m, .ref a_t, .ref a_u, .ref a_i, .ref a_p])), (a_p, .inr (4, [.ref a_m, .ref a_t, .ref a_u, .ref a_i, .ref a_o, .ref a_r, .ref a_f, .int 0, .int pc, .int 0, .int tk])), (a_r, .inl (k_r, 8, .inl (fun _ => 0))), (a_f, .inr (0, [.int 0]))] [(k_r, .int)] sz)) (va_Qv (fun _ => True) (fun (u : Unit) t9 => zc_B (dC, dI) (va_A [(a_k, .inr (6, [.ref a_m, .ref a_t, .ref a_u, .ref a_i, .ref a_p])), (a_p, .inr (4, [.ref a_m, .ref a_t, .ref a_u, .ref a_i, .ref a_o, .ref a_r, .ref a_f, .int 0, .int pc, .int 0, .int tk])), (a_r, .inl (k_r, 8, .inl (fun _ => 0))), (a_f, .inr (0, [.int 0]))] sz) [] [] t9) (va_A [(a_k, .inr (6, [.ref a_m, .ref a_t, .ref a_u, .ref a_i, .ref a_p])), (a_p, .inr (4, [.ref a_m, .ref a_t, .ref a_u, .ref a_i, .ref a_o, .ref a_r, .ref a_f, .int 0, .int pc, .int 0, .int tk])), (a_r, .inl (k_r, 8, .inl (fun _ => 0))), (a_f, .inr (0, [.int 0]))] sz)) 0 0 (va_A [(a_k, .inr (6, [.ref a_m, .ref a_t, .ref a_u, .ref a_i, .ref a_p])), (a_p, .inr (4, [.ref a_m, .ref a_t, .ref a_u, .ref a_i, .ref a_o, .ref a_r, .ref a_f, .int 0, .int pc, .int 0, .int tk])), (a_r, .inl (k_r, 8, .inl (fun _ => 0))), (a_f, .inr (0, [.int 0]))] sz) := by
  refine Met.ofW (cc := cX6_set) (maxL := 3) (ret := none) (by decide) rfl ?_
  intro p e s m args below meth c s₁ B hml hv
  obtain ⟨rfl, hsz, hP, hK, hD0, hN⟩ := hv
  have hx := B.exec
  have hb := B.bytes
  have hr := B.returns
  have hts : ∀ w ∈ zw, w.before _ s = true := fun w h => atoms_spec (ws := (zq yX6_set cX6_set 3 none)) B.pre w (List.mem_cons_of_mem _ h)
  have hown : s.vm.findClass RX6 = some m.cls := findClass_of_methodNamed B.named
  have hlocks := B.notSynchronized
  subst hsz
  have hD := hD0.self (sz := s.heap.size)
  generalize hAe : va_A [(a_k, .inr (6, [.ref a_m, .ref a_t, .ref a_u, .ref a_i, .ref a_p])), (a_p, .inr (4, [.ref a_m, .ref a_t, .ref a_u, .ref a_i, .ref a_o, .ref a_r, .ref a_f, .int 0, .int pc, .int 0, .int tk])), (a_r, .inl (k_r, 8, .inl (fun _ => 0))), (a_f, .inr (0, [.int 0]))] s.heap.size = A at hD ⊢
  have hA : ∀ q : Nat, s.heap.size ≤ q → A q := fun q h => by rw [← hAe]; exact Or.inr h
  have hS : va_S A s.heap s.heap [] := va_S.rf
  have hP : va_P (dC, dI) vwCl [(a_k, .inr (6, [.ref a_m, .ref a_t, .ref a_u, .ref a_i, .ref a_p])), (a_p, .inr (4, [.ref a_m, .ref a_t, .ref a_u, .ref a_i, .ref a_o, .ref a_r, .ref a_f, .int 0, .int pc, .int 0, .int tk])), (a_r, .inl (k_r, 8, .inl (fun _ => 0))), (a_f, .inr (0, [.int 0]))] s.heap := hP
  have hl := lv_entry ([.ref a_k, .int 1, .int v]) (n := 3) (Nat.le_of_ble_eq_true rfl)
  rw [lg_entry_eq]
  generalize (lg_sl ([.ref a_k, .int 1, .int v]) ++ List.replicate (3 - (lg_sl ([.ref a_k, .int 1, .int v])).length) Slot.unset).toArray = ls at hl ⊢
  have hl : lv_has ls 3 [(0, .ref a_k), (1, .int 1), (2, .int v)] := hl
  refine lv_iload_n hx hb dX6_set_0 rfl (lv_at hl 1 rfl) ?_
  refine lv_tableIn (off := 55) (tgt := 56) hx hb dX6_set_1 (by decide) (by decide) rfl (by decide) ?_
  refine lv_aload_n hx hb dX6_set_56 rfl (lv_at hl 0 rfl) ?_
  refine va_get (D := (dC, dI)) (ci := 6) (v := .ref a_p) (C := RX6) (T := TX6) (N := 5) hx hb hts zx_6 hown hK hP 0 rfl rfl 4 (by decide) (hts (.fieldLink RX6 39 "KeyboardKit" "processor" "LKeyboardKit$Processor;") zw_292) (fun _ h9 => h9) rfl dX6_set_57 ?_
  refine va_getN (D := (dC, dI)) (ci := 4) (v := .ref a_r) (C := RX4) (T := TX4) (N := 11) hx hb hts zx_4 hown hK hP 1 rfl rfl 5 (by decide) (va_Nw.use rfl (nf_16 hN)) (fun _ h9 => h9) rfl dX6_set_60 ?_
  refine lv_iload_n hx hb dX6_set_63 rfl (lv_at hl 1 rfl) ?_
  refine lv_iload_n hx hb dX6_set_64 rfl (lv_at hl 2 rfl) ?_
  refine lv_sipush (v := 255) hx hb dX6_set_65 (by decide) ?_
  refine lv_iand hx hb dX6_set_68 ?_
  refine lv_topi (fun v_1 ev_1 => ?_)
  refine va_iast hx hb hK hP hD hS 2 0 rfl rfl (show ¬ ((1 : Int32) < 0 ∨ 8 ≤ (1 : Int32).toNatClampNeg) by decide) dX6_set_69 (fun H locs hP hD hS => ?_)
  have hP : va_P (dC, dI) vwCl [(a_k, .inr (6, [.ref a_m, .ref a_t, .ref a_u, .ref a_i, .ref a_p])), (a_p, .inr (4, [.ref a_m, .ref a_t, .ref a_u, .ref a_i, .ref a_o, .ref a_r, .ref a_f, .int 0, .int pc, .int 0, .int tk])), (a_r, .inl (k_r, 8, .inl (upd (fun _ => 0) (1 : Int32).toNatClampNeg v_1))), (a_f, .inr (0, [.int 0]))] H := hP
  have hD : va_D A [(a_k, .inr (6, [.ref a_m, .ref a_t, .ref a_u, .ref a_i, .ref a_p])), (a_p, .inr (4, [.ref a_m, .ref a_t, .ref a_u, .ref a_i, .ref a_o, .ref a_r, .ref a_f, .int 0, .int pc, .int 0, .int tk])), (a_r, .inl (k_r, 8, .inl (upd (fun _ => 0) (1 : Int32).toNatClampNeg v_1))), (a_f, .inr (0, [.int 0]))] := hD
  refine lv_goto (tgt := 129) hx hb dX6_set_70 (by decide) ?_
  have hP9 := hP.sub (ws' := []) [] rfl
  have hD9 := hD.sub (ws' := []) [] (by decide) rfl
  have hK9 := hK.sub (tys' := []) [] rfl
  exact W.vret hx hb hr (fun t9 ht hW => ⟨⟨(), rfl, trivial, by rw [ht]; exact hP9, va_K.moved hW.alike hK9, hD9⟩, hS.F ht⟩) hS.2.2 dX6_set_129
set_option maxHeartbeats 4000000 in
set_option maxRecDepth 100000 in
/-- set(2, v) -/
theorem c_set2 (l : Launch) (dC : Nat → ClassId) (dI : Nat → Nat → Nat) (a_k : Nat) (a_m : Nat) (a_t : Nat) (a_u : Nat) (a_i : Nat) (a_p : Nat) (a_o : Nat) (a_r : Nat) (a_f : Nat) (k_r : ClassId) (pc : Int32) (tk : Int32) (v : Int32) (sz : Nat) : Met l yX6_set (zq yX6_set cX6_set 3 none) ({ frames := 0, cells := 0, slots := 0, locals := 0 }) (va_Pc [.ref a_k, .int 2, .int v] (zc_P (dC, dI) [(a_k, .inr (6, [.ref a_m, .ref a_t, .ref a_u, .ref a_i, .ref a_p])), (a_p, .inr (4, [.ref a_m, .ref a_t, .ref a_u, .ref a_i, .ref a_o, .ref a_r, .ref a_f, .int 0, .int pc, .int 0, .int tk])), (a_r, .inl (k_r, 8, .inl (fun _ => 0))), (a_f, .inr (0, [.int 0]))] [(k_r, .int)] sz)) (va_Qv (fun _ => True) (fun (u : Unit) t9 => zc_B (dC, dI) (va_A [(a_k, .inr (6, [.ref a_m, .ref a_t, .ref a_u, .ref a_i, .ref a_p])), (a_p, .inr (4, [.ref a_m, .ref a_t, .ref a_u, .ref a_i, .ref a_o, .ref a_r, .ref a_f, .int 0, .int pc, .int 0, .int tk])), (a_r, .inl (k_r, 8, .inl (fun _ => 0))), (a_f, .inr (0, [.int 0]))] sz) [] [] t9) (va_A [(a_k, .inr (6, [.ref a_m, .ref a_t, .ref a_u, .ref a_i, .ref a_p])), (a_p, .inr (4, [.ref a_m, .ref a_t, .ref a_u, .ref a_i, .ref a_o, .ref a_r, .ref a_f, .int 0, .int pc, .int 0, .int tk])), (a_r, .inl (k_r, 8, .inl (fun _ => 0))), (a_f, .inr (0, [.int 0]))] sz)) 0 0 (va_A [(a_k, .inr (6, [.ref a_m, .ref a_t, .ref a_u, .ref a_i, .ref a_p])), (a_p, .inr (4, [.ref a_m, .ref a_t, .ref a_u, .ref a_i, .ref a_o, .ref a_r, .ref a_f, .int 0, .int pc, .int 0, .int tk])), (a_r, .inl (k_r, 8, .inl (fun _ => 0))), (a_f, .inr (0, [.int 0]))] sz) := by
  refine Met.ofW (cc := cX6_set) (maxL := 3) (ret := none) (by decide) rfl ?_
  intro p e s m args below meth c s₁ B hml hv
  obtain ⟨rfl, hsz, hP, hK, hD0, hN⟩ := hv
  have hx := B.exec
  have hb := B.bytes
  have hr := B.returns
  have hts : ∀ w ∈ zw, w.before _ s = true := fun w h => atoms_spec (ws := (zq yX6_set cX6_set 3 none)) B.pre w (List.mem_cons_of_mem _ h)
  have hown : s.vm.findClass RX6 = some m.cls := findClass_of_methodNamed B.named
  have hlocks := B.notSynchronized
  subst hsz
  have hD := hD0.self (sz := s.heap.size)
  generalize hAe : va_A [(a_k, .inr (6, [.ref a_m, .ref a_t, .ref a_u, .ref a_i, .ref a_p])), (a_p, .inr (4, [.ref a_m, .ref a_t, .ref a_u, .ref a_i, .ref a_o, .ref a_r, .ref a_f, .int 0, .int pc, .int 0, .int tk])), (a_r, .inl (k_r, 8, .inl (fun _ => 0))), (a_f, .inr (0, [.int 0]))] s.heap.size = A at hD ⊢
  have hA : ∀ q : Nat, s.heap.size ≤ q → A q := fun q h => by rw [← hAe]; exact Or.inr h
  have hS : va_S A s.heap s.heap [] := va_S.rf
  have hP : va_P (dC, dI) vwCl [(a_k, .inr (6, [.ref a_m, .ref a_t, .ref a_u, .ref a_i, .ref a_p])), (a_p, .inr (4, [.ref a_m, .ref a_t, .ref a_u, .ref a_i, .ref a_o, .ref a_r, .ref a_f, .int 0, .int pc, .int 0, .int tk])), (a_r, .inl (k_r, 8, .inl (fun _ => 0))), (a_f, .inr (0, [.int 0]))] s.heap := hP
  have hl := lv_entry ([.ref a_k, .int 2, .int v]) (n := 3) (Nat.le_of_ble_eq_true rfl)
  rw [lg_entry_eq]
  generalize (lg_sl ([.ref a_k, .int 2, .int v]) ++ List.replicate (3 - (lg_sl ([.ref a_k, .int 2, .int v])).length) Slot.unset).toArray = ls at hl ⊢
  have hl : lv_has ls 3 [(0, .ref a_k), (1, .int 2), (2, .int v)] := hl
  refine lv_iload_n hx hb dX6_set_0 rfl (lv_at hl 1 rfl) ?_
  refine lv_tableIn (off := 55) (tgt := 56) hx hb dX6_set_1 (by decide) (by decide) rfl (by decide) ?_
  refine lv_aload_n hx hb dX6_set_56 rfl (lv_at hl 0 rfl) ?_
  refine va_get (D := (dC, dI)) (ci := 6) (v := .ref a_p) (C := RX6) (T := TX6) (N := 5) hx hb hts zx_6 hown hK hP 0 rfl rfl 4 (by decide) (hts (.fieldLink RX6 39 "KeyboardKit" "processor" "LKeyboardKit$Processor;") zw_292) (fun _ h9 => h9) rfl dX6_set_57 ?_
  refine va_getN (D := (dC, dI)) (ci := 4) (v := .ref a_r) (C := RX4) (T := TX4) (N := 11) hx hb hts zx_4 hown hK hP 1 rfl rfl 5 (by decide) (va_Nw.use rfl (nf_16 hN)) (fun _ h9 => h9) rfl dX6_set_60 ?_
  refine lv_iload_n hx hb dX6_set_63 rfl (lv_at hl 1 rfl) ?_
  refine lv_iload_n hx hb dX6_set_64 rfl (lv_at hl 2 rfl) ?_
  refine lv_sipush (v := 255) hx hb dX6_set_65 (by decide) ?_
  refine lv_iand hx hb dX6_set_68 ?_
  refine lv_topi (fun v_1 ev_1 => ?_)
  refine va_iast hx hb hK hP hD hS 2 0 rfl rfl (show ¬ ((2 : Int32) < 0 ∨ 8 ≤ (2 : Int32).toNatClampNeg) by decide) dX6_set_69 (fun H locs hP hD hS => ?_)
  have hP : va_P (dC, dI) vwCl [(a_k, .inr (6, [.ref a_m, .ref a_t, .ref a_u, .ref a_i, .ref a_p])), (a_p, .inr (4, [.ref a_m, .ref a_t, .ref a_u, .ref a_i, .ref a_o, .ref a_r, .ref a_f, .int 0, .int pc, .int 0, .int tk])), (a_r, .inl (k_r, 8, .inl (upd (fun _ => 0) (2 : Int32).toNatClampNeg v_1))), (a_f, .inr (0, [.int 0]))] H := hP
  have hD : va_D A [(a_k, .inr (6, [.ref a_m, .ref a_t, .ref a_u, .ref a_i, .ref a_p])), (a_p, .inr (4, [.ref a_m, .ref a_t, .ref a_u, .ref a_i, .ref a_o, .ref a_r, .ref a_f, .int 0, .int pc, .int 0, .int tk])), (a_r, .inl (k_r, 8, .inl (upd (fun _ => 0) (2 : Int32).toNatClampNeg v_1))), (a_f, .inr (0, [.int 0]))] := hD
  refine lv_goto (tgt := 129) hx hb dX6_set_70 (by decide) ?_
  have hP9 := hP.sub (ws' := []) [] rfl
  have hD9 := hD.sub (ws' := []) [] (by decide) rfl
  have hK9 := hK.sub (tys' := []) [] rfl
  exact W.vret hx hb hr (fun t9 ht hW => ⟨⟨(), rfl, trivial, by rw [ht]; exact hP9, va_K.moved hW.alike hK9, hD9⟩, hS.F ht⟩) hS.2.2 dX6_set_129
set_option maxHeartbeats 4000000 in
set_option maxRecDepth 100000 in
/-- set(3, v) -/
theorem c_set3 (l : Launch) (dC : Nat → ClassId) (dI : Nat → Nat → Nat) (a_k : Nat) (a_m : Nat) (a_t : Nat) (a_u : Nat) (a_i : Nat) (a_p : Nat) (a_o : Nat) (a_r : Nat) (a_f : Nat) (k_r : ClassId) (pc : Int32) (tk : Int32) (v : Int32) (sz : Nat) : Met l yX6_set (zq yX6_set cX6_set 3 none) ({ frames := 0, cells := 0, slots := 0, locals := 0 }) (va_Pc [.ref a_k, .int 3, .int v] (zc_P (dC, dI) [(a_k, .inr (6, [.ref a_m, .ref a_t, .ref a_u, .ref a_i, .ref a_p])), (a_p, .inr (4, [.ref a_m, .ref a_t, .ref a_u, .ref a_i, .ref a_o, .ref a_r, .ref a_f, .int 0, .int pc, .int 0, .int tk])), (a_r, .inl (k_r, 8, .inl (fun _ => 0))), (a_f, .inr (0, [.int 0]))] [(k_r, .int)] sz)) (va_Qv (fun _ => True) (fun (u : Unit) t9 => zc_B (dC, dI) (va_A [(a_k, .inr (6, [.ref a_m, .ref a_t, .ref a_u, .ref a_i, .ref a_p])), (a_p, .inr (4, [.ref a_m, .ref a_t, .ref a_u, .ref a_i, .ref a_o, .ref a_r, .ref a_f, .int 0, .int pc, .int 0, .int tk])), (a_r, .inl (k_r, 8, .inl (fun _ => 0))), (a_f, .inr (0, [.int 0]))] sz) [] [] t9) (va_A [(a_k, .inr (6, [.ref a_m, .ref a_t, .ref a_u, .ref a_i, .ref a_p])), (a_p, .inr (4, [.ref a_m, .ref a_t, .ref a_u, .ref a_i, .ref a_o, .ref a_r, .ref a_f, .int 0, .int pc, .int 0, .int tk])), (a_r, .inl (k_r, 8, .inl (fun _ => 0))), (a_f, .inr (0, [.int 0]))] sz)) 0 0 (va_A [(a_k, .inr (6, [.ref a_m, .ref a_t, .ref a_u, .ref a_i, .ref a_p])), (a_p, .inr (4, [.ref a_m, .ref a_t, .ref a_u, .ref a_i, .ref a_o, .ref a_r, .ref a_f, .int 0, .int pc, .int 0, .int tk])), (a_r, .inl (k_r, 8, .inl (fun _ => 0))), (a_f, .inr (0, [.int 0]))] sz) := by
  refine Met.ofW (cc := cX6_set) (maxL := 3) (ret := none) (by decide) rfl ?_
  intro p e s m args below meth c s₁ B hml hv
  obtain ⟨rfl, hsz, hP, hK, hD0, hN⟩ := hv
  have hx := B.exec
  have hb := B.bytes
  have hr := B.returns
  have hts : ∀ w ∈ zw, w.before _ s = true := fun w h => atoms_spec (ws := (zq yX6_set cX6_set 3 none)) B.pre w (List.mem_cons_of_mem _ h)
  have hown : s.vm.findClass RX6 = some m.cls := findClass_of_methodNamed B.named
  have hlocks := B.notSynchronized
  subst hsz
  have hD := hD0.self (sz := s.heap.size)
  generalize hAe : va_A [(a_k, .inr (6, [.ref a_m, .ref a_t, .ref a_u, .ref a_i, .ref a_p])), (a_p, .inr (4, [.ref a_m, .ref a_t, .ref a_u, .ref a_i, .ref a_o, .ref a_r, .ref a_f, .int 0, .int pc, .int 0, .int tk])), (a_r, .inl (k_r, 8, .inl (fun _ => 0))), (a_f, .inr (0, [.int 0]))] s.heap.size = A at hD ⊢
  have hA : ∀ q : Nat, s.heap.size ≤ q → A q := fun q h => by rw [← hAe]; exact Or.inr h
  have hS : va_S A s.heap s.heap [] := va_S.rf
  have hP : va_P (dC, dI) vwCl [(a_k, .inr (6, [.ref a_m, .ref a_t, .ref a_u, .ref a_i, .ref a_p])), (a_p, .inr (4, [.ref a_m, .ref a_t, .ref a_u, .ref a_i, .ref a_o, .ref a_r, .ref a_f, .int 0, .int pc, .int 0, .int tk])), (a_r, .inl (k_r, 8, .inl (fun _ => 0))), (a_f, .inr (0, [.int 0]))] s.heap := hP
  have hl := lv_entry ([.ref a_k, .int 3, .int v]) (n := 3) (Nat.le_of_ble_eq_true rfl)
  rw [lg_entry_eq]
  generalize (lg_sl ([.ref a_k, .int 3, .int v]) ++ List.replicate (3 - (lg_sl ([.ref a_k, .int 3, .int v])).length) Slot.unset).toArray = ls at hl ⊢
  have hl : lv_has ls 3 [(0, .ref a_k), (1, .int 3), (2, .int v)] := hl
  refine lv_iload_n hx hb dX6_set_0 rfl (lv_at hl 1 rfl) ?_
  refine lv_tableIn (off := 55) (tgt := 56) hx hb dX6_set_1 (by decide) (by decide) rfl (by decide) ?_
  refine lv_aload_n hx hb dX6_set_56 rfl (lv_at hl 0 rfl) ?_
  refine va_get (D := (dC, dI)) (ci := 6) (v := .ref a_p) (C := RX6) (T := TX6) (N := 5) hx hb hts zx_6 hown hK hP 0 rfl rfl 4 (by decide) (hts (.fieldLink RX6 39 "KeyboardKit" "processor" "LKeyboardKit$Processor;") zw_292) (fun _ h9 => h9) rfl dX6_set_57 ?_
  refine va_getN (D := (dC, dI)) (ci := 4) (v := .ref a_r) (C := RX4) (T := TX4) (N := 11) hx hb hts zx_4 hown hK hP 1 rfl rfl 5 (by decide) (va_Nw.use rfl (nf_16 hN)) (fun _ h9 => h9) rfl dX6_set_60 ?_
  refine lv_iload_n hx hb dX6_set_63 rfl (lv_at hl 1 rfl) ?_
  refine lv_iload_n hx hb dX6_set_64 rfl (lv_at hl 2 rfl) ?_
  refine lv_sipush (v := 255) hx hb dX6_set_65 (by decide) ?_
  refine lv_iand hx hb dX6_set_68 ?_
  refine lv_topi (fun v_1 ev_1 => ?_)
  refine va_iast hx hb hK hP hD hS 2 0 rfl rfl (show ¬ ((3 : Int32) < 0 ∨ 8 ≤ (3 : Int32).toNatClampNeg) by decide) dX6_set_69 (fun H locs hP hD hS => ?_)
  have hP : va_P (dC, dI) vwCl [(a_k, .inr (6, [.ref a_m, .ref a_t, .ref a_u, .ref a_i, .ref a_p])), (a_p, .inr (4, [.ref a_m, .ref a_t, .ref a_u, .ref a_i, .ref a_o, .ref a_r, .ref a_f, .int 0, .int pc, .int 0, .int tk])), (a_r, .inl (k_r, 8, .inl (upd (fun _ => 0) (3 : Int32).toNatClampNeg v_1))), (a_f, .inr (0, [.int 0]))] H := hP
  have hD : va_D A [(a_k, .inr (6, [.ref a_m, .ref a_t, .ref a_u, .ref a_i, .ref a_p])), (a_p, .inr (4, [.ref a_m, .ref a_t, .ref a_u, .ref a_i, .ref a_o, .ref a_r, .ref a_f, .int 0, .int pc, .int 0, .int tk])), (a_r, .inl (k_r, 8, .inl (upd (fun _ => 0) (3 : Int32).toNatClampNeg v_1))), (a_f, .inr (0, [.int 0]))] := hD
  refine lv_goto (tgt := 129) hx hb dX6_set_70 (by decide) ?_
  have hP9 := hP.sub (ws' := []) [] rfl
  have hD9 := hD.sub (ws' := []) [] (by decide) rfl
  have hK9 := hK.sub (tys' := []) [] rfl
  exact W.vret hx hb hr (fun t9 ht hW => ⟨⟨(), rfl, trivial, by rw [ht]; exact hP9, va_K.moved hW.alike hK9, hD9⟩, hS.F ht⟩) hS.2.2 dX6_set_129
set_option maxHeartbeats 4000000 in
set_option maxRecDepth 100000 in
/-- set(4, v) -/
theorem c_set4 (l : Launch) (dC : Nat → ClassId) (dI : Nat → Nat → Nat) (a_k : Nat) (a_m : Nat) (a_t : Nat) (a_u : Nat) (a_i : Nat) (a_p : Nat) (a_o : Nat) (a_r : Nat) (a_f : Nat) (k_r : ClassId) (pc : Int32) (tk : Int32) (v : Int32) (sz : Nat) : Met l yX6_set (zq yX6_set cX6_set 3 none) ({ frames := 0, cells := 0, slots := 0, locals := 0 }) (va_Pc [.ref a_k, .int 4, .int v] (zc_P (dC, dI) [(a_k, .inr (6, [.ref a_m, .ref a_t, .ref a_u, .ref a_i, .ref a_p])), (a_p, .inr (4, [.ref a_m, .ref a_t, .ref a_u, .ref a_i, .ref a_o, .ref a_r, .ref a_f, .int 0, .int pc, .int 0, .int tk])), (a_r, .inl (k_r, 8, .inl (fun _ => 0))), (a_f, .inr (0, [.int 0]))] [(k_r, .int)] sz)) (va_Qv (fun _ => True) (fun (u : Unit) t9 => zc_B (dC, dI) (va_A [(a_k, .inr (6, [.ref a_m, .ref a_t, .ref a_u, .ref a_i, .ref a_p])), (a_p, .inr (4, [.ref a_m, .ref a_t, .ref a_u, .ref a_i, .ref a_o, .ref a_r, .ref a_f, .int 0, .int pc, .int 0, .int tk])), (a_r, .inl (k_r, 8, .inl (fun _ => 0))), (a_f, .inr (0, [.int 0]))] sz) [] [] t9) (va_A [(a_k, .inr (6, [.ref a_m, .ref a_t, .ref a_u, .ref a_i, .ref a_p])), (a_p, .inr (4, [.ref a_m, .ref a_t, .ref a_u, .ref a_i, .ref a_o, .ref a_r, .ref a_f, .int 0, .int pc, .int 0, .int tk])), (a_r, .inl (k_r, 8, .inl (fun _ => 0))), (a_f, .inr (0, [.int 0]))] sz)) 0 0 (va_A [(a_k, .inr (6, [.ref a_m, .ref a_t, .ref a_u, .ref a_i, .ref a_p])), (a_p, .inr (4, [.ref a_m, .ref a_t, .ref a_u, .ref a_i, .ref a_o, .ref a_r, .ref a_f, .int 0, .int pc, .int 0, .int tk])), (a_r, .inl (k_r, 8, .inl (fun _ => 0))), (a_f, .inr (0, [.int 0]))] sz) := by
  refine Met.ofW (cc := cX6_set) (maxL := 3) (ret := none) (by decide) rfl ?_
  intro p e s m args below meth c s₁ B hml hv
  obtain ⟨rfl, hsz, hP, hK, hD0, hN⟩ := hv
  have hx := B.exec
  have hb := B.bytes
  have hr := B.returns
  have hts : ∀ w ∈ zw, w.before _ s = true := fun w h => atoms_spec (ws := (zq yX6_set cX6_set 3 none)) B.pre w (List.mem_cons_of_mem _ h)
  have hown : s.vm.findClass RX6 = some m.cls := findClass_of_methodNamed B.named
  have hlocks := B.notSynchronized
  subst hsz
  have hD := hD0.self (sz := s.heap.size)
  generalize hAe : va_A [(a_k, .inr (6, [.ref a_m, .ref a_t, .ref a_u, .ref a_i, .ref a_p])), (a_p, .inr (4, [.ref a_m, .ref a_t, .ref a_u, .ref a_i, .ref a_o, .ref a_r, .ref a_f, .int 0, .int pc, .int 0, .int tk])), (a_r, .inl (k_r, 8, .inl (fun _ => 0))), (a_f, .inr (0, [.int 0]))] s.heap.size = A at hD ⊢
  have hA : ∀ q : Nat, s.heap.size ≤ q → A q := fun q h => by rw [← hAe]; exact Or.inr h
  have hS : va_S A s.heap s.heap [] := va_S.rf
  have hP : va_P (dC, dI) vwCl [(a_k, .inr (6, [.ref a_m, .ref a_t, .ref a_u, .ref a_i, .ref a_p])), (a_p, .inr (4, [.ref a_m, .ref a_t, .ref a_u, .ref a_i, .ref a_o, .ref a_r, .ref a_f, .int 0, .int pc, .int 0, .int tk])), (a_r, .inl (k_r, 8, .inl (fun _ => 0))), (a_f, .inr (0, [.int 0]))] s.heap := hP
  have hl := lv_entry ([.ref a_k, .int 4, .int v]) (n := 3) (Nat.le_of_ble_eq_true rfl)
  rw [lg_entry_eq]
  generalize (lg_sl ([.ref a_k, .int 4, .int v]) ++ List.replicate (3 - (lg_sl ([.ref a_k, .int 4, .int v])).length) Slot.unset).toArray = ls at hl ⊢
  have hl : lv_has ls 3 [(0, .ref a_k), (1, .int 4), (2, .int v)] := hl
  refine lv_iload_n hx hb dX6_set_0 rfl (lv_at hl 1 rfl) ?_
  refine lv_tableIn (off := 55) (tgt := 56) hx hb dX6_set_1 (by decide) (by decide) rfl (by decide) ?_
  refine lv_aload_n hx hb dX6_set_56 rfl (lv_at hl 0 rfl) ?_
  refine va_get (D := (dC, dI)) (ci := 6) (v := .ref a_p) (C := RX6) (T := TX6) (N := 5) hx hb hts zx_6 hown hK hP 0 rfl rfl 4 (by decide) (hts (.fieldLink RX6 39 "KeyboardKit" "processor" "LKeyboardKit$Processor;") zw_292) (fun _ h9 => h9) rfl dX6_set_57 ?_
  refine va_getN (D := (dC, dI)) (ci := 4) (v := .ref a_r) (C := RX4) (T := TX4) (N := 11) hx hb hts zx_4 hown hK hP 1 rfl rfl 5 (by decide) (va_Nw.use rfl (nf_16 hN)) (fun _ h9 => h9) rfl dX6_set_60 ?_
  refine lv_iload_n hx hb dX6_set_63 rfl (lv_at hl 1 rfl) ?_
  refine lv_iload_n hx hb dX6_set_64 rfl (lv_at hl 2 rfl) ?_
  refine lv_sipush (v := 255) hx hb dX6_set_65 (by decide) ?_
  refine lv_iand hx hb dX6_set_68 ?_
  refine lv_topi (fun v_1 ev_1 => ?_)
  refine va_iast hx hb hK hP hD hS 2 0 rfl rfl (show ¬ ((4 : Int32) < 0 ∨ 8 ≤ (4 : Int32).toNatClampNeg) by decide) dX6_set_69 (fun H locs hP hD hS => ?_)
  have hP : va_P (dC, dI) vwCl [(a_k, .inr (6, [.ref a_m, .ref a_t, .ref a_u, .ref a_i, .ref a_p])), (a_p, .inr (4, [.ref a_m, .ref a_t, .ref a_u, .ref a_i, .ref a_o, .ref a_r, .ref a_f, .int 0, .int pc, .int 0, .int tk])), (a_r, .inl (k_r, 8, .inl (upd (fun _ => 0) (4 : Int32).toNatClampNeg v_1))), (a_f, .inr (0, [.int 0]))] H := hP
  have hD : va_D A [(a_k, .inr (6, [.ref a_m, .ref a_t, .ref a_u, .ref a_i, .ref a_p])), (a_p, .inr (4, [.ref a_m, .ref a_t, .ref a_u, .ref a_i, .ref a_o, .ref a_r, .ref a_f, .int 0, .int pc, .int 0, .int tk])), (a_r, .inl (k_r, 8, .inl (upd (fun _ => 0) (4 : Int32).toNatClampNeg v_1))), (a_f, .inr (0, [.int 0]))] := hD
  refine lv_goto (tgt := 129) hx hb dX6_set_70 (by decide) ?_
  have hP9 := hP.sub (ws' := []) [] rfl
  have hD9 := hD.sub (ws' := []) [] (by decide) rfl
  have hK9 := hK.sub (tys' := []) [] rfl
  exact W.vret hx hb hr (fun t9 ht hW => ⟨⟨(), rfl, trivial, by rw [ht]; exact hP9, va_K.moved hW.alike hK9, hD9⟩, hS.F ht⟩) hS.2.2 dX6_set_129
set_option maxHeartbeats 4000000 in
set_option maxRecDepth 100000 in
/-- set(5, v) -/
theorem c_set5 (l : Launch) (dC : Nat → ClassId) (dI : Nat → Nat → Nat) (a_k : Nat) (a_m : Nat) (a_t : Nat) (a_u : Nat) (a_i : Nat) (a_p : Nat) (a_o : Nat) (a_r : Nat) (a_f : Nat) (k_r : ClassId) (pc : Int32) (tk : Int32) (v : Int32) (sz : Nat) : Met l yX6_set (zq yX6_set cX6_set 3 none) ({ frames := 0, cells := 0, slots := 0, locals := 0 }) (va_Pc [.ref a_k, .int 5, .int v] (zc_P (dC, dI) [(a_k, .inr (6, [.ref a_m, .ref a_t, .ref a_u, .ref a_i, .ref a_p])), (a_p, .inr (4, [.ref a_m, .ref a_t, .ref a_u, .ref a_i, .ref a_o, .ref a_r, .ref a_f, .int 0, .int pc, .int 0, .int tk])), (a_r, .inl (k_r, 8, .inl (fun _ => 0))), (a_f, .inr (0, [.int 0]))] [(k_r, .int)] sz)) (va_Qv (fun _ => True) (fun (u : Unit) t9 => zc_B (dC, dI) (va_A [(a_k, .inr (6, [.ref a_m, .ref a_t, .ref a_u, .ref a_i, .ref a_p])), (a_p, .inr (4, [.ref a_m, .ref a_t, .ref a_u, .ref a_i, .ref a_o, .ref a_r, .ref a_f, .int 0, .int pc, .int 0, .int tk])), (a_r, .inl (k_r, 8, .inl (fun _ => 0))), (a_f, .inr (0, [.int 0]))] sz) [] [] t9) (va_A [(a_k, .inr (6, [.ref a_m, .ref a_t, .ref a_u, .ref a_i, .ref a_p])), (a_p, .inr (4, [.ref a_m, .ref a_t, .ref a_u, .ref a_i, .ref a_o, .ref a_r, .ref a_f, .int 0, .int pc, .int 0, .int tk])), (a_r, .inl (k_r, 8, .inl (fun _ => 0))), (a_f, .inr (0, [.int 0]))] sz)) 0 0 (va_A [(a_k, .inr (6, [.ref a_m, .ref a_t, .ref a_u, .ref a_i, .ref a_p])), (a_p, .inr (4, [.ref a_m, .ref a_t, .ref a_u, .ref a_i, .ref a_o, .ref a_r, .ref a_f, .int 0, .int pc, .int 0, .int tk])), (a_r, .inl (k_r, 8, .inl (fun _ => 0))), (a_f, .inr (0, [.int 0]))] sz) := by
  refine Met.ofW (cc := cX6_set) (maxL := 3) (ret := none) (by decide) rfl ?_
  intro p e s m args below meth c s₁ B hml hv
  obtain ⟨rfl, hsz, hP, hK, hD0, hN⟩ := hv
  have hx := B.exec
  have hb := B.bytes
  have hr := B.returns
  have hts : ∀ w ∈ zw, w.before _ s = true := fun w h => atoms_spec (ws := (zq yX6_set cX6_set 3 none)) B.pre w (List.mem_cons_of_mem _ h)
  have hown : s.vm.findClass RX6 = some m.cls := findClass_of_methodNamed B.named
  have hlocks := B.notSynchronized
  subst hsz
  have hD := hD0.self (sz := s.heap.size)
  generalize hAe : va_A [(a_k, .inr (6, [.ref a_m, .ref a_t, .ref a_u, .ref a_i, .ref a_p])), (a_p, .inr (4, [.ref a_m, .ref a_t, .ref a_u, .ref a_i, .ref a_o, .ref a_r, .ref a_f, .int 0, .int pc, .int 0, .int tk])), (a_r, .inl (k_r, 8, .inl (fun _ => 0))), (a_f, .inr (0, [.int 0]))] s.heap.size = A at hD ⊢
  have hA : ∀ q : Nat, s.heap.size ≤ q → A q := fun q h => by rw [← hAe]; exact Or.inr h
  have hS : va_S A s.heap s.heap [] := va_S.rf
  have hP : va_P (dC, dI) vwCl [(a_k, .inr (6, [.ref a_m, .ref a_t, .ref a_u, .ref a_i, .ref a_p])), (a_p, .inr (4, [.ref a_m, .ref a_t, .ref a_u, .ref a_i, .ref a_o, .ref a_r, .ref a_f, .int 0, .int pc, .int 0, .int tk])), (a_r, .inl (k_r, 8, .inl (fun _ => 0))), (a_f, .inr (0, [.int 0]))] s.heap := hP
  have hl := lv_entry ([.ref a_k, .int 5, .int v]) (n := 3) (Nat.le_of_ble_eq_true rfl)
  rw [lg_entry_eq]
  generalize (lg_sl ([.ref a_k, .int 5, .int v]) ++ List.replicate (3 - (lg_sl ([.ref a_k, .int 5, .int v])).length) Slot.unset).toArray = ls at hl ⊢
  have hl : lv_has ls 3 [(0, .ref a_k), (1, .int 5), (2, .int v)] := hl
  refine lv_iload_n hx hb dX6_set_0 rfl (lv_at hl 1 rfl) ?_
  refine lv_tableIn (off := 55) (tgt := 56) hx hb dX6_set_1 (by decide) (by decide) rfl (by decide) ?_
  refine lv_aload_n hx hb dX6_set_56 rfl (lv_at hl 0 rfl) ?_
  refine va_get (D := (dC, dI)) (ci := 6) (v := .ref a_p) (C := RX6) (T := TX6) (N := 5) hx hb hts zx_6 hown hK hP 0 rfl rfl 4 (by decide) (hts (.fieldLink RX6 39 "KeyboardKit" "processor" "LKeyboardKit$Processor;") zw_292) (fun _ h9 => h9) rfl dX6_set_57 ?_
  refine va_getN (D := (dC, dI)) (ci := 4) (v := .ref a_r) (C := RX4) (T := TX4) (N := 11) hx hb hts zx_4 hown hK hP 1 rfl rfl 5 (by decide) (va_Nw.use rfl (nf_16 hN)) (fun _ h9 => h9) rfl dX6_set_60 ?_
  refine lv_iload_n hx hb dX6_set_63 rfl (lv_at hl 1 rfl) ?_
  refine lv_iload_n hx hb dX6_set_64 rfl (lv_at hl 2 rfl) ?_
  refine lv_sipush (v := 255) hx hb dX6_set_65 (by decide) ?_
  refine lv_iand hx hb dX6_set_68 ?_
  refine lv_topi (fun v_1 ev_1 => ?_)
  refine va_iast hx hb hK hP hD hS 2 0 rfl rfl (show ¬ ((5 : Int32) < 0 ∨ 8 ≤ (5 : Int32).toNatClampNeg) by decide) dX6_set_69 (fun H locs hP hD hS => ?_)
  have hP : va_P (dC, dI) vwCl [(a_k, .inr (6, [.ref a_m, .ref a_t, .ref a_u, .ref a_i, .ref a_p])), (a_p, .inr (4, [.ref a_m, .ref a_t, .ref a_u, .ref a_i, .ref a_o, .ref a_r, .ref a_f, .int 0, .int pc, .int 0, .int tk])), (a_r, .inl (k_r, 8, .inl (upd (fun _ => 0) (5 : Int32).toNatClampNeg v_1))), (a_f, .inr (0, [.int 0]))] H := hP
  have hD : va_D A [(a_k, .inr (6, [.ref a_m, .ref a_t, .ref a_u, .ref a_i, .ref a_p])), (a_p, .inr (4, [.ref a_m, .ref a_t, .ref a_u, .ref a_i, .ref a_o, .ref a_r, .ref a_f, .int 0, .int pc, .int 0, .int tk])), (a_r, .inl (k_r, 8, .inl (upd (fun _ => 0) (5 : Int32).toNatClampNeg v_1))), (a_f, .inr (0, [.int 0]))] := hD
  refine lv_goto (tgt := 129) hx hb dX6_set_70 (by decide) ?_
  have hP9 := hP.sub (ws' := []) [] rfl
  have hD9 := hD.sub (ws' := []) [] (by decide) rfl
  have hK9 := hK.sub (tys' := []) [] rfl
  exact W.vret hx hb hr (fun t9 ht hW => ⟨⟨(), rfl, trivial, by rw [ht]; exact hP9, va_K.moved hW.alike hK9, hD9⟩, hS.F ht⟩) hS.2.2 dX6_set_129
set_option maxHeartbeats 4000000 in
set_option maxRecDepth 100000 in
/-- set(6, v) -/
theorem c_set6 (l : Launch) (dC : Nat → ClassId) (dI : Nat → Nat → Nat) (a_k : Nat) (a_m : Nat) (a_t : Nat) (a_u : Nat) (a_i : Nat) (a_p : Nat) (a_o : Nat) (a_r : Nat) (a_f : Nat) (k_r : ClassId) (pc : Int32) (tk : Int32) (v : Int32) (sz : Nat) : Met l yX6_set (zq yX6_set cX6_set 3 none) ({ frames := 0, cells := 0, slots := 0, locals := 0 }) (va_Pc [.ref a_k, .int 6, .int v] (zc_P (dC, dI) [(a_k, .inr (6, [.ref a_m, .ref a_t, .ref a_u, .ref a_i, .ref a_p])), (a_p, .inr (4, [.ref a_m, .ref a_t, .ref a_u, .ref a_i, .ref a_o, .ref a_r, .ref a_f, .int 0, .int pc, .int 0, .int tk])), (a_r, .inl (k_r, 8, .inl (fun _ => 0))), (a_f, .inr (0, [.int 0]))] [(k_r, .int)] sz)) (va_Qv (fun _ => True) (fun (u : Unit) t9 => zc_B (dC, dI) (va_A [(a_k, .inr (6, [.ref a_m, .ref a_t, .ref a_u, .ref a_i, .ref a_p])), (a_p, .inr (4, [.ref a_m, .ref a_t, .ref a_u, .ref a_i, .ref a_o, .ref a_r, .ref a_f, .int 0, .int pc, .int 0, .int tk])), (a_r, .inl (k_r, 8, .inl (fun _ => 0))), (a_f, .inr (0, [.int 0]))] sz) [] [] t9) (va_A [(a_k, .inr (6, [.ref a_m, .ref a_t, .ref a_u, .ref a_i, .ref a_p])), (a_p, .inr (4, [.ref a_m, .ref a_t, .ref a_u, .ref a_i, .ref a_o, .ref a_r, .ref a_f, .int 0, .int pc, .int 0, .int tk])), (a_r, .inl (k_r, 8, .inl (fun _ => 0))), (a_f, .inr (0, [.int 0]))] sz)) 0 0 (va_A [(a_k, .inr (6, [.ref a_m, .ref a_t, .ref a_u, .ref a_i, .ref a_p])), (a_p, .inr (4, [.ref a_m, .ref a_t, .ref a_u, .ref a_i, .ref a_o, .ref a_r, .ref a_f, .int 0, .int pc, .int 0, .int tk])), (a_r, .inl (k_r, 8, .inl (fun _ => 0))), (a_f, .inr (0, [.int 0]))] sz) := by
  refine Met.ofW (cc := cX6_set) (maxL := 3) (ret := none) (by decide) rfl ?_
  intro p e s m args below meth c s₁ B hml hv
  obtain ⟨rfl, hsz, hP, hK, hD0, hN⟩ := hv
  have hx := B.exec
  have hb := B.bytes
  have hr := B.returns
  have hts : ∀ w ∈ zw, w.before _ s = true := fun w h => atoms_spec (ws := (zq yX6_set cX6_set 3 none)) B.pre w (List.mem_cons_of_mem _ h)
  have hown : s.vm.findClass RX6 = some m.cls := findClass_of_methodNamed B.named
  have hlocks := B.notSynchronized
  subst hsz
  have hD := hD0.self (sz := s.heap.size)
  generalize hAe : va_A [(a_k, .inr (6, [.ref a_m, .ref a_t, .ref a_u, .ref a_i, .ref a_p])), (a_p, .inr (4, [.ref a_m, .ref a_t, .ref a_u, .ref a_i, .ref a_o, .ref a_r, .ref a_f, .int 0, .int pc, .int 0, .int tk])), (a_r, .inl (k_r, 8, .inl (fun _ => 0))), (a_f, .inr (0, [.int 0]))] s.heap.size = A at hD ⊢
  have hA : ∀ q : Nat, s.heap.size ≤ q → A q := fun q h => by rw [← hAe]; exact Or.inr h
  have hS : va_S A s.heap s.heap [] := va_S.rf
  have hP : va_P (dC, dI) vwCl [(a_k, .inr (6, [.ref a_m, .ref a_t, .ref a_u, .ref a_i, .ref a_p])), (a_p, .inr (4, [.ref a_m, .ref a_t, .ref a_u, .ref a_i, .ref a_o, .ref a_r, .ref a_f, .int 0, .int pc, .int 0, .int tk])), (a_r, .inl (k_r, 8, .inl (fun _ => 0))), (a_f, .inr (0, [.int 0]))] s.heap := hP
  have hl := lv_entry ([.ref a_k, .int 6, .int v]) (n := 3) (Nat.le_of_ble_eq_true rfl)
  rw [lg_entry_eq]
  generalize (lg_sl ([.ref a_k, .int 6, .int v]) ++ List.replicate (3 - (lg_sl ([.ref a_k, .int 6, .int v])).length) Slot.unset).toArray = ls at hl ⊢
  have hl : lv_has ls 3 [(0, .ref a_k), (1, .int 6), (2, .int v)] := hl
  refine lv_iload_n hx hb dX6_set_0 rfl (lv_at hl 1 rfl) ?_
  refine lv_tableIn (off := 72) (tgt := 73) hx hb dX6_set_1 (by decide) (by decide) rfl (by decide) ?_
  refine lv_aload_n hx hb dX6_set_73 rfl (lv_at hl 0 rfl) ?_
  refine va_get (D := (dC, dI)) (ci := 6) (v := .ref a_p) (C := RX6) (T := TX6) (N := 5) hx hb hts zx_6 hown hK hP 0 rfl rfl 4 (by decide) (hts (.fieldLink RX6 39 "KeyboardKit" "processor" "LKeyboardKit$Processor;") zw_292) (fun _ h9 => h9) rfl dX6_set_74 ?_
  refine va_getN (D := (dC, dI)) (ci := 4) (v := .ref a_f) (C := RX4) (T := TX4) (N := 11) hx hb hts zx_4 hown hK hP 1 rfl rfl 6 (by decide) (va_Nw.use rfl (nf_17 hN)) (fun _ h9 => h9) rfl dX6_set_77 ?_
  refine lv_iload_n hx hb dX6_set_80 rfl (lv_at hl 2 rfl) ?_
  refine lv_sipush (v := 247) hx hb dX6_set_81 (by decide) ?_
  refine lv_iand hx hb dX6_set_84 ?_
  refine lv_topi (fun v_1 ev_1 => ?_)
  refine va_putN (D := (dC, dI)) (ci := 0) (v := .int v_1) (ty := .int) (C := RX0) (T := TX0) (N := 1) hx hb hts zx_0 tyX0 tyX0_ok nmX0 hown hK hP hD hS 3 rfl rfl 0 (by decide) (va_Nw.use rfl (nf_14 hN)) (fun _ h9 => h9) rfl (by decide +kernel) rfl rfl (Nat.le_of_ble_eq_true rfl) dX6_set_85 (fun H locs hP hD hS => ?_)
  have hP : va_P (dC, dI) vwCl [(a_k, .inr (6, [.ref a_m, .ref a_t, .ref a_u, .ref a_i, .ref a_p])), (a_p, .inr (4, [.ref a_m, .ref a_t, .ref a_u, .ref a_i, .ref a_o, .ref a_r, .ref a_f, .int 0, .int pc, .int 0, .int tk])), (a_r, .inl (k_r, 8, .inl (fun _ => 0))), (a_f, .inr (0, [.int v_1]))] H := hP
  have hD : va_D A [(a_k, .inr (6, [.ref a_m, .ref a_t, .ref a_u, .ref a_i, .ref a_p])), (a_p, .inr (4, [.ref a_m, .ref a_t, .ref a_u, .ref a_i, .ref a_o, .ref a_r, .ref a_f, .int 0, .int pc, .int 0, .int tk])), (a_r, .inl (k_r, 8, .inl (fun _ => 0))), (a_f, .inr (0, [.int v_1]))] := hD
  refine lv_goto (tgt := 129) hx hb dX6_set_88 (by decide) ?_
  have hP9 := hP.sub (ws' := []) [] rfl
  have hD9 := hD.sub (ws' := []) [] (by decide) rfl
  have hK9 := hK.sub (tys' := []) [] rfl
  exact W.vret hx hb hr (fun t9 ht hW => ⟨⟨(), rfl, trivial, by rw [ht]; exact hP9, va_K.moved hW.alike hK9, hD9⟩, hS.F ht⟩) hS.2.2 dX6_set_129
set_option maxHeartbeats 4000000 in
set_option maxRecDepth 100000 in
/-- set(7, v) -/
theorem c_set7 (l : Launch) (dC : Nat → ClassId) (dI : Nat → Nat → Nat) (a_k : Nat) (a_m : Nat) (a_t : Nat) (a_u : Nat) (a_i : Nat) (a_p : Nat) (a_o : Nat) (a_r : Nat) (a_f : Nat) (k_r : ClassId) (pc : Int32) (tk : Int32) (v : Int32) (sz : Nat) : Met l yX6_set (zq yX6_set cX6_set 3 none) ({ frames := 0, cells := 0, slots := 0, locals := 0 }) (va_Pc [.ref a_k, .int 7, .int v] (zc_P (dC, dI) [(a_k, .inr (6, [.ref a_m, .ref a_t, .ref a_u, .ref a_i, .ref a_p])), (a_p, .inr (4, [.ref a_m, .ref a_t, .ref a_u, .ref a_i, .ref a_o, .ref a_r, .ref a_f, .int 0, .int pc, .int 0, .int tk])), (a_r, .inl (k_r, 8, .inl (fun _ => 0))), (a_f, .inr (0, [.int 0]))] [(k_r, .int)] sz)) (va_Qv (fun _ => True) (fun (u : Unit) t9 => zc_B (dC, dI) (va_A [(a_k, .inr (6, [.ref a_m, .ref a_t, .ref a_u, .ref a_i, .ref a_p])), (a_p, .inr (4, [.ref a_m, .ref a_t, .ref a_u, .ref a_i, .ref a_o, .ref a_r, .ref a_f, .int 0, .int pc, .int 0, .int tk])), (a_r, .inl (k_r, 8, .inl (fun _ => 0))), (a_f, .inr (0, [.int 0]))] sz) [] [] t9) (va_A [(a_k, .inr (6, [.ref a_m, .ref a_t, .ref a_u, .ref a_i, .ref a_p])), (a_p, .inr (4, [.ref a_m, .ref a_t, .ref a_u, .ref a_i, .ref a_o, .ref a_r, .ref a_f, .int 0, .int pc, .int 0, .int tk])), (a_r, .inl (k_r, 8, .inl (fun _ => 0))), (a_f, .inr (0, [.int 0]))] sz)) 0 0 (va_A [(a_k, .inr (6, [.ref a_m, .ref a_t, .ref a_u, .ref a_i, .ref a_p])), (a_p, .inr (4, [.ref a_m, .ref a_t, .ref a_u, .ref a_i, .ref a_o, .ref a_r, .ref a_f, .int 0, .int pc, .int 0, .int tk])), (a_r, .inl (k_r, 8, .inl (fun _ => 0))), (a_f, .inr (0, [.int 0]))] sz) := by
  refine Met.ofW (cc := cX6_set) (maxL := 3) (ret := none) (by decide) rfl ?_
  intro p e s m args below meth c s₁ B hml hv
  obtain ⟨rfl, hsz, hP, hK, hD0, hN⟩ := hv
  have hx := B.exec
  have hb := B.bytes
  have hr := B.returns
  have hts : ∀ w ∈ zw, w.before _ s = true := fun w h => atoms_spec (ws := (zq yX6_set cX6_set 3 none)) B.pre w (List.mem_cons_of_mem _ h)
  have hown : s.vm.findClass RX6 = some m.cls := findClass_of_methodNamed B.named
  have hlocks := B.notSynchronized
  subst hsz
  have hD := hD0.self (sz := s.heap.size)
  generalize hAe : va_A [(a_k, .inr (6, [.ref a_m, .ref a_t, .ref a_u, .ref a_i, .ref a_p])), (a_p, .inr (4, [.ref a_m, .ref a_t, .ref a_u, .ref a_i, .ref a_o, .ref a_r, .ref a_f, .int 0, .int pc, .int 0, .int tk])), (a_r, .inl (k_r, 8, .inl (fun _ => 0))), (a_f, .inr (0, [.int 0]))] s.heap.size = A at hD ⊢
  have hA : ∀ q : Nat, s.heap.size ≤ q → A q := fun q h => by rw [← hAe]; exact Or.inr h
  have hS : va_S A s.heap s.heap [] := va_S.rf
  have hP : va_P (dC, dI) vwCl [(a_k, .inr (6, [.ref a_m, .ref a_t, .ref a_u, .ref a_i, .ref a_p])), (a_p, .inr (4, [.ref a_m, .ref a_t, .ref a_u, .ref a_i, .ref a_o, .ref a_r, .ref a_f, .int 0, .int pc, .int 0, .int tk])), (a_r, .inl (k_r, 8, .inl (fun _ => 0))), (a_f, .inr (0, [.int 0]))] s.heap := hP
  have hl := lv_entry ([.ref a_k, .int 7, .int v]) (n := 3) (Nat.le_of_ble_eq_true rfl)
  rw [lg_entry_eq]
  generalize (lg_sl ([.ref a_k, .int 7, .int v]) ++ List.replicate (3 - (lg_sl ([.ref a_k, .int 7, .int v])).length) Slot.unset).toArray = ls at hl ⊢
  have hl : lv_has ls 3 [(0, .ref a_k), (1, .int 7), (2, .int v)] := hl
  refine lv_iload_n hx hb dX6_set_0 rfl (lv_at hl 1 rfl) ?_
  refine lv_tableIn (off := 55) (tgt := 56) hx hb dX6_set_1 (by decide) (by decide) rfl (by decide) ?_
  refine lv_aload_n hx hb dX6_set_56 rfl (lv_at hl 0 rfl) ?_
  refine va_get (D := (dC, dI)) (ci := 6) (v := .ref a_p) (C := RX6) (T := TX6) (N := 5) hx hb hts zx_6 hown hK hP 0 rfl rfl 4 (by decide) (hts (.fieldLink RX6 39 "KeyboardKit" "processor" "LKeyboardKit$Processor;") zw_292) (fun _ h9 => h9) rfl dX6_set_57 ?_
  refine va_getN (D := (dC, dI)) (ci := 4) (v := .ref a_r) (C := RX4) (T := TX4) (N := 11) hx hb hts zx_4 hown hK hP 1 rfl rfl 5 (by decide) (va_Nw.use rfl (nf_16 hN)) (fun _ h9 => h9) rfl dX6_set_60 ?_
  refine lv_iload_n hx hb dX6_set_63 rfl (lv_at hl 1 rfl) ?_
  refine lv_iload_n hx hb dX6_set_64 rfl (lv_at hl 2 rfl) ?_
  refine lv_sipush (v := 255) hx hb dX6_set_65 (by decide) ?_
  refine lv_iand hx hb dX6_set_68 ?_
  refine lv_topi (fun v_1 ev_1 => ?_)
  refine va_iast hx hb hK hP hD hS 2 0 rfl rfl (show ¬ ((7 : Int32) < 0 ∨ 8 ≤ (7 : Int32).toNatClampNeg) by decide) dX6_set_69 (fun H locs hP hD hS => ?_)
  have hP : va_P (dC, dI) vwCl [(a_k, .inr (6, [.ref a_m, .ref a_t, .ref a_u, .ref a_i, .ref a_p])), (a_p, .inr (4, [.ref a_m, .ref a_t, .ref a_u, .ref a_i, .ref a_o, .ref a_r, .ref a_f, .int 0, .int pc, .int 0, .int tk])), (a_r, .inl (k_r, 8, .inl (upd (fun _ => 0) (7 : Int32).toNatClampNeg v_1))), (a_f, .inr (0, [.int 0]))] H := hP
  have hD : va_D A [(a_k, .inr (6, [.ref a_m, .ref a_t, .ref a_u, .ref a_i, .ref a_p])), (a_p, .inr (4, [.ref a_m, .ref a_t, .ref a_u, .ref a_i, .ref a_o, .ref a_r, .ref a_f, .int 0, .int pc, .int 0, .int tk])), (a_r, .inl (k_r, 8, .inl (upd (fun _ => 0) (7 : Int32).toNatClampNeg v_1))), (a_f, .inr (0, [.int 0]))] := hD
  refine lv_goto (tgt := 129) hx hb dX6_set_70 (by decide) ?_
  have hP9 := hP.sub (ws' := []) [] rfl
  have hD9 := hD.sub (ws' := []) [] (by decide) rfl
  have hK9 := hK.sub (tys' := []) [] rfl
  exact W.vret hx hb hr (fun t9 ht hW => ⟨⟨(), rfl, trivial, by rw [ht]; exact hP9, va_K.moved hW.alike hK9, hD9⟩, hS.F ht⟩) hS.2.2 dX6_set_129
set_option maxHeartbeats 4000000 in
set_option maxRecDepth 100000 in
/-- set(8, v) -/
theorem c_set8 (l : Launch) (dC : Nat → ClassId) (dI : Nat → Nat → Nat) (a_k : Nat) (a_m : Nat) (a_t : Nat) (a_u : Nat) (a_i : Nat) (a_p : Nat) (a_o : Nat) (a_r : Nat) (a_f : Nat) (k_r : ClassId) (pc : Int32) (tk : Int32) (v : Int32) (sz : Nat) : Met l yX6_set (zq yX6_set cX6_set 3 none) ({ frames := 0, cells := 0, slots := 0, locals := 0 }) (va_Pc [.ref a_k, .int 8, .int v] (zc_P (dC, dI) [(a_k, .inr (6, [.ref a_m, .ref a_t, .ref a_u, .ref a_i, .ref a_p])), (a_p, .inr (4, [.ref a_m, .ref a_t, .ref a_u, .ref a_i, .ref a_o, .ref a_r, .ref a_f, .int 0, .int pc, .int 0, .int tk])), (a_r, .inl (k_r, 8, .inl (fun _ => 0))), (a_f, .inr (0, [.int 0]))] [(k_r, .int)] sz)) (va_Qv (fun _ => True) (fun (u : Unit) t9 => zc_B (dC, dI) (va_A [(a_k, .inr (6, [.ref a_m, .ref a_t, .ref a_u, .ref a_i, .ref a_p])), (a_p, .inr (4, [.ref a_m, .ref a_t, .ref a_u, .ref a_i, .ref a_o, .ref a_r, .ref a_f, .int 0, .int pc, .int 0, .int tk])), (a_r, .inl (k_r, 8, .inl (fun _ => 0))), (a_f, .inr (0, [.int 0]))] sz) [] [] t9) (va_A [(a_k, .inr (6, [.ref a_m, .ref a_t, .ref a_u, .ref a_i, .ref a_p])), (a_p, .inr (4, [.ref a_m, .ref a_t, .ref a_u, .ref a_i, .ref a_o, .ref a_r, .ref a_f, .int 0, .int pc, .int 0, .int tk])), (a_r, .inl (k_r, 8, .inl (fun _ => 0))), (a_f, .inr (0, [.int 0]))] sz)) 0 0 (va_A [(a_k, .inr (6, [.ref a_m, .ref a_t, .ref a_u, .ref a_i, .ref a_p])), (a_p, .inr (4, [.ref a_m, .ref a_t, .ref a_u, .ref a_i, .ref a_o, .ref a_r, .ref a_f, .int 0, .int pc, .int 0, .int tk])), (a_r, .inl (k_r, 8, .inl (fun _ => 0))), (a_f, .inr (0, [.int 0]))] sz) := by
  refine Met.ofW (cc := cX6_set) (maxL := 3) (ret := none) (by decide) rfl ?_
  intro p e s m args below meth c s₁ B hml hv
  obtain ⟨rfl, hsz, hP, hK, hD0, hN⟩ := hv
  have hx := B.exec
  have hb := B.bytes
  have hr := B.returns
  have hts : ∀ w ∈ zw, w.before _ s = true := fun w h => atoms_spec (ws := (zq yX6_set cX6_set 3 none)) B.pre w (List.mem_cons_of_mem _ h)
  have hown : s.vm.findClass RX6 = some m.cls := findClass_of_methodNamed B.named
  have hlocks := B.notSynchronized
  subst hsz
  have hD := hD0.self (sz := s.heap.size)
  generalize hAe : va_A [(a_k, .inr (6, [.ref a_m, .ref a_t, .ref a_u, .ref a_i, .ref a_p])), (a_p, .inr (4, [.ref a_m, .ref a_t, .ref a_u, .ref a_i, .ref a_o, .ref a_r, .ref a_f, .int 0, .int pc, .int 0, .int tk])), (a_r, .inl (k_r, 8, .inl (fun _ => 0))), (a_f, .inr (0, [.int 0]))] s.heap.size = A at hD ⊢
  have hA : ∀ q : Nat, s.heap.size ≤ q → A q := fun q h => by rw [← hAe]; exact Or.inr h
  have hS : va_S A s.heap s.heap [] := va_S.rf
  have hP : va_P (dC, dI) vwCl [(a_k, .inr (6, [.ref a_m, .ref a_t, .ref a_u, .ref a_i, .ref a_p])), (a_p, .inr (4, [.ref a_m, .ref a_t, .ref a_u, .ref a_i, .ref a_o, .ref a_r, .ref a_f, .int 0, .int pc, .int 0, .int tk])), (a_r, .inl (k_r, 8, .inl (fun _ => 0))), (a_f, .inr (0, [.int 0]))] s.heap := hP
  have hl := lv_entry ([.ref a_k, .int 8, .int v]) (n := 3) (Nat.le_of_ble_eq_true rfl)
  rw [lg_entry_eq]
  generalize (lg_sl ([.ref a_k, .int 8, .int v]) ++ List.replicate (3 - (lg_sl ([.ref a_k, .int 8, .int v])).length) Slot.unset).toArray = ls at hl ⊢
  have hl : lv_has ls 3 [(0, .ref a_k), (1, .int 8), (2, .int v)] := hl
  refine lv_iload_n hx hb dX6_set_0 rfl (lv_at hl 1 rfl) ?_
  refine lv_tableIn (off := 90) (tgt := 91) hx hb dX6_set_1 (by decide) (by decide) rfl (by decide) ?_
  refine lv_aload_n hx hb dX6_set_91 rfl (lv_at hl 0 rfl) ?_
  refine va_get (D := (dC, dI)) (ci := 6) (v := .ref a_p) (C := RX6) (T := TX6) (N := 5) hx hb hts zx_6 hown hK hP 0 rfl rfl 4 (by decide) (hts (.fieldLink RX6 39 "KeyboardKit" "processor" "LKeyboardKit$Processor;") zw_292) (fun _ h9 => h9) rfl dX6_set_92 ?_
  refine lv_iload_n hx hb dX6_set_95 rfl (lv_at hl 2 rfl) ?_
  refine lv_ldc (v := 65535) hx hb hown (hts (.constant RX6 116 (65535)) zw_712) dX6_set_96 ?_
  refine lv_iand hx hb dX6_set_98 ?_
  refine lv_topi (fun v_1 ev_1 => ?_)
  refine va_putN (D := (dC, dI)) (ci := 4) (v := .int v_1) (ty := .int) (C := RX4) (T := TX4) (N := 11) hx hb hts zx_4 tyX4 tyX4_ok nmX4 hown hK hP hD hS 1 rfl rfl 7 (by decide) (va_Nw.use rfl (nf_18 hN)) (fun _ h9 => h9) rfl (by decide +kernel) rfl rfl (Nat.le_of_ble_eq_true rfl) dX6_set_99 (fun H locs hP hD hS => ?_)
  have hP : va_P (dC, dI) vwCl [(a_k, .inr (6, [.ref a_m, .ref a_t, .ref a_u, .ref a_i, .ref a_p])), (a_p, .inr (4, [.ref a_m, .ref a_t, .ref a_u, .ref a_i, .ref a_o, .ref a_r, .ref a_f, .int v_1, .int pc, .int 0, .int tk])), (a_r, .inl (k_r, 8, .inl (fun _ => 0))), (a_f, .inr (0, [.int 0]))] H := hP
  have hD : va_D A [(a_k, .inr (6, [.ref a_m, .ref a_t, .ref a_u, .ref a_i, .ref a_p])), (a_p, .inr (4, [.ref a_m, .ref a_t, .ref a_u, .ref a_i, .ref a_o, .ref a_r, .ref a_f, .int v_1, .int pc, .int 0, .int tk])), (a_r, .inl (k_r, 8, .inl (fun _ => 0))), (a_f, .inr (0, [.int 0]))] := hD
  refine lv_goto (tgt := 129) hx hb dX6_set_102 (by decide) ?_
  have hP9 := hP.sub (ws' := []) [] rfl
  have hD9 := hD.sub (ws' := []) [] (by decide) rfl
  have hK9 := hK.sub (tys' := []) [] rfl
  exact W.vret hx hb hr (fun t9 ht hW => ⟨⟨(), rfl, trivial, by rw [ht]; exact hP9, va_K.moved hW.alike hK9, hD9⟩, hS.F ht⟩) hS.2.2 dX6_set_129
set_option maxHeartbeats 4000000 in
set_option maxRecDepth 100000 in
/-- set(9, v) -/
theorem c_set9 (l : Launch) (dC : Nat → ClassId) (dI : Nat → Nat → Nat) (a_k : Nat) (a_m : Nat) (a_t : Nat) (a_u : Nat) (a_i : Nat) (a_p : Nat) (a_o : Nat) (a_r : Nat) (a_f : Nat) (k_r : ClassId) (pc : Int32) (tk : Int32) (v : Int32) (sz : Nat) : Met l yX6_set (zq yX6_set cX6_set 3 none) ({ frames := 0, cells := 0, slots := 0, locals := 0 }) (va_Pc [.ref a_k, .int 9, .int v] (zc_P (dC, dI) [(a_k, .inr (6, [.ref a_m, .ref a_t, .ref a_u, .ref a_i, .ref a_p])), (a_p, .inr (4, [.ref a_m, .ref a_t, .ref a_u, .ref a_i, .ref a_o, .ref a_r, .ref a_f, .int 0, .int pc, .int 0, .int tk])), (a_r, .inl (k_r, 8, .inl (fun _ => 0))), (a_f, .inr (0, [.int 0]))] [(k_r, .int)] sz)) (va_Qv (fun _ => True) (fun (u : Unit) t9 => zc_B (dC, dI) (va_A [(a_k, .inr (6, [.ref a_m, .ref a_t, .ref a_u, .ref a_i, .ref a_p])), (a_p, .inr (4, [.ref a_m, .ref a_t, .ref a_u, .ref a_i, .ref a_o, .ref a_r, .ref a_f, .int 0, .int pc, .int 0, .int tk])), (a_r, .inl (k_r, 8, .inl (fun _ => 0))), (a_f, .inr (0, [.int 0]))] sz) [] [] t9) (va_A [(a_k, .inr (6, [.ref a_m, .ref a_t, .ref a_u, .ref a_i, .ref a_p])), (a_p, .inr (4, [.ref a_m, .ref a_t, .ref a_u, .ref a_i, .ref a_o, .ref a_r, .ref a_f, .int 0, .int pc, .int 0, .int tk])), (a_r, .inl (k_r, 8, .inl (fun _ => 0))), (a_f, .inr (0, [.int 0]))] sz)) 0 0 (va_A [(a_k, .inr (6, [.ref a_m, .ref a_t, .ref a_u, .ref a_i, .ref a_p])), (a_p, .inr (4, [.ref a_m, .ref a_t, .ref a_u, .ref a_i, .ref a_o, .ref a_r, .ref a_f, .int 0, .int pc, .int 0, .int tk])), (a_r, .inl (k_r, 8, .inl (fun _ => 0))), (a_f, .inr (0, [.int 0]))] sz) := by
  refine Met.ofW (cc := cX6_set) (maxL := 3) (ret := none) (by decide) rfl ?_
  intro p e s m args below meth c s₁ B hml hv
  obtain ⟨rfl, hsz, hP, hK, hD0, hN⟩ := hv
  have hx := B.exec
  have hb := B.bytes
  have hr := B.returns
  have hts : ∀ w ∈ zw, w.before _ s = true := fun w h => atoms_spec (ws := (zq yX6_set cX6_set 3 none)) B.pre w (List.mem_cons_of_mem _ h)
  have hown : s.vm.findClass RX6 = some m.cls := findClass_of_methodNamed B.named
  have hlocks := B.notSynchronized
  subst hsz
  have hD := hD0.self (sz := s.heap.size)
  generalize hAe : va_A [(a_k, .inr (6, [.ref a_m, .ref a_t, .ref a_u, .ref a_i, .ref a_p])), (a_p, .inr (4, [.ref a_m, .ref a_t, .ref a_u, .ref a_i, .ref a_o, .ref a_r, .ref a_f, .int 0, .int pc, .int 0, .int tk])), (a_r, .inl (k_r, 8, .inl (fun _ => 0))), (a_f, .inr (0, [.int 0]))] s.heap.size = A at hD ⊢
  have hA : ∀ q : Nat, s.heap.size ≤ q → A q := fun q h => by rw [← hAe]; exact Or.inr h
  have hS : va_S A s.heap s.heap [] := va_S.rf
  have hP : va_P (dC, dI) vwCl [(a_k, .inr (6, [.ref a_m, .ref a_t, .ref a_u, .ref a_i, .ref a_p])), (a_p, .inr (4, [.ref a_m, .ref a_t, .ref a_u, .ref a_i, .ref a_o, .ref a_r, .ref a_f, .int 0, .int pc, .int 0, .int tk])), (a_r, .inl (k_r, 8, .inl (fun _ => 0))), (a_f, .inr (0, [.int 0]))] s.heap := hP
  have hl := lv_entry ([.ref a_k, .int 9, .int v]) (n := 3) (Nat.le_of_ble_eq_true rfl)
  rw [lg_entry_eq]
  generalize (lg_sl ([.ref a_k, .int 9, .int v]) ++ List.replicate (3 - (lg_sl ([.ref a_k, .int 9, .int v])).length) Slot.unset).toArray = ls at hl ⊢
  have hl : lv_has ls 3 [(0, .ref a_k), (1, .int 9), (2, .int v)] := hl
  refine lv_iload_n hx hb dX6_set_0 rfl (lv_at hl 1 rfl) ?_
  refine lv_tableIn (off := 104) (tgt := 105) hx hb dX6_set_1 (by decide) (by decide) rfl (by decide) ?_
  refine lv_aload_n hx hb dX6_set_105 rfl (lv_at hl 0 rfl) ?_
  refine va_get (D := (dC, dI)) (ci := 6) (v := .ref a_p) (C := RX6) (T := TX6) (N := 5) hx hb hts zx_6 hown hK hP 0 rfl rfl 4 (by decide) (hts (.fieldLink RX6 39 "KeyboardKit" "processor" "LKeyboardKit$Processor;") zw_292) (fun _ h9 => h9) rfl dX6_set_106 ?_
  refine lv_iload_n hx hb dX6_set_109 rfl (lv_at hl 2 rfl) ?_
  refine lv_ldc (v := 65535) hx hb hown (hts (.constant RX6 116 (65535)) zw_712) dX6_set_110 ?_
  refine lv_iand hx hb dX6_set_112 ?_
  refine lv_topi (fun v_1 ev_1 => ?_)
  refine va_putN (D := (dC, dI)) (ci := 4) (v := .int v_1) (ty := .int) (C := RX4) (T := TX4) (N := 11) hx hb hts zx_4 tyX4 tyX4_ok nmX4 hown hK hP hD hS 1 rfl rfl 8 (by decide) (va_Nw.use rfl (nf_19 hN)) (fun _ h9 => h9) rfl (by decide +kernel) rfl rfl (Nat.le_of_ble_eq_true rfl) dX6_set_113 (fun H locs hP hD hS => ?_)
  have hP : va_P (dC, dI) vwCl [(a_k, .inr (6, [.ref a_m, .ref a_t, .ref a_u, .ref a_i, .ref a_p])), (a_p, .inr (4, [.ref a_m, .ref a_t, .ref a_u, .ref a_i, .ref a_o, .ref a_r, .ref a_f, .int 0, .int v_1, .int 0, .int tk])), (a_r, .inl (k_r, 8, .inl (fun _ => 0))), (a_f, .inr (0, [.int 0]))] H := hP
  have hD : va_D A [(a_k, .inr (6, [.ref a_m, .ref a_t, .ref a_u, .ref a_i, .ref a_p])), (a_p, .inr (4, [.ref a_m, .ref a_t, .ref a_u, .ref a_i, .ref a_o, .ref a_r, .ref a_f, .int 0, .int v_1, .int 0, .int tk])), (a_r, .inl (k_r, 8, .inl (fun _ => 0))), (a_f, .inr (0, [.int 0]))] := hD
  refine lv_goto (tgt := 129) hx hb dX6_set_116 (by decide) ?_
  have hP9 := hP.sub (ws' := []) [] rfl
  have hD9 := hD.sub (ws' := []) [] (by decide) rfl
  have hK9 := hK.sub (tys' := []) [] rfl
  exact W.vret hx hb hr (fun t9 ht hW => ⟨⟨(), rfl, trivial, by rw [ht]; exact hP9, va_K.moved hW.alike hK9, hD9⟩, hS.F ht⟩) hS.2.2 dX6_set_129
