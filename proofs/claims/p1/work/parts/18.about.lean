theorem dX6_about_0 : decode cX6_about 0 = .ok (.iload_n 1, 1) := by decide +kernel
theorem dX6_about_1 : decode cX6_about 1 = .ok (.tableswitch 184 0 14 #[75, 75, 75, 75, 75, 75, 85, 75, 96, 104, 112, 144, 152, 168, 176], 75) := by decide +kernel
theorem dX6_about_101 : decode cX6_about 101 = .ok (.getfield 85, 3) := by decide +kernel
theorem dX6_about_104 : decode cX6_about 104 = .ok (.ireturn, 1) := by decide +kernel
theorem dX6_about_105 : decode cX6_about 105 = .ok (.aload_n 0, 1) := by decide +kernel
theorem dX6_about_106 : decode cX6_about 106 = .ok (.getfield 39, 3) := by decide +kernel
theorem dX6_about_109 : decode cX6_about 109 = .ok (.getfield 88, 3) := by decide +kernel
theorem dX6_about_112 : decode cX6_about 112 = .ok (.ireturn, 1) := by decide +kernel
theorem dX6_about_113 : decode cX6_about 113 = .ok (.aload_n 0, 1) := by decide +kernel
theorem dX6_about_114 : decode cX6_about 114 = .ok (.getfield 30, 3) := by decide +kernel
theorem dX6_about_117 : decode cX6_about 117 = .ok (.getfield 91, 3) := by decide +kernel
theorem dX6_about_120 : decode cX6_about 120 = .ok (.ifCond .eq 7, 3) := by decide +kernel
theorem dX6_about_127 : decode cX6_about 127 = .ok (.iconst 0, 1) := by decide +kernel
theorem dX6_about_128 : decode cX6_about 128 = .ok (.aload_n 0, 1) := by decide +kernel
theorem dX6_about_129 : decode cX6_about 129 = .ok (.getfield 39, 3) := by decide +kernel
theorem dX6_about_132 : decode cX6_about 132 = .ok (.getfield 94, 3) := by decide +kernel
theorem dX6_about_135 : decode cX6_about 135 = .ok (.ifCond .eq 7, 3) := by decide +kernel
theorem dX6_about_142 : decode cX6_about 142 = .ok (.iconst 0, 1) := by decide +kernel
theorem dX6_about_143 : decode cX6_about 143 = .ok (.iadd, 1) := by decide +kernel
theorem dX6_about_144 : decode cX6_about 144 = .ok (.ireturn, 1) := by decide +kernel
theorem dX6_about_145 : decode cX6_about 145 = .ok (.aload_n 0, 1) := by decide +kernel
theorem dX6_about_146 : decode cX6_about 146 = .ok (.getfield 30, 3) := by decide +kernel
theorem dX6_about_149 : decode cX6_about 149 = .ok (.getfield 97, 3) := by decide +kernel
theorem dX6_about_152 : decode cX6_about 152 = .ok (.ireturn, 1) := by decide +kernel
theorem dX6_about_153 : decode cX6_about 153 = .ok (.aload_n 0, 1) := by decide +kernel
theorem dX6_about_154 : decode cX6_about 154 = .ok (.getfield 30, 3) := by decide +kernel
theorem dX6_about_157 : decode cX6_about 157 = .ok (.getfield 100, 3) := by decide +kernel
theorem dX6_about_160 : decode cX6_about 160 = .ok (.ifCond .eq 7, 3) := by decide +kernel
theorem dX6_about_167 : decode cX6_about 167 = .ok (.iconst 0, 1) := by decide +kernel
theorem dX6_about_168 : decode cX6_about 168 = .ok (.ireturn, 1) := by decide +kernel
theorem dX6_about_169 : decode cX6_about 169 = .ok (.aload_n 0, 1) := by decide +kernel
theorem dX6_about_170 : decode cX6_about 170 = .ok (.getfield 16, 3) := by decide +kernel
theorem dX6_about_173 : decode cX6_about 173 = .ok (.getfield 103, 3) := by decide +kernel
theorem dX6_about_176 : decode cX6_about 176 = .ok (.ireturn, 1) := by decide +kernel
theorem dX6_about_177 : decode cX6_about 177 = .ok (.aload_n 0, 1) := by decide +kernel
theorem dX6_about_178 : decode cX6_about 178 = .ok (.getfield 23, 3) := by decide +kernel
theorem dX6_about_181 : decode cX6_about 181 = .ok (.invokevirtual 106, 3) := by decide +kernel
theorem dX6_about_184 : decode cX6_about 184 = .ok (.ireturn, 1) := by decide +kernel
theorem dX6_about_76 : decode cX6_about 76 = .ok (.aload_n 0, 1) := by decide +kernel
theorem dX6_about_77 : decode cX6_about 77 = .ok (.getfield 39, 3) := by decide +kernel
theorem dX6_about_80 : decode cX6_about 80 = .ok (.getfield 72, 3) := by decide +kernel
theorem dX6_about_83 : decode cX6_about 83 = .ok (.iload_n 1, 1) := by decide +kernel
theorem dX6_about_84 : decode cX6_about 84 = .ok (.iaload, 1) := by decide +kernel
theorem dX6_about_85 : decode cX6_about 85 = .ok (.ireturn, 1) := by decide +kernel
theorem dX6_about_86 : decode cX6_about 86 = .ok (.aload_n 0, 1) := by decide +kernel
theorem dX6_about_87 : decode cX6_about 87 = .ok (.getfield 39, 3) := by decide +kernel
theorem dX6_about_90 : decode cX6_about 90 = .ok (.getfield 75, 3) := by decide +kernel
theorem dX6_about_93 : decode cX6_about 93 = .ok (.getfield 79, 3) := by decide +kernel
theorem dX6_about_96 : decode cX6_about 96 = .ok (.ireturn, 1) := by decide +kernel
theorem dX6_about_97 : decode cX6_about 97 = .ok (.aload_n 0, 1) := by decide +kernel
theorem dX6_about_98 : decode cX6_about 98 = .ok (.getfield 39, 3) := by decide +kernel
set_option maxHeartbeats 4000000 in
set_option maxRecDepth 100000 in
/-- about(0) -/
theorem c_about0 (l : Launch) (dC : Nat → ClassId) (dI : Nat → Nat → Nat) (a_k : Nat) (a_m : Nat) (a_t : Nat) (a_u : Nat) (a_i : Nat) (a_p : Nat) (a_o : Nat) (a_r : Nat) (a_f : Nat) (a_d : Nat) (a_b : Nat) (a_c : Nat) (a_q : Nat) (a_s : Nat) (k_r : ClassId) (tk : Int32) (t : Int32) (sz : Nat) : Met l yX6_about (zq yX6_about cX6_about 2 (some .int)) ({ frames := 1, cells := 0, slots := 0, locals := 20 }) (va_Pc [.ref a_k, .int 0] (zc_P (dC, dI) [(a_k, .inr (6, [.ref a_m, .ref a_t, .ref a_u, .ref a_i, .ref a_p])), (a_t, .inr (5, [.int 0, .int 0, .int 0, .int 0, .int 0, .int 0, .int 0])), (a_u, .inr (2, [.ref a_d, .ref a_b, .ref a_c, .ref a_q, .int 0, .int 0, .int 0, .int 0, .ref a_s, .int 0, .int t])), (a_i, .inr (1, [.int 0, .int 0, .int 7, .int 0, .int 0, .int 0, .int 0])), (a_p, .inr (4, [.ref a_m, .ref a_t, .ref a_u, .ref a_i, .ref a_o, .ref a_r, .ref a_f, .int 0, .int 0, .int 0, .int tk])), (a_r, .inl (k_r, 8, .inl (fun _ => 0))), (a_f, .inr (0, [.int 0]))] [(k_r, .int)] sz)) (va_Qi (fun r _ => r = 0) (fun (u : Unit) t9 => zc_B (dC, dI) (va_A [(a_k, .inr (6, [.ref a_m, .ref a_t, .ref a_u, .ref a_i, .ref a_p])), (a_t, .inr (5, [.int 0, .int 0, .int 0, .int 0, .int 0, .int 0, .int 0])), (a_u, .inr (2, [.ref a_d, .ref a_b, .ref a_c, .ref a_q, .int 0, .int 0, .int 0, .int 0, .ref a_s, .int 0, .int t])), (a_i, .inr (1, [.int 0, .int 0, .int 7, .int 0, .int 0, .int 0, .int 0])), (a_p, .inr (4, [.ref a_m, .ref a_t, .ref a_u, .ref a_i, .ref a_o, .ref a_r, .ref a_f, .int 0, .int 0, .int 0, .int tk])), (a_r, .inl (k_r, 8, .inl (fun _ => 0))), (a_f, .inr (0, [.int 0]))] sz) [] [] t9) (va_A [(a_k, .inr (6, [.ref a_m, .ref a_t, .ref a_u, .ref a_i, .ref a_p])), (a_t, .inr (5, [.int 0, .int 0, .int 0, .int 0, .int 0, .int 0, .int 0])), (a_u, .inr (2, [.ref a_d, .ref a_b, .ref a_c, .ref a_q, .int 0, .int 0, .int 0, .int 0, .ref a_s, .int 0, .int t])), (a_i, .inr (1, [.int 0, .int 0, .int 7, .int 0, .int 0, .int 0, .int 0])), (a_p, .inr (4, [.ref a_m, .ref a_t, .ref a_u, .ref a_i, .ref a_o, .ref a_r, .ref a_f, .int 0, .int 0, .int 0, .int tk])), (a_r, .inl (k_r, 8, .inl (fun _ => 0))), (a_f, .inr (0, [.int 0]))] sz)) 0 0 (va_A [(a_k, .inr (6, [.ref a_m, .ref a_t, .ref a_u, .ref a_i, .ref a_p])), (a_t, .inr (5, [.int 0, .int 0, .int 0, .int 0, .int 0, .int 0, .int 0])), (a_u, .inr (2, [.ref a_d, .ref a_b, .ref a_c, .ref a_q, .int 0, .int 0, .int 0, .int 0, .ref a_s, .int 0, .int t])), (a_i, .inr (1, [.int 0, .int 0, .int 7, .int 0, .int 0, .int 0, .int 0])), (a_p, .inr (4, [.ref a_m, .ref a_t, .ref a_u, .ref a_i, .ref a_o, .ref a_r, .ref a_f, .int 0, .int 0, .int 0, .int tk])), (a_r, .inl (k_r, 8, .inl (fun _ => 0))), (a_f, .inr (0, [.int 0]))] sz) := by
  refine Met.ofW (cc := cX6_about) (maxL := 2) (ret := (some .int)) (by decide) rfl ?_
  intro p e s m args below meth c s₁ B hml hv
  obtain ⟨rfl, hsz, hP, hK, hD0, hN⟩ := hv
  have hx := B.exec
  have hb := B.bytes
  have hr := B.returns
  have hts : ∀ w ∈ zw, w.before _ s = true := fun w h => atoms_spec (ws := (zq yX6_about cX6_about 2 (some .int))) B.pre w (List.mem_cons_of_mem _ h)
  have hown : s.vm.findClass RX6 = some m.cls := findClass_of_methodNamed B.named
  have hlocks := B.notSynchronized
  subst hsz
  have hD := hD0.self (sz := s.heap.size)
  generalize hAe : va_A [(a_k, .inr (6, [.ref a_m, .ref a_t, .ref a_u, .ref a_i, .ref a_p])), (a_t, .inr (5, [.int 0, .int 0, .int 0, .int 0, .int 0, .int 0, .int 0])), (a_u, .inr (2, [.ref a_d, .ref a_b, .ref a_c, .ref a_q, .int 0, .int 0, .int 0, .int 0, .ref a_s, .int 0, .int t])), (a_i, .inr (1, [.int 0, .int 0, .int 7, .int 0, .int 0, .int 0, .int 0])), (a_p, .inr (4, [.ref a_m, .ref a_t, .ref a_u, .ref a_i, .ref a_o, .ref a_r, .ref a_f, .int 0, .int 0, .int 0, .int tk])), (a_r, .inl (k_r, 8, .inl (fun _ => 0))), (a_f, .inr (0, [.int 0]))] s.heap.size = A at hD ⊢
  have hA : ∀ q : Nat, s.heap.size ≤ q → A q := fun q h => by rw [← hAe]; exact Or.inr h
  have hS : va_S A s.heap s.heap [] := va_S.rf
  have hP : va_P (dC, dI) vwCl [(a_k, .inr (6, [.ref a_m, .ref a_t, .ref a_u, .ref a_i, .ref a_p])), (a_t, .inr (5, [.int 0, .int 0, .int 0, .int 0, .int 0, .int 0, .int 0])), (a_u, .inr (2, [.ref a_d, .ref a_b, .ref a_c, .ref a_q, .int 0, .int 0, .int 0, .int 0, .ref a_s, .int 0, .int t])), (a_i, .inr (1, [.int 0, .int 0, .int 7, .int 0, .int 0, .int 0, .int 0])), (a_p, .inr (4, [.ref a_m, .ref a_t, .ref a_u, .ref a_i, .ref a_o, .ref a_r, .ref a_f, .int 0, .int 0, .int 0, .int tk])), (a_r, .inl (k_r, 8, .inl (fun _ => 0))), (a_f, .inr (0, [.int 0]))] s.heap := hP
  have hl := lv_entry ([.ref a_k, .int 0]) (n := 2) (Nat.le_of_ble_eq_true rfl)
  rw [lg_entry_eq]
  generalize (lg_sl ([.ref a_k, .int 0]) ++ List.replicate (2 - (lg_sl ([.ref a_k, .int 0])).length) Slot.unset).toArray = ls at hl ⊢
  have hl : lv_has ls 2 [(0, .ref a_k), (1, .int 0)] := hl
  refine lv_iload_n hx hb dX6_about_0 rfl (lv_at hl 1 rfl) ?_
  refine lv_tableIn (off := 75) (tgt := 76) hx hb dX6_about_1 (by decide) (by decide) rfl (by decide) ?_
  refine lv_aload_n hx hb dX6_about_76 rfl (lv_at hl 0 rfl) ?_
  refine va_get (D := (dC, dI)) (ci := 6) (v := .ref a_p) (C := RX6) (T := TX6) (N := 5) hx hb hts zx_6 hown hK hP 0 rfl rfl 4 (by decide) (hts (.fieldLink RX6 39 "KeyboardKit" "processor" "LKeyboardKit$Processor;") zw_292) (fun _ h9 => h9) rfl dX6_about_77 ?_
  refine va_getN (D := (dC, dI)) (ci := 4) (v := .ref a_r) (C := RX4) (T := TX4) (N := 11) hx hb hts zx_4 hown hK hP 4 rfl rfl 5 (by decide) (va_Nw.use rfl (nf_16 hN)) (fun _ h9 => h9) rfl dX6_about_80 ?_
  refine lv_iload_n hx hb dX6_about_83 rfl (lv_at hl 1 rfl) ?_
  refine va_iald hx hb hK hP 5 0 rfl rfl (show ¬ ((0 : Int32) < 0 ∨ 8 ≤ (0 : Int32).toNatClampNeg) by decide) dX6_about_84 ?_
  refine lv_topi (fun v_1 ev_1 => ?_)
  obtain rfl : v_1 = 0 := ev_1.trans rfl
  have hP9 := hP.sub (ws' := []) [] rfl
  have hD9 := hD.sub (ws' := []) [] (by decide) rfl
  have hK9 := hK.sub (tys' := []) [] rfl
  exact W.iret (v := 0) hx hb hr (fun t9 ht hW => ⟨⟨0, (), rfl, rfl, by rw [ht]; exact hP9, va_K.moved hW.alike hK9, hD9⟩, hS.F ht⟩) hS.2.2 dX6_about_85
set_option maxHeartbeats 4000000 in
set_option maxRecDepth 100000 in
/-- about(1) -/
theorem c_about1 (l : Launch) (dC : Nat → ClassId) (dI : Nat → Nat → Nat) (a_k : Nat) (a_m : Nat) (a_t : Nat) (a_u : Nat) (a_i : Nat) (a_p : Nat) (a_o : Nat) (a_r : Nat) (a_f : Nat) (a_d : Nat) (a_b : Nat) (a_c : Nat) (a_q : Nat) (a_s : Nat) (k_r : ClassId) (tk : Int32) (t : Int32) (sz : Nat) : Met l yX6_about (zq yX6_about cX6_about 2 (some .int)) ({ frames := 1, cells := 0, slots := 0, locals := 20 }) (va_Pc [.ref a_k, .int 1] (zc_P (dC, dI) [(a_k, .inr (6, [.ref a_m, .ref a_t, .ref a_u, .ref a_i, .ref a_p])), (a_t, .inr (5, [.int 0, .int 0, .int 0, .int 0, .int 0, .int 0, .int 0])), (a_u, .inr (2, [.ref a_d, .ref a_b, .ref a_c, .ref a_q, .int 0, .int 0, .int 0, .int 0, .ref a_s, .int 0, .int t])), (a_i, .inr (1, [.int 0, .int 0, .int 7, .int 0, .int 0, .int 0, .int 0])), (a_p, .inr (4, [.ref a_m, .ref a_t, .ref a_u, .ref a_i, .ref a_o, .ref a_r, .ref a_f, .int 0, .int 0, .int 0, .int tk])), (a_r, .inl (k_r, 8, .inl (fun _ => 0))), (a_f, .inr (0, [.int 0]))] [(k_r, .int)] sz)) (va_Qi (fun r _ => r = 0) (fun (u : Unit) t9 => zc_B (dC, dI) (va_A [(a_k, .inr (6, [.ref a_m, .ref a_t, .ref a_u, .ref a_i, .ref a_p])), (a_t, .inr (5, [.int 0, .int 0, .int 0, .int 0, .int 0, .int 0, .int 0])), (a_u, .inr (2, [.ref a_d, .ref a_b, .ref a_c, .ref a_q, .int 0, .int 0, .int 0, .int 0, .ref a_s, .int 0, .int t])), (a_i, .inr (1, [.int 0, .int 0, .int 7, .int 0, .int 0, .int 0, .int 0])), (a_p, .inr (4, [.ref a_m, .ref a_t, .ref a_u, .ref a_i, .ref a_o, .ref a_r, .ref a_f, .int 0, .int 0, .int 0, .int tk])), (a_r, .inl (k_r, 8, .inl (fun _ => 0))), (a_f, .inr (0, [.int 0]))] sz) [] [] t9) (va_A [(a_k, .inr (6, [.ref a_m, .ref a_t, .ref a_u, .ref a_i, .ref a_p])), (a_t, .inr (5, [.int 0, .int 0, .int 0, .int 0, .int 0, .int 0, .int 0])), (a_u, .inr (2, [.ref a_d, .ref a_b, .ref a_c, .ref a_q, .int 0, .int 0, .int 0, .int 0, .ref a_s, .int 0, .int t])), (a_i, .inr (1, [.int 0, .int 0, .int 7, .int 0, .int 0, .int 0, .int 0])), (a_p, .inr (4, [.ref a_m, .ref a_t, .ref a_u, .ref a_i, .ref a_o, .ref a_r, .ref a_f, .int 0, .int 0, .int 0, .int tk])), (a_r, .inl (k_r, 8, .inl (fun _ => 0))), (a_f, .inr (0, [.int 0]))] sz)) 0 0 (va_A [(a_k, .inr (6, [.ref a_m, .ref a_t, .ref a_u, .ref a_i, .ref a_p])), (a_t, .inr (5, [.int 0, .int 0, .int 0, .int 0, .int 0, .int 0, .int 0])), (a_u, .inr (2, [.ref a_d, .ref a_b, .ref a_c, .ref a_q, .int 0, .int 0, .int 0, .int 0, .ref a_s, .int 0, .int t])), (a_i, .inr (1, [.int 0, .int 0, .int 7, .int 0, .int 0, .int 0, .int 0])), (a_p, .inr (4, [.ref a_m, .ref a_t, .ref a_u, .ref a_i, .ref a_o, .ref a_r, .ref a_f, .int 0, .int 0, .int 0, .int tk])), (a_r, .inl (k_r, 8, .inl (fun _ => 0))), (a_f, .inr (0, [.int 0]))] sz) := by
  refine Met.ofW (cc := cX6_about) (maxL := 2) (ret := (some .int)) (by decide) rfl ?_
  intro p e s m args below meth c s₁ B hml hv
  obtain ⟨rfl, hsz, hP, hK, hD0, hN⟩ := hv
  have hx := B.exec
  have hb := B.bytes
  have hr := B.returns
  have hts : ∀ w ∈ zw, w.before _ s = true := fun w h => atoms_spec (ws := (zq yX6_about cX6_about 2 (some .int))) B.pre w (List.mem_cons_of_mem _ h)
  have hown : s.vm.findClass RX6 = some m.cls := findClass_of_methodNamed B.named
  have hlocks := B.notSynchronized
  subst hsz
  have hD := hD0.self (sz := s.heap.size)
  generalize hAe : va_A [(a_k, .inr (6, [.ref a_m, .ref a_t, .ref a_u, .ref a_i, .ref a_p])), (a_t, .inr (5, [.int 0, .int 0, .int 0, .int 0, .int 0, .int 0, .int 0])), (a_u, .inr (2, [.ref a_d, .ref a_b, .ref a_c, .ref a_q, .int 0, .int 0, .int 0, .int 0, .ref a_s, .int 0, .int t])), (a_i, .inr (1, [.int 0, .int 0, .int 7, .int 0, .int 0, .int 0, .int 0])), (a_p, .inr (4, [.ref a_m, .ref a_t, .ref a_u, .ref a_i, .ref a_o, .ref a_r, .ref a_f, .int 0, .int 0, .int 0, .int tk])), (a_r, .inl (k_r, 8, .inl (fun _ => 0))), (a_f, .inr (0, [.int 0]))] s.heap.size = A at hD ⊢
  have hA : ∀ q : Nat, s.heap.size ≤ q → A q := fun q h => by rw [← hAe]; exact Or.inr h
  have hS : va_S A s.heap s.heap [] := va_S.rf
  have hP : va_P (dC, dI) vwCl [(a_k, .inr (6, [.ref a_m, .ref a_t, .ref a_u, .ref a_i, .ref a_p])), (a_t, .inr (5, [.int 0, .int 0, .int 0, .int 0, .int 0, .int 0, .int 0])), (a_u, .inr (2, [.ref a_d, .ref a_b, .ref a_c, .ref a_q, .int 0, .int 0, .int 0, .int 0, .ref a_s, .int 0, .int t])), (a_i, .inr (1, [.int 0, .int 0, .int 7, .int 0, .int 0, .int 0, .int 0])), (a_p, .inr (4, [.ref a_m, .ref a_t, .ref a_u, .ref a_i, .ref a_o, .ref a_r, .ref a_f, .int 0, .int 0, .int 0, .int tk])), (a_r, .inl (k_r, 8, .inl (fun _ => 0))), (a_f, .inr (0, [.int 0]))] s.heap := hP
  have hl := lv_entry ([.ref a_k, .int 1]) (n := 2) (Nat.le_of_ble_eq_true rfl)
  rw [lg_entry_eq]
  generalize (lg_sl ([.ref a_k, .int 1]) ++ List.replicate (2 - (lg_sl ([.ref a_k, .int 1])).length) Slot.unset).toArray = ls at hl ⊢
  have hl : lv_has ls 2 [(0, .ref a_k), (1, .int 1)] := hl
  refine lv_iload_n hx hb dX6_about_0 rfl (lv_at hl 1 rfl) ?_
  refine lv_tableIn (off := 75) (tgt := 76) hx hb dX6_about_1 (by decide) (by decide) rfl (by decide) ?_
  refine lv_aload_n hx hb dX6_about_76 rfl (lv_at hl 0 rfl) ?_
  refine va_get (D := (dC, dI)) (ci := 6) (v := .ref a_p) (C := RX6) (T := TX6) (N := 5) hx hb hts zx_6 hown hK hP 0 rfl rfl 4 (by decide) (hts (.fieldLink RX6 39 "KeyboardKit" "processor" "LKeyboardKit$Processor;") zw_292) (fun _ h9 => h9) rfl dX6_about_77 ?_
  refine va_getN (D := (dC, dI)) (ci := 4) (v := .ref a_r) (C := RX4) (T := TX4) (N := 11) hx hb hts zx_4 hown hK hP 4 rfl rfl 5 (by decide) (va_Nw.use rfl (nf_16 hN)) (fun _ h9 => h9) rfl dX6_about_80 ?_
  refine lv_iload_n hx hb dX6_about_83 rfl (lv_at hl 1 rfl) ?_
  refine va_iald hx hb hK hP 5 0 rfl rfl (show ¬ ((1 : Int32) < 0 ∨ 8 ≤ (1 : Int32).toNatClampNeg) by decide) dX6_about_84 ?_
  refine lv_topi (fun v_1 ev_1 => ?_)
  obtain rfl : v_1 = 0 := ev_1.trans rfl
  have hP9 := hP.sub (ws' := []) [] rfl
  have hD9 := hD.sub (ws' := []) [] (by decide) rfl
  have hK9 := hK.sub (tys' := []) [] rfl
  exact W.iret (v := 0) hx hb hr (fun t9 ht hW => ⟨⟨0, (), rfl, rfl, by rw [ht]; exact hP9, va_K.moved hW.alike hK9, hD9⟩, hS.F ht⟩) hS.2.2 dX6_about_85
set_option maxHeartbeats 4000000 in
set_option maxRecDepth 100000 in
/-- about(2) -/
theorem c_about2 (l : Launch) (dC : Nat → ClassId) (dI : Nat → Nat → Nat) (a_k : Nat) (a_m : Nat) (a_t : Nat) (a_u : Nat) (a_i : Nat) (a_p : Nat) (a_o : Nat) (a_r : Nat) (a_f : Nat) (a_d : Nat) (a_b : Nat) (a_c : Nat) (a_q : Nat) (a_s : Nat) (k_r : ClassId) (tk : Int32) (t : Int32) (sz : Nat) : Met l yX6_about (zq yX6_about cX6_about 2 (some .int)) ({ frames := 1, cells := 0, slots := 0, locals := 20 }) (va_Pc [.ref a_k, .int 2] (zc_P (dC, dI) [(a_k, .inr (6, [.ref a_m, .ref a_t, .ref a_u, .ref a_i, .ref a_p])), (a_t, .inr (5, [.int 0, .int 0, .int 0, .int 0, .int 0, .int 0, .int 0])), (a_u, .inr (2, [.ref a_d, .ref a_b, .ref a_c, .ref a_q, .int 0, .int 0, .int 0, .int 0, .ref a_s, .int 0, .int t])), (a_i, .inr (1, [.int 0, .int 0, .int 7, .int 0, .int 0, .int 0, .int 0])), (a_p, .inr (4, [.ref a_m, .ref a_t, .ref a_u, .ref a_i, .ref a_o, .ref a_r, .ref a_f, .int 0, .int 0, .int 0, .int tk])), (a_r, .inl (k_r, 8, .inl (fun _ => 0))), (a_f, .inr (0, [.int 0]))] [(k_r, .int)] sz)) (va_Qi (fun r _ => r = 0) (fun (u : Unit) t9 => zc_B (dC, dI) (va_A [(a_k, .inr (6, [.ref a_m, .ref a_t, .ref a_u, .ref a_i, .ref a_p])), (a_t, .inr (5, [.int 0, .int 0, .int 0, .int 0, .int 0, .int 0, .int 0])), (a_u, .inr (2, [.ref a_d, .ref a_b, .ref a_c, .ref a_q, .int 0, .int 0, .int 0, .int 0, .ref a_s, .int 0, .int t])), (a_i, .inr (1, [.int 0, .int 0, .int 7, .int 0, .int 0, .int 0, .int 0])), (a_p, .inr (4, [.ref a_m, .ref a_t, .ref a_u, .ref a_i, .ref a_o, .ref a_r, .ref a_f, .int 0, .int 0, .int 0, .int tk])), (a_r, .inl (k_r, 8, .inl (fun _ => 0))), (a_f, .inr (0, [.int 0]))] sz) [] [] t9) (va_A [(a_k, .inr (6, [.ref a_m, .ref a_t, .ref a_u, .ref a_i, .ref a_p])), (a_t, .inr (5, [.int 0, .int 0, .int 0, .int 0, .int 0, .int 0, .int 0])), (a_u, .inr (2, [.ref a_d, .ref a_b, .ref a_c, .ref a_q, .int 0, .int 0, .int 0, .int 0, .ref a_s, .int 0, .int t])), (a_i, .inr (1, [.int 0, .int 0, .int 7, .int 0, .int 0, .int 0, .int 0])), (a_p, .inr (4, [.ref a_m, .ref a_t, .ref a_u, .ref a_i, .ref a_o, .ref a_r, .ref a_f, .int 0, .int 0, .int 0, .int tk])), (a_r, .inl (k_r, 8, .inl (fun _ => 0))), (a_f, .inr (0, [.int 0]))] sz)) 0 0 (va_A [(a_k, .inr (6, [.ref a_m, .ref a_t, .ref a_u, .ref a_i, .ref a_p])), (a_t, .inr (5, [.int 0, .int 0, .int 0, .int 0, .int 0, .int 0, .int 0])), (a_u, .inr (2, [.ref a_d, .ref a_b, .ref a_c, .ref a_q, .int 0, .int 0, .int 0, .int 0, .ref a_s, .int 0, .int t])), (a_i, .inr (1, [.int 0, .int 0, .int 7, .int 0, .int 0, .int 0, .int 0])), (a_p, .inr (4, [.ref a_m, .ref a_t, .ref a_u, .ref a_i, .ref a_o, .ref a_r, .ref a_f, .int 0, .int 0, .int 0, .int tk])), (a_r, .inl (k_r, 8, .inl (fun _ => 0))), (a_f, .inr (0, [.int 0]))] sz) := by
  refine Met.ofW (cc := cX6_about) (maxL := 2) (ret := (some .int)) (by decide) rfl ?_
  intro p e s m args below meth c s₁ B hml hv
  obtain ⟨rfl, hsz, hP, hK, hD0, hN⟩ := hv
  have hx := B.exec
  have hb := B.bytes
  have hr := B.returns
  have hts : ∀ w ∈ zw, w.before _ s = true := fun w h => atoms_spec (ws := (zq yX6_about cX6_about 2 (some .int))) B.pre w (List.mem_cons_of_mem _ h)
  have hown : s.vm.findClass RX6 = some m.cls := findClass_of_methodNamed B.named
  have hlocks := B.notSynchronized
  subst hsz
  have hD := hD0.self (sz := s.heap.size)
  generalize hAe : va_A [(a_k, .inr (6, [.ref a_m, .ref a_t, .ref a_u, .ref a_i, .ref a_p])), (a_t, .inr (5, [.int 0, .int 0, .int 0, .int 0, .int 0, .int 0, .int 0])), (a_u, .inr (2, [.ref a_d, .ref a_b, .ref a_c, .ref a_q, .int 0, .int 0, .int 0, .int 0, .ref a_s, .int 0, .int t])), (a_i, .inr (1, [.int 0, .int 0, .int 7, .int 0, .int 0, .int 0, .int 0])), (a_p, .inr (4, [.ref a_m, .ref a_t, .ref a_u, .ref a_i, .ref a_o, .ref a_r, .ref a_f, .int 0, .int 0, .int 0, .int tk])), (a_r, .inl (k_r, 8, .inl (fun _ => 0))), (a_f, .inr (0, [.int 0]))] s.heap.size = A at hD ⊢
  have hA : ∀ q : Nat, s.heap.size ≤ q → A q := fun q h => by rw [← hAe]; exact Or.inr h
  have hS : va_S A s.heap s.heap [] := va_S.rf
  have hP : va_P (dC, dI) vwCl [(a_k, .inr (6, [.ref a_m, .ref a_t, .ref a_u, .ref a_i, .ref a_p])), (a_t, .inr (5, [.int 0, .int 0, .int 0, .int 0, .int 0, .int 0, .int 0])), (a_u, .inr (2, [.ref a_d, .ref a_b, .ref a_c, .ref a_q, .int 0, .int 0, .int 0, .int 0, .ref a_s, .int 0, .int t])), (a_i, .inr (1, [.int 0, .int 0, .int 7, .int 0, .int 0, .int 0, .int 0])), (a_p, .inr (4, [.ref a_m, .ref a_t, .ref a_u, .ref a_i, .ref a_o, .ref a_r, .ref a_f, .int 0, .int 0, .int 0, .int tk])), (a_r, .inl (k_r, 8, .inl (fun _ => 0))), (a_f, .inr (0, [.int 0]))] s.heap := hP
  have hl := lv_entry ([.ref a_k, .int 2]) (n := 2) (Nat.le_of_ble_eq_true rfl)
  rw [lg_entry_eq]
  generalize (lg_sl ([.ref a_k, .int 2]) ++ List.replicate (2 - (lg_sl ([.ref a_k, .int 2])).length) Slot.unset).toArray = ls at hl ⊢
  have hl : lv_has ls 2 [(0, .ref a_k), (1, .int 2)] := hl
  refine lv_iload_n hx hb dX6_about_0 rfl (lv_at hl 1 rfl) ?_
  refine lv_tableIn (off := 75) (tgt := 76) hx hb dX6_about_1 (by decide) (by decide) rfl (by decide) ?_
  refine lv_aload_n hx hb dX6_about_76 rfl (lv_at hl 0 rfl) ?_
  refine va_get (D := (dC, dI)) (ci := 6) (v := .ref a_p) (C := RX6) (T := TX6) (N := 5) hx hb hts zx_6 hown hK hP 0 rfl rfl 4 (by decide) (hts (.fieldLink RX6 39 "KeyboardKit" "processor" "LKeyboardKit$Processor;") zw_292) (fun _ h9 => h9) rfl dX6_about_77 ?_
  refine va_getN (D := (dC, dI)) (ci := 4) (v := .ref a_r) (C := RX4) (T := TX4) (N := 11) hx hb hts zx_4 hown hK hP 4 rfl rfl 5 (by decide) (va_Nw.use rfl (nf_16 hN)) (fun _ h9 => h9) rfl dX6_about_80 ?_
  refine lv_iload_n hx hb dX6_about_83 rfl (lv_at hl 1 rfl) ?_
  refine va_iald hx hb hK hP 5 0 rfl rfl (show ¬ ((2 : Int32) < 0 ∨ 8 ≤ (2 : Int32).toNatClampNeg) by decide) dX6_about_84 ?_
  refine lv_topi (fun v_1 ev_1 => ?_)
  obtain rfl : v_1 = 0 := ev_1.trans rfl
  have hP9 := hP.sub (ws' := []) [] rfl
  have hD9 := hD.sub (ws' := []) [] (by decide) rfl
  have hK9 := hK.sub (tys' := []) [] rfl
  exact W.iret (v := 0) hx hb hr (fun t9 ht hW => ⟨⟨0, (), rfl, rfl, by rw [ht]; exact hP9, va_K.moved hW.alike hK9, hD9⟩, hS.F ht⟩) hS.2.2 dX6_about_85
set_option maxHeartbeats 4000000 in
set_option maxRecDepth 100000 in
/-- about(3) -/
theorem c_about3 (l : Launch) (dC : Nat → ClassId) (dI : Nat → Nat → Nat) (a_k : Nat) (a_m : Nat) (a_t : Nat) (a_u : Nat) (a_i : Nat) (a_p : Nat) (a_o : Nat) (a_r : Nat) (a_f : Nat) (a_d : Nat) (a_b : Nat) (a_c : Nat) (a_q : Nat) (a_s : Nat) (k_r : ClassId) (tk : Int32) (t : Int32) (sz : Nat) : Met l yX6_about (zq yX6_about cX6_about 2 (some .int)) ({ frames := 1, cells := 0, slots := 0, locals := 20 }) (va_Pc [.ref a_k, .int 3] (zc_P (dC, dI) [(a_k, .inr (6, [.ref a_m, .ref a_t, .ref a_u, .ref a_i, .ref a_p])), (a_t, .inr (5, [.int 0, .int 0, .int 0, .int 0, .int 0, .int 0, .int 0])), (a_u, .inr (2, [.ref a_d, .ref a_b, .ref a_c, .ref a_q, .int 0, .int 0, .int 0, .int 0, .ref a_s, .int 0, .int t])), (a_i, .inr (1, [.int 0, .int 0, .int 7, .int 0, .int 0, .int 0, .int 0])), (a_p, .inr (4, [.ref a_m, .ref a_t, .ref a_u, .ref a_i, .ref a_o, .ref a_r, .ref a_f, .int 0, .int 0, .int 0, .int tk])), (a_r, .inl (k_r, 8, .inl (fun _ => 0))), (a_f, .inr (0, [.int 0]))] [(k_r, .int)] sz)) (va_Qi (fun r _ => r = 0) (fun (u : Unit) t9 => zc_B (dC, dI) (va_A [(a_k, .inr (6, [.ref a_m, .ref a_t, .ref a_u, .ref a_i, .ref a_p])), (a_t, .inr (5, [.int 0, .int 0, .int 0, .int 0, .int 0, .int 0, .int 0])), (a_u, .inr (2, [.ref a_d, .ref a_b, .ref a_c, .ref a_q, .int 0, .int 0, .int 0, .int 0, .ref a_s, .int 0, .int t])), (a_i, .inr (1, [.int 0, .int 0, .int 7, .int 0, .int 0, .int 0, .int 0])), (a_p, .inr (4, [.ref a_m, .ref a_t, .ref a_u, .ref a_i, .ref a_o, .ref a_r, .ref a_f, .int 0, .int 0, .int 0, .int tk])), (a_r, .inl (k_r, 8, .inl (fun _ => 0))), (a_f, .inr (0, [.int 0]))] sz) [] [] t9) (va_A [(a_k, .inr (6, [.ref a_m, .ref a_t, .ref a_u, .ref a_i, .ref a_p])), (a_t, .inr (5, [.int 0, .int 0, .int 0, .int 0, .int 0, .int 0, .int 0])), (a_u, .inr (2, [.ref a_d, .ref a_b, .ref a_c, .ref a_q, .int 0, .int 0, .int 0, .int 0, .ref a_s, .int 0, .int t])), (a_i, .inr (1, [.int 0, .int 0, .int 7, .int 0, .int 0, .int 0, .int 0])), (a_p, .inr (4, [.ref a_m, .ref a_t, .ref a_u, .ref a_i, .ref a_o, .ref a_r, .ref a_f, .int 0, .int 0, .int 0, .int tk])), (a_r, .inl (k_r, 8, .inl (fun _ => 0))), (a_f, .inr (0, [.int 0]))] sz)) 0 0 (va_A [(a_k, .inr (6, [.ref a_m, .ref a_t, .ref a_u, .ref a_i, .ref a_p])), (a_t, .inr (5, [.int 0, .int 0, .int 0, .int 0, .int 0, .int 0, .int 0])), (a_u, .inr (2, [.ref a_d, .ref a_b, .ref a_c, .ref a_q, .int 0, .int 0, .int 0, .int 0, .ref a_s, .int 0, .int t])), (a_i, .inr (1, [.int 0, .int 0, .int 7, .int 0, .int 0, .int 0, .int 0])), (a_p, .inr (4, [.ref a_m, .ref a_t, .ref a_u, .ref a_i, .ref a_o, .ref a_r, .ref a_f, .int 0, .int 0, .int 0, .int tk])), (a_r, .inl (k_r, 8, .inl (fun _ => 0))), (a_f, .inr (0, [.int 0]))] sz) := by
  refine Met.ofW (cc := cX6_about) (maxL := 2) (ret := (some .int)) (by decide) rfl ?_
  intro p e s m args below meth c s₁ B hml hv
  obtain ⟨rfl, hsz, hP, hK, hD0, hN⟩ := hv
  have hx := B.exec
  have hb := B.bytes
  have hr := B.returns
  have hts : ∀ w ∈ zw, w.before _ s = true := fun w h => atoms_spec (ws := (zq yX6_about cX6_about 2 (some .int))) B.pre w (List.mem_cons_of_mem _ h)
  have hown : s.vm.findClass RX6 = some m.cls := findClass_of_methodNamed B.named
  have hlocks := B.notSynchronized
  subst hsz
  have hD := hD0.self (sz := s.heap.size)
  generalize hAe : va_A [(a_k, .inr (6, [.ref a_m, .ref a_t, .ref a_u, .ref a_i, .ref a_p])), (a_t, .inr (5, [.int 0, .int 0, .int 0, .int 0, .int 0, .int 0, .int 0])), (a_u, .inr (2, [.ref a_d, .ref a_b, .ref a_c, .ref a_q, .int 0, .int 0, .int 0, .int 0, .ref a_s, .int 0, .int t])), (a_i, .inr (1, [.int 0, .int 0, .int 7, .int 0, .int 0, .int 0, .int 0])), (a_p, .inr (4, [.ref a_m, .ref a_t, .ref a_u, .ref a_i, .ref a_o, .ref a_r, .ref a_f, .int 0, .int 0, .int 0, .int tk])), (a_r, .inl (k_r, 8, .inl (fun _ => 0))), (a_f, .inr (0, [.int 0]))] s.heap.size = A at hD ⊢
  have hA : ∀ q : Nat, s.heap.size ≤ q → A q := fun q h => by rw [← hAe]; exact Or.inr h
  have hS : va_S A s.heap s.heap [] := va_S.rf
  have hP : va_P (dC, dI) vwCl [(a_k, .inr (6, [.ref a_m, .ref a_t, .ref a_u, .ref a_i, .ref a_p])), (a_t, .inr (5, [.int 0, .int 0, .int 0, .int 0, .int 0, .int 0, .int 0])), (a_u, .inr (2, [.ref a_d, .ref a_b, .ref a_c, .ref a_q, .int 0, .int 0, .int 0, .int 0, .ref a_s, .int 0, .int t])), (a_i, .inr (1, [.int 0, .int 0, .int 7, .int 0, .int 0, .int 0, .int 0])), (a_p, .inr (4, [.ref a_m, .ref a_t, .ref a_u, .ref a_i, .ref a_o, .ref a_r, .ref a_f, .int 0, .int 0, .int 0, .int tk])), (a_r, .inl (k_r, 8, .inl (fun _ => 0))), (a_f, .inr (0, [.int 0]))] s.heap := hP
  have hl := lv_entry ([.ref a_k, .int 3]) (n := 2) (Nat.le_of_ble_eq_true rfl)
  rw [lg_entry_eq]
  generalize (lg_sl ([.ref a_k, .int 3]) ++ List.replicate (2 - (lg_sl ([.ref a_k, .int 3])).length) Slot.unset).toArray = ls at hl ⊢
  have hl : lv_has ls 2 [(0, .ref a_k), (1, .int 3)] := hl
  refine lv_iload_n hx hb dX6_about_0 rfl (lv_at hl 1 rfl) ?_
  refine lv_tableIn (off := 75) (tgt := 76) hx hb dX6_about_1 (by decide) (by decide) rfl (by decide) ?_
  refine lv_aload_n hx hb dX6_about_76 rfl (lv_at hl 0 rfl) ?_
  refine va_get (D := (dC, dI)) (ci := 6) (v := .ref a_p) (C := RX6) (T := TX6) (N := 5) hx hb hts zx_6 hown hK hP 0 rfl rfl 4 (by decide) (hts (.fieldLink RX6 39 "KeyboardKit" "processor" "LKeyboardKit$Processor;") zw_292) (fun _ h9 => h9) rfl dX6_about_77 ?_
  refine va_getN (D := (dC, dI)) (ci := 4) (v := .ref a_r) (C := RX4) (T := TX4) (N := 11) hx hb hts zx_4 hown hK hP 4 rfl rfl 5 (by decide) (va_Nw.use rfl (nf_16 hN)) (fun _ h9 => h9) rfl dX6_about_80 ?_
  refine lv_iload_n hx hb dX6_about_83 rfl (lv_at hl 1 rfl) ?_
  refine va_iald hx hb hK hP 5 0 rfl rfl (show ¬ ((3 : Int32) < 0 ∨ 8 ≤ (3 : Int32).toNatClampNeg) by decide) dX6_about_84 ?_
  refine lv_topi (fun v_1 ev_1 => ?_)
  obtain rfl : v_1 = 0 := ev_1.trans rfl
  have hP9 := hP.sub (ws' := []) [] rfl
  have hD9 := hD.sub (ws' := []) [] (by decide) rfl
  have hK9 := hK.sub (tys' := []) [] rfl
  exact W.iret (v := 0) hx hb hr (fun t9 ht hW => ⟨⟨0, (), rfl, rfl, by rw [ht]; exact hP9, va_K.moved hW.alike hK9, hD9⟩, hS.F ht⟩) hS.2.2 dX6_about_85
set_option maxHeartbeats 4000000 in
set_option maxRecDepth 100000 in
/-- about(4) -/
theorem c_about4 (l : Launch) (dC : Nat → ClassId) (dI : Nat → Nat → Nat) (a_k : Nat) (a_m : Nat) (a_t : Nat) (a_u : Nat) (a_i : Nat) (a_p : Nat) (a_o : Nat) (a_r : Nat) (a_f : Nat) (a_d : Nat) (a_b : Nat) (a_c : Nat) (a_q : Nat) (a_s : Nat) (k_r : ClassId) (tk : Int32) (t : Int32) (sz : Nat) : Met l yX6_about (zq yX6_about cX6_about 2 (some .int)) ({ frames := 1, cells := 0, slots := 0, locals := 20 }) (va_Pc [.ref a_k, .int 4] (zc_P (dC, dI) [(a_k, .inr (6, [.ref a_m, .ref a_t, .ref a_u, .ref a_i, .ref a_p])), (a_t, .inr (5, [.int 0, .int 0, .int 0, .int 0, .int 0, .int 0, .int 0])), (a_u, .inr (2, [.ref a_d, .ref a_b, .ref a_c, .ref a_q, .int 0, .int 0, .int 0, .int 0, .ref a_s, .int 0, .int t])), (a_i, .inr (1, [.int 0, .int 0, .int 7, .int 0, .int 0, .int 0, .int 0])), (a_p, .inr (4, [.ref a_m, .ref a_t, .ref a_u, .ref a_i, .ref a_o, .ref a_r, .ref a_f, .int 0, .int 0, .int 0, .int tk])), (a_r, .inl (k_r, 8, .inl (fun _ => 0))), (a_f, .inr (0, [.int 0]))] [(k_r, .int)] sz)) (va_Qi (fun r _ => r = 0) (fun (u : Unit) t9 => zc_B (dC, dI) (va_A [(a_k, .inr (6, [.ref a_m, .ref a_t, .ref a_u, .ref a_i, .ref a_p])), (a_t, .inr (5, [.int 0, .int 0, .int 0, .int 0, .int 0, .int 0, .int 0])), (a_u, .inr (2, [.ref a_d, .ref a_b, .ref a_c, .ref a_q, .int 0, .int 0, .int 0, .int 0, .ref a_s, .int 0, .int t])), (a_i, .inr (1, [.int 0, .int 0, .int 7, .int 0, .int 0, .int 0, .int 0])), (a_p, .inr (4, [.ref a_m, .ref a_t, .ref a_u, .ref a_i, .ref a_o, .ref a_r, .ref a_f, .int 0, .int 0, .int 0, .int tk])), (a_r, .inl (k_r, 8, .inl (fun _ => 0))), (a_f, .inr (0, [.int 0]))] sz) [] [] t9) (va_A [(a_k, .inr (6, [.ref a_m, .ref a_t, .ref a_u, .ref a_i, .ref a_p])), (a_t, .inr (5, [.int 0, .int 0, .int 0, .int 0, .int 0, .int 0, .int 0])), (a_u, .inr (2, [.ref a_d, .ref a_b, .ref a_c, .ref a_q, .int 0, .int 0, .int 0, .int 0, .ref a_s, .int 0, .int t])), (a_i, .inr (1, [.int 0, .int 0, .int 7, .int 0, .int 0, .int 0, .int 0])), (a_p, .inr (4, [.ref a_m, .ref a_t, .ref a_u, .ref a_i, .ref a_o, .ref a_r, .ref a_f, .int 0, .int 0, .int 0, .int tk])), (a_r, .inl (k_r, 8, .inl (fun _ => 0))), (a_f, .inr (0, [.int 0]))] sz)) 0 0 (va_A [(a_k, .inr (6, [.ref a_m, .ref a_t, .ref a_u, .ref a_i, .ref a_p])), (a_t, .inr (5, [.int 0, .int 0, .int 0, .int 0, .int 0, .int 0, .int 0])), (a_u, .inr (2, [.ref a_d, .ref a_b, .ref a_c, .ref a_q, .int 0, .int 0, .int 0, .int 0, .ref a_s, .int 0, .int t])), (a_i, .inr (1, [.int 0, .int 0, .int 7, .int 0, .int 0, .int 0, .int 0])), (a_p, .inr (4, [.ref a_m, .ref a_t, .ref a_u, .ref a_i, .ref a_o, .ref a_r, .ref a_f, .int 0, .int 0, .int 0, .int tk])), (a_r, .inl (k_r, 8, .inl (fun _ => 0))), (a_f, .inr (0, [.int 0]))] sz) := by
  refine Met.ofW (cc := cX6_about) (maxL := 2) (ret := (some .int)) (by decide) rfl ?_
  intro p e s m args below meth c s₁ B hml hv
  obtain ⟨rfl, hsz, hP, hK, hD0, hN⟩ := hv
  have hx := B.exec
  have hb := B.bytes
  have hr := B.returns
  have hts : ∀ w ∈ zw, w.before _ s = true := fun w h => atoms_spec (ws := (zq yX6_about cX6_about 2 (some .int))) B.pre w (List.mem_cons_of_mem _ h)
  have hown : s.vm.findClass RX6 = some m.cls := findClass_of_methodNamed B.named
  have hlocks := B.notSynchronized
  subst hsz
  have hD := hD0.self (sz := s.heap.size)
  generalize hAe : va_A [(a_k, .inr (6, [.ref a_m, .ref a_t, .ref a_u, .ref a_i, .ref a_p])), (a_t, .inr (5, [.int 0, .int 0, .int 0, .int 0, .int 0, .int 0, .int 0])), (a_u, .inr (2, [.ref a_d, .ref a_b, .ref a_c, .ref a_q, .int 0, .int 0, .int 0, .int 0, .ref a_s, .int 0, .int t])), (a_i, .inr (1, [.int 0, .int 0, .int 7, .int 0, .int 0, .int 0, .int 0])), (a_p, .inr (4, [.ref a_m, .ref a_t, .ref a_u, .ref a_i, .ref a_o, .ref a_r, .ref a_f, .int 0, .int 0, .int 0, .int tk])), (a_r, .inl (k_r, 8, .inl (fun _ => 0))), (a_f, .inr (0, [.int 0]))] s.heap.size = A at hD ⊢
  have hA : ∀ q : Nat, s.heap.size ≤ q → A q := fun q h => by rw [← hAe]; exact Or.inr h
  have hS : va_S A s.heap s.heap [] := va_S.rf
  have hP : va_P (dC, dI) vwCl [(a_k, .inr (6, [.ref a_m, .ref a_t, .ref a_u, .ref a_i, .ref a_p])), (a_t, .inr (5, [.int 0, .int 0, .int 0, .int 0, .int 0, .int 0, .int 0])), (a_u, .inr (2, [.ref a_d, .ref a_b, .ref a_c, .ref a_q, .int 0, .int 0, .int 0, .int 0, .ref a_s, .int 0, .int t])), (a_i, .inr (1, [.int 0, .int 0, .int 7, .int 0, .int 0, .int 0, .int 0])), (a_p, .inr (4, [.ref a_m, .ref a_t, .ref a_u, .ref a_i, .ref a_o, .ref a_r, .ref a_f, .int 0, .int 0, .int 0, .int tk])), (a_r, .inl (k_r, 8, .inl (fun _ => 0))), (a_f, .inr (0, [.int 0]))] s.heap := hP
  have hl := lv_entry ([.ref a_k, .int 4]) (n := 2) (Nat.le_of_ble_eq_true rfl)
  rw [lg_entry_eq]
  generalize (lg_sl ([.ref a_k, .int 4]) ++ List.replicate (2 - (lg_sl ([.ref a_k, .int 4])).length) Slot.unset).toArray = ls at hl ⊢
  have hl : lv_has ls 2 [(0, .ref a_k), (1, .int 4)] := hl
  refine lv_iload_n hx hb dX6_about_0 rfl (lv_at hl 1 rfl) ?_
  refine lv_tableIn (off := 75) (tgt := 76) hx hb dX6_about_1 (by decide) (by decide) rfl (by decide) ?_
  refine lv_aload_n hx hb dX6_about_76 rfl (lv_at hl 0 rfl) ?_
  refine va_get (D := (dC, dI)) (ci := 6) (v := .ref a_p) (C := RX6) (T := TX6) (N := 5) hx hb hts zx_6 hown hK hP 0 rfl rfl 4 (by decide) (hts (.fieldLink RX6 39 "KeyboardKit" "processor" "LKeyboardKit$Processor;") zw_292) (fun _ h9 => h9) rfl dX6_about_77 ?_
  refine va_getN (D := (dC, dI)) (ci := 4) (v := .ref a_r) (C := RX4) (T := TX4) (N := 11) hx hb hts zx_4 hown hK hP 4 rfl rfl 5 (by decide) (va_Nw.use rfl (nf_16 hN)) (fun _ h9 => h9) rfl dX6_about_80 ?_
  refine lv_iload_n hx hb dX6_about_83 rfl (lv_at hl 1 rfl) ?_
  refine va_iald hx hb hK hP 5 0 rfl rfl (show ¬ ((4 : Int32) < 0 ∨ 8 ≤ (4 : Int32).toNatClampNeg) by decide) dX6_about_84 ?_
  refine lv_topi (fun v_1 ev_1 => ?_)
  obtain rfl : v_1 = 0 := ev_1.trans rfl
  have hP9 := hP.sub (ws' := []) [] rfl
  have hD9 := hD.sub (ws' := []) [] (by decide) rfl
  have hK9 := hK.sub (tys' := []) [] rfl
  exact W.iret (v := 0) hx hb hr (fun t9 ht hW => ⟨⟨0, (), rfl, rfl, by rw [ht]; exact hP9, va_K.moved hW.alike hK9, hD9⟩, hS.F ht⟩) hS.2.2 dX6_about_85
set_option maxHeartbeats 4000000 in
set_option maxRecDepth 100000 in
/-- about(5) -/
theorem c_about5 (l : Launch) (dC : Nat → ClassId) (dI : Nat → Nat → Nat) (a_k : Nat) (a_m : Nat) (a_t : Nat) (a_u : Nat) (a_i : Nat) (a_p : Nat) (a_o : Nat) (a_r : Nat) (a_f : Nat) (a_d : Nat) (a_b : Nat) (a_c : Nat) (a_q : Nat) (a_s : Nat) (k_r : ClassId) (tk : Int32) (t : Int32) (sz : Nat) : Met l yX6_about (zq yX6_about cX6_about 2 (some .int)) ({ frames := 1, cells := 0, slots := 0, locals := 20 }) (va_Pc [.ref a_k, .int 5] (zc_P (dC, dI) [(a_k, .inr (6, [.ref a_m, .ref a_t, .ref a_u, .ref a_i, .ref a_p])), (a_t, .inr (5, [.int 0, .int 0, .int 0, .int 0, .int 0, .int 0, .int 0])), (a_u, .inr (2, [.ref a_d, .ref a_b, .ref a_c, .ref a_q, .int 0, .int 0, .int 0, .int 0, .ref a_s, .int 0, .int t])), (a_i, .inr (1, [.int 0, .int 0, .int 7, .int 0, .int 0, .int 0, .int 0])), (a_p, .inr (4, [.ref a_m, .ref a_t, .ref a_u, .ref a_i, .ref a_o, .ref a_r, .ref a_f, .int 0, .int 0, .int 0, .int tk])), (a_r, .inl (k_r, 8, .inl (fun _ => 0))), (a_f, .inr (0, [.int 0]))] [(k_r, .int)] sz)) (va_Qi (fun r _ => r = 0) (fun (u : Unit) t9 => zc_B (dC, dI) (va_A [(a_k, .inr (6, [.ref a_m, .ref a_t, .ref a_u, .ref a_i, .ref a_p])), (a_t, .inr (5, [.int 0, .int 0, .int 0, .int 0, .int 0, .int 0, .int 0])), (a_u, .inr (2, [.ref a_d, .ref a_b, .ref a_c, .ref a_q, .int 0, .int 0, .int 0, .int 0, .ref a_s, .int 0, .int t])), (a_i, .inr (1, [.int 0, .int 0, .int 7, .int 0, .int 0, .int 0, .int 0])), (a_p, .inr (4, [.ref a_m, .ref a_t, .ref a_u, .ref a_i, .ref a_o, .ref a_r, .ref a_f, .int 0, .int 0, .int 0, .int tk])), (a_r, .inl (k_r, 8, .inl (fun _ => 0))), (a_f, .inr (0, [.int 0]))] sz) [] [] t9) (va_A [(a_k, .inr (6, [.ref a_m, .ref a_t, .ref a_u, .ref a_i, .ref a_p])), (a_t, .inr (5, [.int 0, .int 0, .int 0, .int 0, .int 0, .int 0, .int 0])), (a_u, .inr (2, [.ref a_d, .ref a_b, .ref a_c, .ref a_q, .int 0, .int 0, .int 0, .int 0, .ref a_s, .int 0, .int t])), (a_i, .inr (1, [.int 0, .int 0, .int 7, .int 0, .int 0, .int 0, .int 0])), (a_p, .inr (4, [.ref a_m, .ref a_t, .ref a_u, .ref a_i, .ref a_o, .ref a_r, .ref a_f, .int 0, .int 0, .int 0, .int tk])), (a_r, .inl (k_r, 8, .inl (fun _ => 0))), (a_f, .inr (0, [.int 0]))] sz)) 0 0 (va_A [(a_k, .inr (6, [.ref a_m, .ref a_t, .ref a_u, .ref a_i, .ref a_p])), (a_t, .inr (5, [.int 0, .int 0, .int 0, .int 0, .int 0, .int 0, .int 0])), (a_u, .inr (2, [.ref a_d, .ref a_b, .ref a_c, .ref a_q, .int 0, .int 0, .int 0, .int 0, .ref a_s, .int 0, .int t])), (a_i, .inr (1, [.int 0, .int 0, .int 7, .int 0, .int 0, .int 0, .int 0])), (a_p, .inr (4, [.ref a_m, .ref a_t, .ref a_u, .ref a_i, .ref a_o, .ref a_r, .ref a_f, .int 0, .int 0, .int 0, .int tk])), (a_r, .inl (k_r, 8, .inl (fun _ => 0))), (a_f, .inr (0, [.int 0]))] sz) := by
  refine Met.ofW (cc := cX6_about) (maxL := 2) (ret := (some .int)) (by decide) rfl ?_
  intro p e s m args below meth c s₁ B hml hv
  obtain ⟨rfl, hsz, hP, hK, hD0, hN⟩ := hv
  have hx := B.exec
  have hb := B.bytes
  have hr := B.returns
  have hts : ∀ w ∈ zw, w.before _ s = true := fun w h => atoms_spec (ws := (zq yX6_about cX6_about 2 (some .int))) B.pre w (List.mem_cons_of_mem _ h)
  have hown : s.vm.findClass RX6 = some m.cls := findClass_of_methodNamed B.named
  have hlocks := B.notSynchronized
  subst hsz
  have hD := hD0.self (sz := s.heap.size)
  generalize hAe : va_A [(a_k, .inr (6, [.ref a_m, .ref a_t, .ref a_u, .ref a_i, .ref a_p])), (a_t, .inr (5, [.int 0, .int 0, .int 0, .int 0, .int 0, .int 0, .int 0])), (a_u, .inr (2, [.ref a_d, .ref a_b, .ref a_c, .ref a_q, .int 0, .int 0, .int 0, .int 0, .ref a_s, .int 0, .int t])), (a_i, .inr (1, [.int 0, .int 0, .int 7, .int 0, .int 0, .int 0, .int 0])), (a_p, .inr (4, [.ref a_m, .ref a_t, .ref a_u, .ref a_i, .ref a_o, .ref a_r, .ref a_f, .int 0, .int 0, .int 0, .int tk])), (a_r, .inl (k_r, 8, .inl (fun _ => 0))), (a_f, .inr (0, [.int 0]))] s.heap.size = A at hD ⊢
  have hA : ∀ q : Nat, s.heap.size ≤ q → A q := fun q h => by rw [← hAe]; exact Or.inr h
  have hS : va_S A s.heap s.heap [] := va_S.rf
  have hP : va_P (dC, dI) vwCl [(a_k, .inr (6, [.ref a_m, .ref a_t, .ref a_u, .ref a_i, .ref a_p])), (a_t, .inr (5, [.int 0, .int 0, .int 0, .int 0, .int 0, .int 0, .int 0])), (a_u, .inr (2, [.ref a_d, .ref a_b, .ref a_c, .ref a_q, .int 0, .int 0, .int 0, .int 0, .ref a_s, .int 0, .int t])), (a_i, .inr (1, [.int 0, .int 0, .int 7, .int 0, .int 0, .int 0, .int 0])), (a_p, .inr (4, [.ref a_m, .ref a_t, .ref a_u, .ref a_i, .ref a_o, .ref a_r, .ref a_f, .int 0, .int 0, .int 0, .int tk])), (a_r, .inl (k_r, 8, .inl (fun _ => 0))), (a_f, .inr (0, [.int 0]))] s.heap := hP
  have hl := lv_entry ([.ref a_k, .int 5]) (n := 2) (Nat.le_of_ble_eq_true rfl)
  rw [lg_entry_eq]
  generalize (lg_sl ([.ref a_k, .int 5]) ++ List.replicate (2 - (lg_sl ([.ref a_k, .int 5])).length) Slot.unset).toArray = ls at hl ⊢
  have hl : lv_has ls 2 [(0, .ref a_k), (1, .int 5)] := hl
  refine lv_iload_n hx hb dX6_about_0 rfl (lv_at hl 1 rfl) ?_
  refine lv_tableIn (off := 75) (tgt := 76) hx hb dX6_about_1 (by decide) (by decide) rfl (by decide) ?_
  refine lv_aload_n hx hb dX6_about_76 rfl (lv_at hl 0 rfl) ?_
  refine va_get (D := (dC, dI)) (ci := 6) (v := .ref a_p) (C := RX6) (T := TX6) (N := 5) hx hb hts zx_6 hown hK hP 0 rfl rfl 4 (by decide) (hts (.fieldLink RX6 39 "KeyboardKit" "processor" "LKeyboardKit$Processor;") zw_292) (fun _ h9 => h9) rfl dX6_about_77 ?_
  refine va_getN (D := (dC, dI)) (ci := 4) (v := .ref a_r) (C := RX4) (T := TX4) (N := 11) hx hb hts zx_4 hown hK hP 4 rfl rfl 5 (by decide) (va_Nw.use rfl (nf_16 hN)) (fun _ h9 => h9) rfl dX6_about_80 ?_
  refine lv_iload_n hx hb dX6_about_83 rfl (lv_at hl 1 rfl) ?_
  refine va_iald hx hb hK hP 5 0 rfl rfl (show ¬ ((5 : Int32) < 0 ∨ 8 ≤ (5 : Int32).toNatClampNeg) by decide) dX6_about_84 ?_
  refine lv_topi (fun v_1 ev_1 => ?_)
  obtain rfl : v_1 = 0 := ev_1.trans rfl
  have hP9 := hP.sub (ws' := []) [] rfl
  have hD9 := hD.sub (ws' := []) [] (by decide) rfl
  have hK9 := hK.sub (tys' := []) [] rfl
  exact W.iret (v := 0) hx hb hr (fun t9 ht hW => ⟨⟨0, (), rfl, rfl, by rw [ht]; exact hP9, va_K.moved hW.alike hK9, hD9⟩, hS.F ht⟩) hS.2.2 dX6_about_85
set_option maxHeartbeats 4000000 in
set_option maxRecDepth 100000 in
/-- about(6) -/
theorem c_about6 (l : Launch) (dC : Nat → ClassId) (dI : Nat → Nat → Nat) (a_k : Nat) (a_m : Nat) (a_t : Nat) (a_u : Nat) (a_i : Nat) (a_p : Nat) (a_o : Nat) (a_r : Nat) (a_f : Nat) (a_d : Nat) (a_b : Nat) (a_c : Nat) (a_q : Nat) (a_s : Nat) (k_r : ClassId) (tk : Int32) (t : Int32) (sz : Nat) : Met l yX6_about (zq yX6_about cX6_about 2 (some .int)) ({ frames := 1, cells := 0, slots := 0, locals := 20 }) (va_Pc [.ref a_k, .int 6] (zc_P (dC, dI) [(a_k, .inr (6, [.ref a_m, .ref a_t, .ref a_u, .ref a_i, .ref a_p])), (a_t, .inr (5, [.int 0, .int 0, .int 0, .int 0, .int 0, .int 0, .int 0])), (a_u, .inr (2, [.ref a_d, .ref a_b, .ref a_c, .ref a_q, .int 0, .int 0, .int 0, .int 0, .ref a_s, .int 0, .int t])), (a_i, .inr (1, [.int 0, .int 0, .int 7, .int 0, .int 0, .int 0, .int 0])), (a_p, .inr (4, [.ref a_m, .ref a_t, .ref a_u, .ref a_i, .ref a_o, .ref a_r, .ref a_f, .int 0, .int 0, .int 0, .int tk])), (a_r, .inl (k_r, 8, .inl (fun _ => 0))), (a_f, .inr (0, [.int 0]))] [(k_r, .int)] sz)) (va_Qi (fun r _ => r = 0) (fun (u : Unit) t9 => zc_B (dC, dI) (va_A [(a_k, .inr (6, [.ref a_m, .ref a_t, .ref a_u, .ref a_i, .ref a_p])), (a_t, .inr (5, [.int 0, .int 0, .int 0, .int 0, .int 0, .int 0, .int 0])), (a_u, .inr (2, [.ref a_d, .ref a_b, .ref a_c, .ref a_q, .int 0, .int 0, .int 0, .int 0, .ref a_s, .int 0, .int t])), (a_i, .inr (1, [.int 0, .int 0, .int 7, .int 0, .int 0, .int 0, .int 0])), (a_p, .inr (4, [.ref a_m, .ref a_t, .ref a_u, .ref a_i, .ref a_o, .ref a_r, .ref a_f, .int 0, .int 0, .int 0, .int tk])), (a_r, .inl (k_r, 8, .inl (fun _ => 0))), (a_f, .inr (0, [.int 0]))] sz) [] [] t9) (va_A [(a_k, .inr (6, [.ref a_m, .ref a_t, .ref a_u, .ref a_i, .ref a_p])), (a_t, .inr (5, [.int 0, .int 0, .int 0, .int 0, .int 0, .int 0, .int 0])), (a_u, .inr (2, [.ref a_d, .ref a_b, .ref a_c, .ref a_q, .int 0, .int 0, .int 0, .int 0, .ref a_s, .int 0, .int t])), (a_i, .inr (1, [.int 0, .int 0, .int 7, .int 0, .int 0, .int 0, .int 0])), (a_p, .inr (4, [.ref a_m, .ref a_t, .ref a_u, .ref a_i, .ref a_o, .ref a_r, .ref a_f, .int 0, .int 0, .int 0, .int tk])), (a_r, .inl (k_r, 8, .inl (fun _ => 0))), (a_f, .inr (0, [.int 0]))] sz)) 0 0 (va_A [(a_k, .inr (6, [.ref a_m, .ref a_t, .ref a_u, .ref a_i, .ref a_p])), (a_t, .inr (5, [.int 0, .int 0, .int 0, .int 0, .int 0, .int 0, .int 0])), (a_u, .inr (2, [.ref a_d, .ref a_b, .ref a_c, .ref a_q, .int 0, .int 0, .int 0, .int 0, .ref a_s, .int 0, .int t])), (a_i, .inr (1, [.int 0, .int 0, .int 7, .int 0, .int 0, .int 0, .int 0])), (a_p, .inr (4, [.ref a_m, .ref a_t, .ref a_u, .ref a_i, .ref a_o, .ref a_r, .ref a_f, .int 0, .int 0, .int 0, .int tk])), (a_r, .inl (k_r, 8, .inl (fun _ => 0))), (a_f, .inr (0, [.int 0]))] sz) := by
  refine Met.ofW (cc := cX6_about) (maxL := 2) (ret := (some .int)) (by decide) rfl ?_
  intro p e s m args below meth c s₁ B hml hv
  obtain ⟨rfl, hsz, hP, hK, hD0, hN⟩ := hv
  have hx := B.exec
  have hb := B.bytes
  have hr := B.returns
  have hts : ∀ w ∈ zw, w.before _ s = true := fun w h => atoms_spec (ws := (zq yX6_about cX6_about 2 (some .int))) B.pre w (List.mem_cons_of_mem _ h)
  have hown : s.vm.findClass RX6 = some m.cls := findClass_of_methodNamed B.named
  have hlocks := B.notSynchronized
  subst hsz
  have hD := hD0.self (sz := s.heap.size)
  generalize hAe : va_A [(a_k, .inr (6, [.ref a_m, .ref a_t, .ref a_u, .ref a_i, .ref a_p])), (a_t, .inr (5, [.int 0, .int 0, .int 0, .int 0, .int 0, .int 0, .int 0])), (a_u, .inr (2, [.ref a_d, .ref a_b, .ref a_c, .ref a_q, .int 0, .int 0, .int 0, .int 0, .ref a_s, .int 0, .int t])), (a_i, .inr (1, [.int 0, .int 0, .int 7, .int 0, .int 0, .int 0, .int 0])), (a_p, .inr (4, [.ref a_m, .ref a_t, .ref a_u, .ref a_i, .ref a_o, .ref a_r, .ref a_f, .int 0, .int 0, .int 0, .int tk])), (a_r, .inl (k_r, 8, .inl (fun _ => 0))), (a_f, .inr (0, [.int 0]))] s.heap.size = A at hD ⊢
  have hA : ∀ q : Nat, s.heap.size ≤ q → A q := fun q h => by rw [← hAe]; exact Or.inr h
  have hS : va_S A s.heap s.heap [] := va_S.rf
  have hP : va_P (dC, dI) vwCl [(a_k, .inr (6, [.ref a_m, .ref a_t, .ref a_u, .ref a_i, .ref a_p])), (a_t, .inr (5, [.int 0, .int 0, .int 0, .int 0, .int 0, .int 0, .int 0])), (a_u, .inr (2, [.ref a_d, .ref a_b, .ref a_c, .ref a_q, .int 0, .int 0, .int 0, .int 0, .ref a_s, .int 0, .int t])), (a_i, .inr (1, [.int 0, .int 0, .int 7, .int 0, .int 0, .int 0, .int 0])), (a_p, .inr (4, [.ref a_m, .ref a_t, .ref a_u, .ref a_i, .ref a_o, .ref a_r, .ref a_f, .int 0, .int 0, .int 0, .int tk])), (a_r, .inl (k_r, 8, .inl (fun _ => 0))), (a_f, .inr (0, [.int 0]))] s.heap := hP
  have hl := lv_entry ([.ref a_k, .int 6]) (n := 2) (Nat.le_of_ble_eq_true rfl)
  rw [lg_entry_eq]
  generalize (lg_sl ([.ref a_k, .int 6]) ++ List.replicate (2 - (lg_sl ([.ref a_k, .int 6])).length) Slot.unset).toArray = ls at hl ⊢
  have hl : lv_has ls 2 [(0, .ref a_k), (1, .int 6)] := hl
  refine lv_iload_n hx hb dX6_about_0 rfl (lv_at hl 1 rfl) ?_
  refine lv_tableIn (off := 85) (tgt := 86) hx hb dX6_about_1 (by decide) (by decide) rfl (by decide) ?_
  refine lv_aload_n hx hb dX6_about_86 rfl (lv_at hl 0 rfl) ?_
  refine va_get (D := (dC, dI)) (ci := 6) (v := .ref a_p) (C := RX6) (T := TX6) (N := 5) hx hb hts zx_6 hown hK hP 0 rfl rfl 4 (by decide) (hts (.fieldLink RX6 39 "KeyboardKit" "processor" "LKeyboardKit$Processor;") zw_292) (fun _ h9 => h9) rfl dX6_about_87 ?_
  refine va_getN (D := (dC, dI)) (ci := 4) (v := .ref a_f) (C := RX4) (T := TX4) (N := 11) hx hb hts zx_4 hown hK hP 4 rfl rfl 6 (by decide) (va_Nw.use rfl (nf_17 hN)) (fun _ h9 => h9) rfl dX6_about_90 ?_
  refine va_getN (D := (dC, dI)) (ci := 0) (v := .int 0) (C := RX0) (T := TX0) (N := 1) hx hb hts zx_0 hown hK hP 6 rfl rfl 0 (by decide) (va_Nw.use rfl (nf_14 hN)) (fun _ h9 => h9) rfl dX6_about_93 ?_
  have hP9 := hP.sub (ws' := []) [] rfl
  have hD9 := hD.sub (ws' := []) [] (by decide) rfl
  have hK9 := hK.sub (tys' := []) [] rfl
  exact W.iret (v := 0) hx hb hr (fun t9 ht hW => ⟨⟨0, (), rfl, rfl, by rw [ht]; exact hP9, va_K.moved hW.alike hK9, hD9⟩, hS.F ht⟩) hS.2.2 dX6_about_96
set_option maxHeartbeats 4000000 in
set_option maxRecDepth 100000 in
/-- about(7) -/
theorem c_about7 (l : Launch) (dC : Nat → ClassId) (dI : Nat → Nat → Nat) (a_k : Nat) (a_m : Nat) (a_t : Nat) (a_u : Nat) (a_i : Nat) (a_p : Nat) (a_o : Nat) (a_r : Nat) (a_f : Nat) (a_d : Nat) (a_b : Nat) (a_c : Nat) (a_q : Nat) (a_s : Nat) (k_r : ClassId) (tk : Int32) (t : Int32) (sz : Nat) : Met l yX6_about (zq yX6_about cX6_about 2 (some .int)) ({ frames := 1, cells := 0, slots := 0, locals := 20 }) (va_Pc [.ref a_k, .int 7] (zc_P (dC, dI) [(a_k, .inr (6, [.ref a_m, .ref a_t, .ref a_u, .ref a_i, .ref a_p])), (a_t, .inr (5, [.int 0, .int 0, .int 0, .int 0, .int 0, .int 0, .int 0])), (a_u, .inr (2, [.ref a_d, .ref a_b, .ref a_c, .ref a_q, .int 0, .int 0, .int 0, .int 0, .ref a_s, .int 0, .int t])), (a_i, .inr (1, [.int 0, .int 0, .int 7, .int 0, .int 0, .int 0, .int 0])), (a_p, .inr (4, [.ref a_m, .ref a_t, .ref a_u, .ref a_i, .ref a_o, .ref a_r, .ref a_f, .int 0, .int 0, .int 0, .int tk])), (a_r, .inl (k_r, 8, .inl (fun _ => 0))), (a_f, .inr (0, [.int 0]))] [(k_r, .int)] sz)) (va_Qi (fun r _ => r = 0) (fun (u : Unit) t9 => zc_B (dC, dI) (va_A [(a_k, .inr (6, [.ref a_m, .ref a_t, .ref a_u, .ref a_i, .ref a_p])), (a_t, .inr (5, [.int 0, .int 0, .int 0, .int 0, .int 0, .int 0, .int 0])), (a_u, .inr (2, [.ref a_d, .ref a_b, .ref a_c, .ref a_q, .int 0, .int 0, .int 0, .int 0, .ref a_s, .int 0, .int t])), (a_i, .inr (1, [.int 0, .int 0, .int 7, .int 0, .int 0, .int 0, .int 0])), (a_p, .inr (4, [.ref a_m, .ref a_t, .ref a_u, .ref a_i, .ref a_o, .ref a_r, .ref a_f, .int 0, .int 0, .int 0, .int tk])), (a_r, .inl (k_r, 8, .inl (fun _ => 0))), (a_f, .inr (0, [.int 0]))] sz) [] [] t9) (va_A [(a_k, .inr (6, [.ref a_m, .ref a_t, .ref a_u, .ref a_i, .ref a_p])), (a_t, .inr (5, [.int 0, .int 0, .int 0, .int 0, .int 0, .int 0, .int 0])), (a_u, .inr (2, [.ref a_d, .ref a_b, .ref a_c, .ref a_q, .int 0, .int 0, .int 0, .int 0, .ref a_s, .int 0, .int t])), (a_i, .inr (1, [.int 0, .int 0, .int 7, .int 0, .int 0, .int 0, .int 0])), (a_p, .inr (4, [.ref a_m, .ref a_t, .ref a_u, .ref a_i, .ref a_o, .ref a_r, .ref a_f, .int 0, .int 0, .int 0, .int tk])), (a_r, .inl (k_r, 8, .inl (fun _ => 0))), (a_f, .inr (0, [.int 0]))] sz)) 0 0 (va_A [(a_k, .inr (6, [.ref a_m, .ref a_t, .ref a_u, .ref a_i, .ref a_p])), (a_t, .inr (5, [.int 0, .int 0, .int 0, .int 0, .int 0, .int 0, .int 0])), (a_u, .inr (2, [.ref a_d, .ref a_b, .ref a_c, .ref a_q, .int 0, .int 0, .int 0, .int 0, .ref a_s, .int 0, .int t])), (a_i, .inr (1, [.int 0, .int 0, .int 7, .int 0, .int 0, .int 0, .int 0])), (a_p, .inr (4, [.ref a_m, .ref a_t, .ref a_u, .ref a_i, .ref a_o, .ref a_r, .ref a_f, .int 0, .int 0, .int 0, .int tk])), (a_r, .inl (k_r, 8, .inl (fun _ => 0))), (a_f, .inr (0, [.int 0]))] sz) := by
  refine Met.ofW (cc := cX6_about) (maxL := 2) (ret := (some .int)) (by decide) rfl ?_
  intro p e s m args below meth c s₁ B hml hv
  obtain ⟨rfl, hsz, hP, hK, hD0, hN⟩ := hv
  have hx := B.exec
  have hb := B.bytes
  have hr := B.returns
  have hts : ∀ w ∈ zw, w.before _ s = true := fun w h => atoms_spec (ws := (zq yX6_about cX6_about 2 (some .int))) B.pre w (List.mem_cons_of_mem _ h)
  have hown : s.vm.findClass RX6 = some m.cls := findClass_of_methodNamed B.named
  have hlocks := B.notSynchronized
  subst hsz
  have hD := hD0.self (sz := s.heap.size)
  generalize hAe : va_A [(a_k, .inr (6, [.ref a_m, .ref a_t, .ref a_u, .ref a_i, .ref a_p])), (a_t, .inr (5, [.int 0, .int 0, .int 0, .int 0, .int 0, .int 0, .int 0])), (a_u, .inr (2, [.ref a_d, .ref a_b, .ref a_c, .ref a_q, .int 0, .int 0, .int 0, .int 0, .ref a_s, .int 0, .int t])), (a_i, .inr (1, [.int 0, .int 0, .int 7, .int 0, .int 0, .int 0, .int 0])), (a_p, .inr (4, [.ref a_m, .ref a_t, .ref a_u, .ref a_i, .ref a_o, .ref a_r, .ref a_f, .int 0, .int 0, .int 0, .int tk])), (a_r, .inl (k_r, 8, .inl (fun _ => 0))), (a_f, .inr (0, [.int 0]))] s.heap.size = A at hD ⊢
  have hA : ∀ q : Nat, s.heap.size ≤ q → A q := fun q h => by rw [← hAe]; exact Or.inr h
  have hS : va_S A s.heap s.heap [] := va_S.rf
  have hP : va_P (dC, dI) vwCl [(a_k, .inr (6, [.ref a_m, .ref a_t, .ref a_u, .ref a_i, .ref a_p])), (a_t, .inr (5, [.int 0, .int 0, .int 0, .int 0, .int 0, .int 0, .int 0])), (a_u, .inr (2, [.ref a_d, .ref a_b, .ref a_c, .ref a_q, .int 0, .int 0, .int 0, .int 0, .ref a_s, .int 0, .int t])), (a_i, .inr (1, [.int 0, .int 0, .int 7, .int 0, .int 0, .int 0, .int 0])), (a_p, .inr (4, [.ref a_m, .ref a_t, .ref a_u, .ref a_i, .ref a_o, .ref a_r, .ref a_f, .int 0, .int 0, .int 0, .int tk])), (a_r, .inl (k_r, 8, .inl (fun _ => 0))), (a_f, .inr (0, [.int 0]))] s.heap := hP
  have hl := lv_entry ([.ref a_k, .int 7]) (n := 2) (Nat.le_of_ble_eq_true rfl)
  rw [lg_entry_eq]
  generalize (lg_sl ([.ref a_k, .int 7]) ++ List.replicate (2 - (lg_sl ([.ref a_k, .int 7])).length) Slot.unset).toArray = ls at hl ⊢
  have hl : lv_has ls 2 [(0, .ref a_k), (1, .int 7)] := hl
  refine lv_iload_n hx hb dX6_about_0 rfl (lv_at hl 1 rfl) ?_
  refine lv_tableIn (off := 75) (tgt := 76) hx hb dX6_about_1 (by decide) (by decide) rfl (by decide) ?_
  refine lv_aload_n hx hb dX6_about_76 rfl (lv_at hl 0 rfl) ?_
  refine va_get (D := (dC, dI)) (ci := 6) (v := .ref a_p) (C := RX6) (T := TX6) (N := 5) hx hb hts zx_6 hown hK hP 0 rfl rfl 4 (by decide) (hts (.fieldLink RX6 39 "KeyboardKit" "processor" "LKeyboardKit$Processor;") zw_292) (fun _ h9 => h9) rfl dX6_about_77 ?_
  refine va_getN (D := (dC, dI)) (ci := 4) (v := .ref a_r) (C := RX4) (T := TX4) (N := 11) hx hb hts zx_4 hown hK hP 4 rfl rfl 5 (by decide) (va_Nw.use rfl (nf_16 hN)) (fun _ h9 => h9) rfl dX6_about_80 ?_
  refine lv_iload_n hx hb dX6_about_83 rfl (lv_at hl 1 rfl) ?_
  refine va_iald hx hb hK hP 5 0 rfl rfl (show ¬ ((7 : Int32) < 0 ∨ 8 ≤ (7 : Int32).toNatClampNeg) by decide) dX6_about_84 ?_
  refine lv_topi (fun v_1 ev_1 => ?_)
  obtain rfl : v_1 = 0 := ev_1.trans rfl
  have hP9 := hP.sub (ws' := []) [] rfl
  have hD9 := hD.sub (ws' := []) [] (by decide) rfl
  have hK9 := hK.sub (tys' := []) [] rfl
  exact W.iret (v := 0) hx hb hr (fun t9 ht hW => ⟨⟨0, (), rfl, rfl, by rw [ht]; exact hP9, va_K.moved hW.alike hK9, hD9⟩, hS.F ht⟩) hS.2.2 dX6_about_85
set_option maxHeartbeats 4000000 in
set_option maxRecDepth 100000 in
/-- about(8) -/
theorem c_about8 (l : Launch) (dC : Nat → ClassId) (dI : Nat → Nat → Nat) (a_k : Nat) (a_m : Nat) (a_t : Nat) (a_u : Nat) (a_i : Nat) (a_p : Nat) (a_o : Nat) (a_r : Nat) (a_f : Nat) (a_d : Nat) (a_b : Nat) (a_c : Nat) (a_q : Nat) (a_s : Nat) (k_r : ClassId) (tk : Int32) (t : Int32) (sz : Nat) : Met l yX6_about (zq yX6_about cX6_about 2 (some .int)) ({ frames := 1, cells := 0, slots := 0, locals := 20 }) (va_Pc [.ref a_k, .int 8] (zc_P (dC, dI) [(a_k, .inr (6, [.ref a_m, .ref a_t, .ref a_u, .ref a_i, .ref a_p])), (a_t, .inr (5, [.int 0, .int 0, .int 0, .int 0, .int 0, .int 0, .int 0])), (a_u, .inr (2, [.ref a_d, .ref a_b, .ref a_c, .ref a_q, .int 0, .int 0, .int 0, .int 0, .ref a_s, .int 0, .int t])), (a_i, .inr (1, [.int 0, .int 0, .int 7, .int 0, .int 0, .int 0, .int 0])), (a_p, .inr (4, [.ref a_m, .ref a_t, .ref a_u, .ref a_i, .ref a_o, .ref a_r, .ref a_f, .int 0, .int 0, .int 0, .int tk])), (a_r, .inl (k_r, 8, .inl (fun _ => 0))), (a_f, .inr (0, [.int 0]))] [(k_r, .int)] sz)) (va_Qi (fun r _ => r = 0) (fun (u : Unit) t9 => zc_B (dC, dI) (va_A [(a_k, .inr (6, [.ref a_m, .ref a_t, .ref a_u, .ref a_i, .ref a_p])), (a_t, .inr (5, [.int 0, .int 0, .int 0, .int 0, .int 0, .int 0, .int 0])), (a_u, .inr (2, [.ref a_d, .ref a_b, .ref a_c, .ref a_q, .int 0, .int 0, .int 0, .int 0, .ref a_s, .int 0, .int t])), (a_i, .inr (1, [.int 0, .int 0, .int 7, .int 0, .int 0, .int 0, .int 0])), (a_p, .inr (4, [.ref a_m, .ref a_t, .ref a_u, .ref a_i, .ref a_o, .ref a_r, .ref a_f, .int 0, .int 0, .int 0, .int tk])), (a_r, .inl (k_r, 8, .inl (fun _ => 0))), (a_f, .inr (0, [.int 0]))] sz) [] [] t9) (va_A [(a_k, .inr (6, [.ref a_m, .ref a_t, .ref a_u, .ref a_i, .ref a_p])), (a_t, .inr (5, [.int 0, .int 0, .int 0, .int 0, .int 0, .int 0, .int 0])), (a_u, .inr (2, [.ref a_d, .ref a_b, .ref a_c, .ref a_q, .int 0, .int 0, .int 0, .int 0, .ref a_s, .int 0, .int t])), (a_i, .inr (1, [.int 0, .int 0, .int 7, .int 0, .int 0, .int 0, .int 0])), (a_p, .inr (4, [.ref a_m, .ref a_t, .ref a_u, .ref a_i, .ref a_o, .ref a_r, .ref a_f, .int 0, .int 0, .int 0, .int tk])), (a_r, .inl (k_r, 8, .inl (fun _ => 0))), (a_f, .inr (0, [.int 0]))] sz)) 0 0 (va_A [(a_k, .inr (6, [.ref a_m, .ref a_t, .ref a_u, .ref a_i, .ref a_p])), (a_t, .inr (5, [.int 0, .int 0, .int 0, .int 0, .int 0, .int 0, .int 0])), (a_u, .inr (2, [.ref a_d, .ref a_b, .ref a_c, .ref a_q, .int 0, .int 0, .int 0, .int 0, .ref a_s, .int 0, .int t])), (a_i, .inr (1, [.int 0, .int 0, .int 7, .int 0, .int 0, .int 0, .int 0])), (a_p, .inr (4, [.ref a_m, .ref a_t, .ref a_u, .ref a_i, .ref a_o, .ref a_r, .ref a_f, .int 0, .int 0, .int 0, .int tk])), (a_r, .inl (k_r, 8, .inl (fun _ => 0))), (a_f, .inr (0, [.int 0]))] sz) := by
  refine Met.ofW (cc := cX6_about) (maxL := 2) (ret := (some .int)) (by decide) rfl ?_
  intro p e s m args below meth c s₁ B hml hv
  obtain ⟨rfl, hsz, hP, hK, hD0, hN⟩ := hv
  have hx := B.exec
  have hb := B.bytes
  have hr := B.returns
  have hts : ∀ w ∈ zw, w.before _ s = true := fun w h => atoms_spec (ws := (zq yX6_about cX6_about 2 (some .int))) B.pre w (List.mem_cons_of_mem _ h)
  have hown : s.vm.findClass RX6 = some m.cls := findClass_of_methodNamed B.named
  have hlocks := B.notSynchronized
  subst hsz
  have hD := hD0.self (sz := s.heap.size)
  generalize hAe : va_A [(a_k, .inr (6, [.ref a_m, .ref a_t, .ref a_u, .ref a_i, .ref a_p])), (a_t, .inr (5, [.int 0, .int 0, .int 0, .int 0, .int 0, .int 0, .int 0])), (a_u, .inr (2, [.ref a_d, .ref a_b, .ref a_c, .ref a_q, .int 0, .int 0, .int 0, .int 0, .ref a_s, .int 0, .int t])), (a_i, .inr (1, [.int 0, .int 0, .int 7, .int 0, .int 0, .int 0, .int 0])), (a_p, .inr (4, [.ref a_m, .ref a_t, .ref a_u, .ref a_i, .ref a_o, .ref a_r, .ref a_f, .int 0, .int 0, .int 0, .int tk])), (a_r, .inl (k_r, 8, .inl (fun _ => 0))), (a_f, .inr (0, [.int 0]))] s.heap.size = A at hD ⊢
  have hA : ∀ q : Nat, s.heap.size ≤ q → A q := fun q h => by rw [← hAe]; exact Or.inr h
  have hS : va_S A s.heap s.heap [] := va_S.rf
  have hP : va_P (dC, dI) vwCl [(a_k, .inr (6, [.ref a_m, .ref a_t, .ref a_u, .ref a_i, .ref a_p])), (a_t, .inr (5, [.int 0, .int 0, .int 0, .int 0, .int 0, .int 0, .int 0])), (a_u, .inr (2, [.ref a_d, .ref a_b, .ref a_c, .ref a_q, .int 0, .int 0, .int 0, .int 0, .ref a_s, .int 0, .int t])), (a_i, .inr (1, [.int 0, .int 0, .int 7, .int 0, .int 0, .int 0, .int 0])), (a_p, .inr (4, [.ref a_m, .ref a_t, .ref a_u, .ref a_i, .ref a_o, .ref a_r, .ref a_f, .int 0, .int 0, .int 0, .int tk])), (a_r, .inl (k_r, 8, .inl (fun _ => 0))), (a_f, .inr (0, [.int 0]))] s.heap := hP
  have hl := lv_entry ([.ref a_k, .int 8]) (n := 2) (Nat.le_of_ble_eq_true rfl)
  rw [lg_entry_eq]
  generalize (lg_sl ([.ref a_k, .int 8]) ++ List.replicate (2 - (lg_sl ([.ref a_k, .int 8])).length) Slot.unset).toArray = ls at hl ⊢
  have hl : lv_has ls 2 [(0, .ref a_k), (1, .int 8)] := hl
  refine lv_iload_n hx hb dX6_about_0 rfl (lv_at hl 1 rfl) ?_
  refine lv_tableIn (off := 96) (tgt := 97) hx hb dX6_about_1 (by decide) (by decide) rfl (by decide) ?_
  refine lv_aload_n hx hb dX6_about_97 rfl (lv_at hl 0 rfl) ?_
  refine va_get (D := (dC, dI)) (ci := 6) (v := .ref a_p) (C := RX6) (T := TX6) (N := 5) hx hb hts zx_6 hown hK hP 0 rfl rfl 4 (by decide) (hts (.fieldLink RX6 39 "KeyboardKit" "processor" "LKeyboardKit$Processor;") zw_292) (fun _ h9 => h9) rfl dX6_about_98 ?_
  refine va_getN (D := (dC, dI)) (ci := 4) (v := .int 0) (C := RX4) (T := TX4) (N := 11) hx hb hts zx_4 hown hK hP 4 rfl rfl 7 (by decide) (va_Nw.use rfl (nf_18 hN)) (fun _ h9 => h9) rfl dX6_about_101 ?_
  have hP9 := hP.sub (ws' := []) [] rfl
  have hD9 := hD.sub (ws' := []) [] (by decide) rfl
  have hK9 := hK.sub (tys' := []) [] rfl
  exact W.iret (v := 0) hx hb hr (fun t9 ht hW => ⟨⟨0, (), rfl, rfl, by rw [ht]; exact hP9, va_K.moved hW.alike hK9, hD9⟩, hS.F ht⟩) hS.2.2 dX6_about_104
set_option maxHeartbeats 4000000 in
set_option maxRecDepth 100000 in
/-- about(9) -/
theorem c_about9 (l : Launch) (dC : Nat → ClassId) (dI : Nat → Nat → Nat) (a_k : Nat) (a_m : Nat) (a_t : Nat) (a_u : Nat) (a_i : Nat) (a_p : Nat) (a_o : Nat) (a_r : Nat) (a_f : Nat) (a_d : Nat) (a_b : Nat) (a_c : Nat) (a_q : Nat) (a_s : Nat) (k_r : ClassId) (tk : Int32) (t : Int32) (sz : Nat) : Met l yX6_about (zq yX6_about cX6_about 2 (some .int)) ({ frames := 1, cells := 0, slots := 0, locals := 20 }) (va_Pc [.ref a_k, .int 9] (zc_P (dC, dI) [(a_k, .inr (6, [.ref a_m, .ref a_t, .ref a_u, .ref a_i, .ref a_p])), (a_t, .inr (5, [.int 0, .int 0, .int 0, .int 0, .int 0, .int 0, .int 0])), (a_u, .inr (2, [.ref a_d, .ref a_b, .ref a_c, .ref a_q, .int 0, .int 0, .int 0, .int 0, .ref a_s, .int 0, .int t])), (a_i, .inr (1, [.int 0, .int 0, .int 7, .int 0, .int 0, .int 0, .int 0])), (a_p, .inr (4, [.ref a_m, .ref a_t, .ref a_u, .ref a_i, .ref a_o, .ref a_r, .ref a_f, .int 0, .int 0, .int 0, .int tk])), (a_r, .inl (k_r, 8, .inl (fun _ => 0))), (a_f, .inr (0, [.int 0]))] [(k_r, .int)] sz)) (va_Qi (fun r _ => r = 0) (fun (u : Unit) t9 => zc_B (dC, dI) (va_A [(a_k, .inr (6, [.ref a_m, .ref a_t, .ref a_u, .ref a_i, .ref a_p])), (a_t, .inr (5, [.int 0, .int 0, .int 0, .int 0, .int 0, .int 0, .int 0])), (a_u, .inr (2, [.ref a_d, .ref a_b, .ref a_c, .ref a_q, .int 0, .int 0, .int 0, .int 0, .ref a_s, .int 0, .int t])), (a_i, .inr (1, [.int 0, .int 0, .int 7, .int 0, .int 0, .int 0, .int 0])), (a_p, .inr (4, [.ref a_m, .ref a_t, .ref a_u, .ref a_i, .ref a_o, .ref a_r, .ref a_f, .int 0, .int 0, .int 0, .int tk])), (a_r, .inl (k_r, 8, .inl (fun _ => 0))), (a_f, .inr (0, [.int 0]))] sz) [] [] t9) (va_A [(a_k, .inr (6, [.ref a_m, .ref a_t, .ref a_u, .ref a_i, .ref a_p])), (a_t, .inr (5, [.int 0, .int 0, .int 0, .int 0, .int 0, .int 0, .int 0])), (a_u, .inr (2, [.ref a_d, .ref a_b, .ref a_c, .ref a_q, .int 0, .int 0, .int 0, .int 0, .ref a_s, .int 0, .int t])), (a_i, .inr (1, [.int 0, .int 0, .int 7, .int 0, .int 0, .int 0, .int 0])), (a_p, .inr (4, [.ref a_m, .ref a_t, .ref a_u, .ref a_i, .ref a_o, .ref a_r, .ref a_f, .int 0, .int 0, .int 0, .int tk])), (a_r, .inl (k_r, 8, .inl (fun _ => 0))), (a_f, .inr (0, [.int 0]))] sz)) 0 0 (va_A [(a_k, .inr (6, [.ref a_m, .ref a_t, .ref a_u, .ref a_i, .ref a_p])), (a_t, .inr (5, [.int 0, .int 0, .int 0, .int 0, .int 0, .int 0, .int 0])), (a_u, .inr (2, [.ref a_d, .ref a_b, .ref a_c, .ref a_q, .int 0, .int 0, .int 0, .int 0, .ref a_s, .int 0, .int t])), (a_i, .inr (1, [.int 0, .int 0, .int 7, .int 0, .int 0, .int 0, .int 0])), (a_p, .inr (4, [.ref a_m, .ref a_t, .ref a_u, .ref a_i, .ref a_o, .ref a_r, .ref a_f, .int 0, .int 0, .int 0, .int tk])), (a_r, .inl (k_r, 8, .inl (fun _ => 0))), (a_f, .inr (0, [.int 0]))] sz) := by
  refine Met.ofW (cc := cX6_about) (maxL := 2) (ret := (some .int)) (by decide) rfl ?_
  intro p e s m args below meth c s₁ B hml hv
  obtain ⟨rfl, hsz, hP, hK, hD0, hN⟩ := hv
  have hx := B.exec
  have hb := B.bytes
  have hr := B.returns
  have hts : ∀ w ∈ zw, w.before _ s = true := fun w h => atoms_spec (ws := (zq yX6_about cX6_about 2 (some .int))) B.pre w (List.mem_cons_of_mem _ h)
  have hown : s.vm.findClass RX6 = some m.cls := findClass_of_methodNamed B.named
  have hlocks := B.notSynchronized
  subst hsz
  have hD := hD0.self (sz := s.heap.size)
  generalize hAe : va_A [(a_k, .inr (6, [.ref a_m, .ref a_t, .ref a_u, .ref a_i, .ref a_p])), (a_t, .inr (5, [.int 0, .int 0, .int 0, .int 0, .int 0, .int 0, .int 0])), (a_u, .inr (2, [.ref a_d, .ref a_b, .ref a_c, .ref a_q, .int 0, .int 0, .int 0, .int 0, .ref a_s, .int 0, .int t])), (a_i, .inr (1, [.int 0, .int 0, .int 7, .int 0, .int 0, .int 0, .int 0])), (a_p, .inr (4, [.ref a_m, .ref a_t, .ref a_u, .ref a_i, .ref a_o, .ref a_r, .ref a_f, .int 0, .int 0, .int 0, .int tk])), (a_r, .inl (k_r, 8, .inl (fun _ => 0))), (a_f, .inr (0, [.int 0]))] s.heap.size = A at hD ⊢
  have hA : ∀ q : Nat, s.heap.size ≤ q → A q := fun q h => by rw [← hAe]; exact Or.inr h
  have hS : va_S A s.heap s.heap [] := va_S.rf
  have hP : va_P (dC, dI) vwCl [(a_k, .inr (6, [.ref a_m, .ref a_t, .ref a_u, .ref a_i, .ref a_p])), (a_t, .inr (5, [.int 0, .int 0, .int 0, .int 0, .int 0, .int 0, .int 0])), (a_u, .inr (2, [.ref a_d, .ref a_b, .ref a_c, .ref a_q, .int 0, .int 0, .int 0, .int 0, .ref a_s, .int 0, .int t])), (a_i, .inr (1, [.int 0, .int 0, .int 7, .int 0, .int 0, .int 0, .int 0])), (a_p, .inr (4, [.ref a_m, .ref a_t, .ref a_u, .ref a_i, .ref a_o, .ref a_r, .ref a_f, .int 0, .int 0, .int 0, .int tk])), (a_r, .inl (k_r, 8, .inl (fun _ => 0))), (a_f, .inr (0, [.int 0]))] s.heap := hP
  have hl := lv_entry ([.ref a_k, .int 9]) (n := 2) (Nat.le_of_ble_eq_true rfl)
  rw [lg_entry_eq]
  generalize (lg_sl ([.ref a_k, .int 9]) ++ List.replicate (2 - (lg_sl ([.ref a_k, .int 9])).length) Slot.unset).toArray = ls at hl ⊢
  have hl : lv_has ls 2 [(0, .ref a_k), (1, .int 9)] := hl
  refine lv_iload_n hx hb dX6_about_0 rfl (lv_at hl 1 rfl) ?_
  refine lv_tableIn (off := 104) (tgt := 105) hx hb dX6_about_1 (by decide) (by decide) rfl (by decide) ?_
  refine lv_aload_n hx hb dX6_about_105 rfl (lv_at hl 0 rfl) ?_
  refine va_get (D := (dC, dI)) (ci := 6) (v := .ref a_p) (C := RX6) (T := TX6) (N := 5) hx hb hts zx_6 hown hK hP 0 rfl rfl 4 (by decide) (hts (.fieldLink RX6 39 "KeyboardKit" "processor" "LKeyboardKit$Processor;") zw_292) (fun _ h9 => h9) rfl dX6_about_106 ?_
  refine va_getN (D := (dC, dI)) (ci := 4) (v := .int 0) (C := RX4) (T := TX4) (N := 11) hx hb hts zx_4 hown hK hP 4 rfl rfl 8 (by decide) (va_Nw.use rfl (nf_19 hN)) (fun _ h9 => h9) rfl dX6_about_109 ?_
  have hP9 := hP.sub (ws' := []) [] rfl
  have hD9 := hD.sub (ws' := []) [] (by decide) rfl
  have hK9 := hK.sub (tys' := []) [] rfl
  exact W.iret (v := 0) hx hb hr (fun t9 ht hW => ⟨⟨0, (), rfl, rfl, by rw [ht]; exact hP9, va_K.moved hW.alike hK9, hD9⟩, hS.F ht⟩) hS.2.2 dX6_about_112
set_option maxHeartbeats 4000000 in
set_option maxRecDepth 100000 in
/-- about(10) -/
theorem c_about10 (l : Launch) (dC : Nat → ClassId) (dI : Nat → Nat → Nat) (a_k : Nat) (a_m : Nat) (a_t : Nat) (a_u : Nat) (a_i : Nat) (a_p : Nat) (a_o : Nat) (a_r : Nat) (a_f : Nat) (a_d : Nat) (a_b : Nat) (a_c : Nat) (a_q : Nat) (a_s : Nat) (k_r : ClassId) (tk : Int32) (t : Int32) (sz : Nat) : Met l yX6_about (zq yX6_about cX6_about 2 (some .int)) ({ frames := 1, cells := 0, slots := 0, locals := 20 }) (va_Pc [.ref a_k, .int 10] (zc_P (dC, dI) [(a_k, .inr (6, [.ref a_m, .ref a_t, .ref a_u, .ref a_i, .ref a_p])), (a_t, .inr (5, [.int 0, .int 0, .int 0, .int 0, .int 0, .int 0, .int 0])), (a_u, .inr (2, [.ref a_d, .ref a_b, .ref a_c, .ref a_q, .int 0, .int 0, .int 0, .int 0, .ref a_s, .int 0, .int t])), (a_i, .inr (1, [.int 0, .int 0, .int 7, .int 0, .int 0, .int 0, .int 0])), (a_p, .inr (4, [.ref a_m, .ref a_t, .ref a_u, .ref a_i, .ref a_o, .ref a_r, .ref a_f, .int 0, .int 0, .int 0, .int tk])), (a_r, .inl (k_r, 8, .inl (fun _ => 0))), (a_f, .inr (0, [.int 0]))] [(k_r, .int)] sz)) (va_Qi (fun r _ => r = 0) (fun (u : Unit) t9 => zc_B (dC, dI) (va_A [(a_k, .inr (6, [.ref a_m, .ref a_t, .ref a_u, .ref a_i, .ref a_p])), (a_t, .inr (5, [.int 0, .int 0, .int 0, .int 0, .int 0, .int 0, .int 0])), (a_u, .inr (2, [.ref a_d, .ref a_b, .ref a_c, .ref a_q, .int 0, .int 0, .int 0, .int 0, .ref a_s, .int 0, .int t])), (a_i, .inr (1, [.int 0, .int 0, .int 7, .int 0, .int 0, .int 0, .int 0])), (a_p, .inr (4, [.ref a_m, .ref a_t, .ref a_u, .ref a_i, .ref a_o, .ref a_r, .ref a_f, .int 0, .int 0, .int 0, .int tk])), (a_r, .inl (k_r, 8, .inl (fun _ => 0))), (a_f, .inr (0, [.int 0]))] sz) [] [] t9) (va_A [(a_k, .inr (6, [.ref a_m, .ref a_t, .ref a_u, .ref a_i, .ref a_p])), (a_t, .inr (5, [.int 0, .int 0, .int 0, .int 0, .int 0, .int 0, .int 0])), (a_u, .inr (2, [.ref a_d, .ref a_b, .ref a_c, .ref a_q, .int 0, .int 0, .int 0, .int 0, .ref a_s, .int 0, .int t])), (a_i, .inr (1, [.int 0, .int 0, .int 7, .int 0, .int 0, .int 0, .int 0])), (a_p, .inr (4, [.ref a_m, .ref a_t, .ref a_u, .ref a_i, .ref a_o, .ref a_r, .ref a_f, .int 0, .int 0, .int 0, .int tk])), (a_r, .inl (k_r, 8, .inl (fun _ => 0))), (a_f, .inr (0, [.int 0]))] sz)) 0 0 (va_A [(a_k, .inr (6, [.ref a_m, .ref a_t, .ref a_u, .ref a_i, .ref a_p])), (a_t, .inr (5, [.int 0, .int 0, .int 0, .int 0, .int 0, .int 0, .int 0])), (a_u, .inr (2, [.ref a_d, .ref a_b, .ref a_c, .ref a_q, .int 0, .int 0, .int 0, .int 0, .ref a_s, .int 0, .int t])), (a_i, .inr (1, [.int 0, .int 0, .int 7, .int 0, .int 0, .int 0, .int 0])), (a_p, .inr (4, [.ref a_m, .ref a_t, .ref a_u, .ref a_i, .ref a_o, .ref a_r, .ref a_f, .int 0, .int 0, .int 0, .int tk])), (a_r, .inl (k_r, 8, .inl (fun _ => 0))), (a_f, .inr (0, [.int 0]))] sz) := by
  refine Met.ofW (cc := cX6_about) (maxL := 2) (ret := (some .int)) (by decide) rfl ?_
  intro p e s m args below meth c s₁ B hml hv
  obtain ⟨rfl, hsz, hP, hK, hD0, hN⟩ := hv
  have hx := B.exec
  have hb := B.bytes
  have hr := B.returns
  have hts : ∀ w ∈ zw, w.before _ s = true := fun w h => atoms_spec (ws := (zq yX6_about cX6_about 2 (some .int))) B.pre w (List.mem_cons_of_mem _ h)
  have hown : s.vm.findClass RX6 = some m.cls := findClass_of_methodNamed B.named
  have hlocks := B.notSynchronized
  subst hsz
  have hD := hD0.self (sz := s.heap.size)
  generalize hAe : va_A [(a_k, .inr (6, [.ref a_m, .ref a_t, .ref a_u, .ref a_i, .ref a_p])), (a_t, .inr (5, [.int 0, .int 0, .int 0, .int 0, .int 0, .int 0, .int 0])), (a_u, .inr (2, [.ref a_d, .ref a_b, .ref a_c, .ref a_q, .int 0, .int 0, .int 0, .int 0, .ref a_s, .int 0, .int t])), (a_i, .inr (1, [.int 0, .int 0, .int 7, .int 0, .int 0, .int 0, .int 0])), (a_p, .inr (4, [.ref a_m, .ref a_t, .ref a_u, .ref a_i, .ref a_o, .ref a_r, .ref a_f, .int 0, .int 0, .int 0, .int tk])), (a_r, .inl (k_r, 8, .inl (fun _ => 0))), (a_f, .inr (0, [.int 0]))] s.heap.size = A at hD ⊢
  have hA : ∀ q : Nat, s.heap.size ≤ q → A q := fun q h => by rw [← hAe]; exact Or.inr h
  have hS : va_S A s.heap s.heap [] := va_S.rf
  have hP : va_P (dC, dI) vwCl [(a_k, .inr (6, [.ref a_m, .ref a_t, .ref a_u, .ref a_i, .ref a_p])), (a_t, .inr (5, [.int 0, .int 0, .int 0, .int 0, .int 0, .int 0, .int 0])), (a_u, .inr (2, [.ref a_d, .ref a_b, .ref a_c, .ref a_q, .int 0, .int 0, .int 0, .int 0, .ref a_s, .int 0, .int t])), (a_i, .inr (1, [.int 0, .int 0, .int 7, .int 0, .int 0, .int 0, .int 0])), (a_p, .inr (4, [.ref a_m, .ref a_t, .ref a_u, .ref a_i, .ref a_o, .ref a_r, .ref a_f, .int 0, .int 0, .int 0, .int tk])), (a_r, .inl (k_r, 8, .inl (fun _ => 0))), (a_f, .inr (0, [.int 0]))] s.heap := hP
  have hl := lv_entry ([.ref a_k, .int 10]) (n := 2) (Nat.le_of_ble_eq_true rfl)
  rw [lg_entry_eq]
  generalize (lg_sl ([.ref a_k, .int 10]) ++ List.replicate (2 - (lg_sl ([.ref a_k, .int 10])).length) Slot.unset).toArray = ls at hl ⊢
  have hl : lv_has ls 2 [(0, .ref a_k), (1, .int 10)] := hl
  refine lv_iload_n hx hb dX6_about_0 rfl (lv_at hl 1 rfl) ?_
  refine lv_tableIn (off := 112) (tgt := 113) hx hb dX6_about_1 (by decide) (by decide) rfl (by decide) ?_
  refine lv_aload_n hx hb dX6_about_113 rfl (lv_at hl 0 rfl) ?_
  refine va_get (D := (dC, dI)) (ci := 6) (v := .ref a_i) (C := RX6) (T := TX6) (N := 5) hx hb hts zx_6 hown hK hP 0 rfl rfl 3 (by decide) (hts (.fieldLink RX6 30 "KeyboardKit" "interrupts" "LKeyboardKit$Interrupts;") zw_291) (fun _ h9 => h9) rfl dX6_about_114 ?_
  refine va_getN (D := (dC, dI)) (ci := 1) (v := .int 0) (C := RX1) (T := TX1) (N := 7) hx hb hts zx_1 hown hK hP 3 rfl rfl 0 (by decide) (va_Nw.use rfl (nf_6 hN)) (fun _ h9 => h9) rfl dX6_about_117 ?_
  refine lv_if_eq (tgt := 127) hx hb dX6_about_120 (by decide) (fun c_1 => ?_) (fun c_1 => absurd c_1 (by decide))
  refine lv_iconst (v := 0) hx hb dX6_about_127 (by decide) ?_
  refine lv_aload_n hx hb dX6_about_128 rfl (lv_at hl 0 rfl) ?_
  refine va_get (D := (dC, dI)) (ci := 6) (v := .ref a_p) (C := RX6) (T := TX6) (N := 5) hx hb hts zx_6 hown hK hP 0 rfl rfl 4 (by decide) (hts (.fieldLink RX6 39 "KeyboardKit" "processor" "LKeyboardKit$Processor;") zw_292) (fun _ h9 => h9) rfl dX6_about_129 ?_
  refine va_getN (D := (dC, dI)) (ci := 4) (v := .int 0) (C := RX4) (T := TX4) (N := 11) hx hb hts zx_4 hown hK hP 4 rfl rfl 9 (by decide) (va_Nw.use rfl (nf_20 hN)) (fun _ h9 => h9) rfl dX6_about_132 ?_
  refine lv_if_eq (tgt := 142) hx hb dX6_about_135 (by decide) (fun c_2 => ?_) (fun c_2 => absurd c_2 (by decide))
  refine lv_iconst (v := 0) hx hb dX6_about_142 (by decide) ?_
  refine lv_iadd hx hb dX6_about_143 ?_
  refine lv_topi (fun v_3 ev_3 => ?_)
  obtain rfl : v_3 = 0 := ev_3.trans (by decide)
  have hP9 := hP.sub (ws' := []) [] rfl
  have hD9 := hD.sub (ws' := []) [] (by decide) rfl
  have hK9 := hK.sub (tys' := []) [] rfl
  exact W.iret (v := 0) hx hb hr (fun t9 ht hW => ⟨⟨0, (), rfl, rfl, by rw [ht]; exact hP9, va_K.moved hW.alike hK9, hD9⟩, hS.F ht⟩) hS.2.2 dX6_about_144
set_option maxHeartbeats 4000000 in
set_option maxRecDepth 100000 in
/-- about(11) -/
theorem c_about11 (l : Launch) (dC : Nat → ClassId) (dI : Nat → Nat → Nat) (a_k : Nat) (a_m : Nat) (a_t : Nat) (a_u : Nat) (a_i : Nat) (a_p : Nat) (a_o : Nat) (a_r : Nat) (a_f : Nat) (a_d : Nat) (a_b : Nat) (a_c : Nat) (a_q : Nat) (a_s : Nat) (k_r : ClassId) (tk : Int32) (t : Int32) (sz : Nat) : Met l yX6_about (zq yX6_about cX6_about 2 (some .int)) ({ frames := 1, cells := 0, slots := 0, locals := 20 }) (va_Pc [.ref a_k, .int 11] (zc_P (dC, dI) [(a_k, .inr (6, [.ref a_m, .ref a_t, .ref a_u, .ref a_i, .ref a_p])), (a_t, .inr (5, [.int 0, .int 0, .int 0, .int 0, .int 0, .int 0, .int 0])), (a_u, .inr (2, [.ref a_d, .ref a_b, .ref a_c, .ref a_q, .int 0, .int 0, .int 0, .int 0, .ref a_s, .int 0, .int t])), (a_i, .inr (1, [.int 0, .int 0, .int 7, .int 0, .int 0, .int 0, .int 0])), (a_p, .inr (4, [.ref a_m, .ref a_t, .ref a_u, .ref a_i, .ref a_o, .ref a_r, .ref a_f, .int 0, .int 0, .int 0, .int tk])), (a_r, .inl (k_r, 8, .inl (fun _ => 0))), (a_f, .inr (0, [.int 0]))] [(k_r, .int)] sz)) (va_Qi (fun r _ => r = 7) (fun (u : Unit) t9 => zc_B (dC, dI) (va_A [(a_k, .inr (6, [.ref a_m, .ref a_t, .ref a_u, .ref a_i, .ref a_p])), (a_t, .inr (5, [.int 0, .int 0, .int 0, .int 0, .int 0, .int 0, .int 0])), (a_u, .inr (2, [.ref a_d, .ref a_b, .ref a_c, .ref a_q, .int 0, .int 0, .int 0, .int 0, .ref a_s, .int 0, .int t])), (a_i, .inr (1, [.int 0, .int 0, .int 7, .int 0, .int 0, .int 0, .int 0])), (a_p, .inr (4, [.ref a_m, .ref a_t, .ref a_u, .ref a_i, .ref a_o, .ref a_r, .ref a_f, .int 0, .int 0, .int 0, .int tk])), (a_r, .inl (k_r, 8, .inl (fun _ => 0))), (a_f, .inr (0, [.int 0]))] sz) [] [] t9) (va_A [(a_k, .inr (6, [.ref a_m, .ref a_t, .ref a_u, .ref a_i, .ref a_p])), (a_t, .inr (5, [.int 0, .int 0, .int 0, .int 0, .int 0, .int 0, .int 0])), (a_u, .inr (2, [.ref a_d, .ref a_b, .ref a_c, .ref a_q, .int 0, .int 0, .int 0, .int 0, .ref a_s, .int 0, .int t])), (a_i, .inr (1, [.int 0, .int 0, .int 7, .int 0, .int 0, .int 0, .int 0])), (a_p, .inr (4, [.ref a_m, .ref a_t, .ref a_u, .ref a_i, .ref a_o, .ref a_r, .ref a_f, .int 0, .int 0, .int 0, .int tk])), (a_r, .inl (k_r, 8, .inl (fun _ => 0))), (a_f, .inr (0, [.int 0]))] sz)) 0 0 (va_A [(a_k, .inr (6, [.ref a_m, .ref a_t, .ref a_u, .ref a_i, .ref a_p])), (a_t, .inr (5, [.int 0, .int 0, .int 0, .int 0, .int 0, .int 0, .int 0])), (a_u, .inr (2, [.ref a_d, .ref a_b, .ref a_c, .ref a_q, .int 0, .int 0, .int 0, .int 0, .ref a_s, .int 0, .int t])), (a_i, .inr (1, [.int 0, .int 0, .int 7, .int 0, .int 0, .int 0, .int 0])), (a_p, .inr (4, [.ref a_m, .ref a_t, .ref a_u, .ref a_i, .ref a_o, .ref a_r, .ref a_f, .int 0, .int 0, .int 0, .int tk])), (a_r, .inl (k_r, 8, .inl (fun _ => 0))), (a_f, .inr (0, [.int 0]))] sz) := by
  refine Met.ofW (cc := cX6_about) (maxL := 2) (ret := (some .int)) (by decide) rfl ?_
  intro p e s m args below meth c s₁ B hml hv
  obtain ⟨rfl, hsz, hP, hK, hD0, hN⟩ := hv
  have hx := B.exec
  have hb := B.bytes
  have hr := B.returns
  have hts : ∀ w ∈ zw, w.before _ s = true := fun w h => atoms_spec (ws := (zq yX6_about cX6_about 2 (some .int))) B.pre w (List.mem_cons_of_mem _ h)
  have hown : s.vm.findClass RX6 = some m.cls := findClass_of_methodNamed B.named
  have hlocks := B.notSynchronized
  subst hsz
  have hD := hD0.self (sz := s.heap.size)
  generalize hAe : va_A [(a_k, .inr (6, [.ref a_m, .ref a_t, .ref a_u, .ref a_i, .ref a_p])), (a_t, .inr (5, [.int 0, .int 0, .int 0, .int 0, .int 0, .int 0, .int 0])), (a_u, .inr (2, [.ref a_d, .ref a_b, .ref a_c, .ref a_q, .int 0, .int 0, .int 0, .int 0, .ref a_s, .int 0, .int t])), (a_i, .inr (1, [.int 0, .int 0, .int 7, .int 0, .int 0, .int 0, .int 0])), (a_p, .inr (4, [.ref a_m, .ref a_t, .ref a_u, .ref a_i, .ref a_o, .ref a_r, .ref a_f, .int 0, .int 0, .int 0, .int tk])), (a_r, .inl (k_r, 8, .inl (fun _ => 0))), (a_f, .inr (0, [.int 0]))] s.heap.size = A at hD ⊢
  have hA : ∀ q : Nat, s.heap.size ≤ q → A q := fun q h => by rw [← hAe]; exact Or.inr h
  have hS : va_S A s.heap s.heap [] := va_S.rf
  have hP : va_P (dC, dI) vwCl [(a_k, .inr (6, [.ref a_m, .ref a_t, .ref a_u, .ref a_i, .ref a_p])), (a_t, .inr (5, [.int 0, .int 0, .int 0, .int 0, .int 0, .int 0, .int 0])), (a_u, .inr (2, [.ref a_d, .ref a_b, .ref a_c, .ref a_q, .int 0, .int 0, .int 0, .int 0, .ref a_s, .int 0, .int t])), (a_i, .inr (1, [.int 0, .int 0, .int 7, .int 0, .int 0, .int 0, .int 0])), (a_p, .inr (4, [.ref a_m, .ref a_t, .ref a_u, .ref a_i, .ref a_o, .ref a_r, .ref a_f, .int 0, .int 0, .int 0, .int tk])), (a_r, .inl (k_r, 8, .inl (fun _ => 0))), (a_f, .inr (0, [.int 0]))] s.heap := hP
  have hl := lv_entry ([.ref a_k, .int 11]) (n := 2) (Nat.le_of_ble_eq_true rfl)
  rw [lg_entry_eq]
  generalize (lg_sl ([.ref a_k, .int 11]) ++ List.replicate (2 - (lg_sl ([.ref a_k, .int 11])).length) Slot.unset).toArray = ls at hl ⊢
  have hl : lv_has ls 2 [(0, .ref a_k), (1, .int 11)] := hl
  refine lv_iload_n hx hb dX6_about_0 rfl (lv_at hl 1 rfl) ?_
  refine lv_tableIn (off := 144) (tgt := 145) hx hb dX6_about_1 (by decide) (by decide) rfl (by decide) ?_
  refine lv_aload_n hx hb dX6_about_145 rfl (lv_at hl 0 rfl) ?_
  refine va_get (D := (dC, dI)) (ci := 6) (v := .ref a_i) (C := RX6) (T := TX6) (N := 5) hx hb hts zx_6 hown hK hP 0 rfl rfl 3 (by decide) (hts (.fieldLink RX6 30 "KeyboardKit" "interrupts" "LKeyboardKit$Interrupts;") zw_291) (fun _ h9 => h9) rfl dX6_about_146 ?_
  refine va_getN (D := (dC, dI)) (ci := 1) (v := .int 7) (C := RX1) (T := TX1) (N := 7) hx hb hts zx_1 hown hK hP 3 rfl rfl 2 (by decide) (va_Nw.use rfl (nf_9 hN)) (fun _ h9 => h9) rfl dX6_about_149 ?_
  have hP9 := hP.sub (ws' := []) [] rfl
  have hD9 := hD.sub (ws' := []) [] (by decide) rfl
  have hK9 := hK.sub (tys' := []) [] rfl
  exact W.iret (v := 7) hx hb hr (fun t9 ht hW => ⟨⟨7, (), rfl, rfl, by rw [ht]; exact hP9, va_K.moved hW.alike hK9, hD9⟩, hS.F ht⟩) hS.2.2 dX6_about_152
set_option maxHeartbeats 4000000 in
set_option maxRecDepth 100000 in
/-- about(12) -/
theorem c_about12 (l : Launch) (dC : Nat → ClassId) (dI : Nat → Nat → Nat) (a_k : Nat) (a_m : Nat) (a_t : Nat) (a_u : Nat) (a_i : Nat) (a_p : Nat) (a_o : Nat) (a_r : Nat) (a_f : Nat) (a_d : Nat) (a_b : Nat) (a_c : Nat) (a_q : Nat) (a_s : Nat) (k_r : ClassId) (tk : Int32) (t : Int32) (sz : Nat) : Met l yX6_about (zq yX6_about cX6_about 2 (some .int)) ({ frames := 1, cells := 0, slots := 0, locals := 20 }) (va_Pc [.ref a_k, .int 12] (zc_P (dC, dI) [(a_k, .inr (6, [.ref a_m, .ref a_t, .ref a_u, .ref a_i, .ref a_p])), (a_t, .inr (5, [.int 0, .int 0, .int 0, .int 0, .int 0, .int 0, .int 0])), (a_u, .inr (2, [.ref a_d, .ref a_b, .ref a_c, .ref a_q, .int 0, .int 0, .int 0, .int 0, .ref a_s, .int 0, .int t])), (a_i, .inr (1, [.int 0, .int 0, .int 7, .int 0, .int 0, .int 0, .int 0])), (a_p, .inr (4, [.ref a_m, .ref a_t, .ref a_u, .ref a_i, .ref a_o, .ref a_r, .ref a_f, .int 0, .int 0, .int 0, .int tk])), (a_r, .inl (k_r, 8, .inl (fun _ => 0))), (a_f, .inr (0, [.int 0]))] [(k_r, .int)] sz)) (va_Qi (fun r _ => r = 0) (fun (u : Unit) t9 => zc_B (dC, dI) (va_A [(a_k, .inr (6, [.ref a_m, .ref a_t, .ref a_u, .ref a_i, .ref a_p])), (a_t, .inr (5, [.int 0, .int 0, .int 0, .int 0, .int 0, .int 0, .int 0])), (a_u, .inr (2, [.ref a_d, .ref a_b, .ref a_c, .ref a_q, .int 0, .int 0, .int 0, .int 0, .ref a_s, .int 0, .int t])), (a_i, .inr (1, [.int 0, .int 0, .int 7, .int 0, .int 0, .int 0, .int 0])), (a_p, .inr (4, [.ref a_m, .ref a_t, .ref a_u, .ref a_i, .ref a_o, .ref a_r, .ref a_f, .int 0, .int 0, .int 0, .int tk])), (a_r, .inl (k_r, 8, .inl (fun _ => 0))), (a_f, .inr (0, [.int 0]))] sz) [] [] t9) (va_A [(a_k, .inr (6, [.ref a_m, .ref a_t, .ref a_u, .ref a_i, .ref a_p])), (a_t, .inr (5, [.int 0, .int 0, .int 0, .int 0, .int 0, .int 0, .int 0])), (a_u, .inr (2, [.ref a_d, .ref a_b, .ref a_c, .ref a_q, .int 0, .int 0, .int 0, .int 0, .ref a_s, .int 0, .int t])), (a_i, .inr (1, [.int 0, .int 0, .int 7, .int 0, .int 0, .int 0, .int 0])), (a_p, .inr (4, [.ref a_m, .ref a_t, .ref a_u, .ref a_i, .ref a_o, .ref a_r, .ref a_f, .int 0, .int 0, .int 0, .int tk])), (a_r, .inl (k_r, 8, .inl (fun _ => 0))), (a_f, .inr (0, [.int 0]))] sz)) 0 0 (va_A [(a_k, .inr (6, [.ref a_m, .ref a_t, .ref a_u, .ref a_i, .ref a_p])), (a_t, .inr (5, [.int 0, .int 0, .int 0, .int 0, .int 0, .int 0, .int 0])), (a_u, .inr (2, [.ref a_d, .ref a_b, .ref a_c, .ref a_q, .int 0, .int 0, .int 0, .int 0, .ref a_s, .int 0, .int t])), (a_i, .inr (1, [.int 0, .int 0, .int 7, .int 0, .int 0, .int 0, .int 0])), (a_p, .inr (4, [.ref a_m, .ref a_t, .ref a_u, .ref a_i, .ref a_o, .ref a_r, .ref a_f, .int 0, .int 0, .int 0, .int tk])), (a_r, .inl (k_r, 8, .inl (fun _ => 0))), (a_f, .inr (0, [.int 0]))] sz) := by
  refine Met.ofW (cc := cX6_about) (maxL := 2) (ret := (some .int)) (by decide) rfl ?_
  intro p e s m args below meth c s₁ B hml hv
  obtain ⟨rfl, hsz, hP, hK, hD0, hN⟩ := hv
  have hx := B.exec
  have hb := B.bytes
  have hr := B.returns
  have hts : ∀ w ∈ zw, w.before _ s = true := fun w h => atoms_spec (ws := (zq yX6_about cX6_about 2 (some .int))) B.pre w (List.mem_cons_of_mem _ h)
  have hown : s.vm.findClass RX6 = some m.cls := findClass_of_methodNamed B.named
  have hlocks := B.notSynchronized
  subst hsz
  have hD := hD0.self (sz := s.heap.size)
  generalize hAe : va_A [(a_k, .inr (6, [.ref a_m, .ref a_t, .ref a_u, .ref a_i, .ref a_p])), (a_t, .inr (5, [.int 0, .int 0, .int 0, .int 0, .int 0, .int 0, .int 0])), (a_u, .inr (2, [.ref a_d, .ref a_b, .ref a_c, .ref a_q, .int 0, .int 0, .int 0, .int 0, .ref a_s, .int 0, .int t])), (a_i, .inr (1, [.int 0, .int 0, .int 7, .int 0, .int 0, .int 0, .int 0])), (a_p, .inr (4, [.ref a_m, .ref a_t, .ref a_u, .ref a_i, .ref a_o, .ref a_r, .ref a_f, .int 0, .int 0, .int 0, .int tk])), (a_r, .inl (k_r, 8, .inl (fun _ => 0))), (a_f, .inr (0, [.int 0]))] s.heap.size = A at hD ⊢
  have hA : ∀ q : Nat, s.heap.size ≤ q → A q := fun q h => by rw [← hAe]; exact Or.inr h
  have hS : va_S A s.heap s.heap [] := va_S.rf
  have hP : va_P (dC, dI) vwCl [(a_k, .inr (6, [.ref a_m, .ref a_t, .ref a_u, .ref a_i, .ref a_p])), (a_t, .inr (5, [.int 0, .int 0, .int 0, .int 0, .int 0, .int 0, .int 0])), (a_u, .inr (2, [.ref a_d, .ref a_b, .ref a_c, .ref a_q, .int 0, .int 0, .int 0, .int 0, .ref a_s, .int 0, .int t])), (a_i, .inr (1, [.int 0, .int 0, .int 7, .int 0, .int 0, .int 0, .int 0])), (a_p, .inr (4, [.ref a_m, .ref a_t, .ref a_u, .ref a_i, .ref a_o, .ref a_r, .ref a_f, .int 0, .int 0, .int 0, .int tk])), (a_r, .inl (k_r, 8, .inl (fun _ => 0))), (a_f, .inr (0, [.int 0]))] s.heap := hP
  have hl := lv_entry ([.ref a_k, .int 12]) (n := 2) (Nat.le_of_ble_eq_true rfl)
  rw [lg_entry_eq]
  generalize (lg_sl ([.ref a_k, .int 12]) ++ List.replicate (2 - (lg_sl ([.ref a_k, .int 12])).length) Slot.unset).toArray = ls at hl ⊢
  have hl : lv_has ls 2 [(0, .ref a_k), (1, .int 12)] := hl
  refine lv_iload_n hx hb dX6_about_0 rfl (lv_at hl 1 rfl) ?_
  refine lv_tableIn (off := 152) (tgt := 153) hx hb dX6_about_1 (by decide) (by decide) rfl (by decide) ?_
  refine lv_aload_n hx hb dX6_about_153 rfl (lv_at hl 0 rfl) ?_
  refine va_get (D := (dC, dI)) (ci := 6) (v := .ref a_i) (C := RX6) (T := TX6) (N := 5) hx hb hts zx_6 hown hK hP 0 rfl rfl 3 (by decide) (hts (.fieldLink RX6 30 "KeyboardKit" "interrupts" "LKeyboardKit$Interrupts;") zw_291) (fun _ h9 => h9) rfl dX6_about_154 ?_
  refine va_getN (D := (dC, dI)) (ci := 1) (v := .int 0) (C := RX1) (T := TX1) (N := 7) hx hb hts zx_1 hown hK hP 3 rfl rfl 6 (by decide) (va_Nw.use rfl (nf_13 hN)) (fun _ h9 => h9) rfl dX6_about_157 ?_
  refine lv_if_eq (tgt := 167) hx hb dX6_about_160 (by decide) (fun c_1 => ?_) (fun c_1 => absurd c_1 (by decide))
  refine lv_iconst (v := 0) hx hb dX6_about_167 (by decide) ?_
  have hP9 := hP.sub (ws' := []) [] rfl
  have hD9 := hD.sub (ws' := []) [] (by decide) rfl
  have hK9 := hK.sub (tys' := []) [] rfl
  exact W.iret (v := 0) hx hb hr (fun t9 ht hW => ⟨⟨0, (), rfl, rfl, by rw [ht]; exact hP9, va_K.moved hW.alike hK9, hD9⟩, hS.F ht⟩) hS.2.2 dX6_about_168
set_option maxHeartbeats 4000000 in
set_option maxRecDepth 100000 in
/-- about(13) -/
theorem c_about13 (l : Launch) (dC : Nat → ClassId) (dI : Nat → Nat → Nat) (a_k : Nat) (a_m : Nat) (a_t : Nat) (a_u : Nat) (a_i : Nat) (a_p : Nat) (a_o : Nat) (a_r : Nat) (a_f : Nat) (a_d : Nat) (a_b : Nat) (a_c : Nat) (a_q : Nat) (a_s : Nat) (k_r : ClassId) (tk : Int32) (t : Int32) (sz : Nat) : Met l yX6_about (zq yX6_about cX6_about 2 (some .int)) ({ frames := 1, cells := 0, slots := 0, locals := 20 }) (va_Pc [.ref a_k, .int 13] (zc_P (dC, dI) [(a_k, .inr (6, [.ref a_m, .ref a_t, .ref a_u, .ref a_i, .ref a_p])), (a_t, .inr (5, [.int 0, .int 0, .int 0, .int 0, .int 0, .int 0, .int 0])), (a_u, .inr (2, [.ref a_d, .ref a_b, .ref a_c, .ref a_q, .int 0, .int 0, .int 0, .int 0, .ref a_s, .int 0, .int t])), (a_i, .inr (1, [.int 0, .int 0, .int 7, .int 0, .int 0, .int 0, .int 0])), (a_p, .inr (4, [.ref a_m, .ref a_t, .ref a_u, .ref a_i, .ref a_o, .ref a_r, .ref a_f, .int 0, .int 0, .int 0, .int tk])), (a_r, .inl (k_r, 8, .inl (fun _ => 0))), (a_f, .inr (0, [.int 0]))] [(k_r, .int)] sz)) (va_Qi (fun r _ => r = 0) (fun (u : Unit) t9 => zc_B (dC, dI) (va_A [(a_k, .inr (6, [.ref a_m, .ref a_t, .ref a_u, .ref a_i, .ref a_p])), (a_t, .inr (5, [.int 0, .int 0, .int 0, .int 0, .int 0, .int 0, .int 0])), (a_u, .inr (2, [.ref a_d, .ref a_b, .ref a_c, .ref a_q, .int 0, .int 0, .int 0, .int 0, .ref a_s, .int 0, .int t])), (a_i, .inr (1, [.int 0, .int 0, .int 7, .int 0, .int 0, .int 0, .int 0])), (a_p, .inr (4, [.ref a_m, .ref a_t, .ref a_u, .ref a_i, .ref a_o, .ref a_r, .ref a_f, .int 0, .int 0, .int 0, .int tk])), (a_r, .inl (k_r, 8, .inl (fun _ => 0))), (a_f, .inr (0, [.int 0]))] sz) [] [] t9) (va_A [(a_k, .inr (6, [.ref a_m, .ref a_t, .ref a_u, .ref a_i, .ref a_p])), (a_t, .inr (5, [.int 0, .int 0, .int 0, .int 0, .int 0, .int 0, .int 0])), (a_u, .inr (2, [.ref a_d, .ref a_b, .ref a_c, .ref a_q, .int 0, .int 0, .int 0, .int 0, .ref a_s, .int 0, .int t])), (a_i, .inr (1, [.int 0, .int 0, .int 7, .int 0, .int 0, .int 0, .int 0])), (a_p, .inr (4, [.ref a_m, .ref a_t, .ref a_u, .ref a_i, .ref a_o, .ref a_r, .ref a_f, .int 0, .int 0, .int 0, .int tk])), (a_r, .inl (k_r, 8, .inl (fun _ => 0))), (a_f, .inr (0, [.int 0]))] sz)) 0 0 (va_A [(a_k, .inr (6, [.ref a_m, .ref a_t, .ref a_u, .ref a_i, .ref a_p])), (a_t, .inr (5, [.int 0, .int 0, .int 0, .int 0, .int 0, .int 0, .int 0])), (a_u, .inr (2, [.ref a_d, .ref a_b, .ref a_c, .ref a_q, .int 0, .int 0, .int 0, .int 0, .ref a_s, .int 0, .int t])), (a_i, .inr (1, [.int 0, .int 0, .int 7, .int 0, .int 0, .int 0, .int 0])), (a_p, .inr (4, [.ref a_m, .ref a_t, .ref a_u, .ref a_i, .ref a_o, .ref a_r, .ref a_f, .int 0, .int 0, .int 0, .int tk])), (a_r, .inl (k_r, 8, .inl (fun _ => 0))), (a_f, .inr (0, [.int 0]))] sz) := by
  refine Met.ofW (cc := cX6_about) (maxL := 2) (ret := (some .int)) (by decide) rfl ?_
  intro p e s m args below meth c s₁ B hml hv
  obtain ⟨rfl, hsz, hP, hK, hD0, hN⟩ := hv
  have hx := B.exec
  have hb := B.bytes
  have hr := B.returns
  have hts : ∀ w ∈ zw, w.before _ s = true := fun w h => atoms_spec (ws := (zq yX6_about cX6_about 2 (some .int))) B.pre w (List.mem_cons_of_mem _ h)
  have hown : s.vm.findClass RX6 = some m.cls := findClass_of_methodNamed B.named
  have hlocks := B.notSynchronized
  subst hsz
  have hD := hD0.self (sz := s.heap.size)
  generalize hAe : va_A [(a_k, .inr (6, [.ref a_m, .ref a_t, .ref a_u, .ref a_i, .ref a_p])), (a_t, .inr (5, [.int 0, .int 0, .int 0, .int 0, .int 0, .int 0, .int 0])), (a_u, .inr (2, [.ref a_d, .ref a_b, .ref a_c, .ref a_q, .int 0, .int 0, .int 0, .int 0, .ref a_s, .int 0, .int t])), (a_i, .inr (1, [.int 0, .int 0, .int 7, .int 0, .int 0, .int 0, .int 0])), (a_p, .inr (4, [.ref a_m, .ref a_t, .ref a_u, .ref a_i, .ref a_o, .ref a_r, .ref a_f, .int 0, .int 0, .int 0, .int tk])), (a_r, .inl (k_r, 8, .inl (fun _ => 0))), (a_f, .inr (0, [.int 0]))] s.heap.size = A at hD ⊢
  have hA : ∀ q : Nat, s.heap.size ≤ q → A q := fun q h => by rw [← hAe]; exact Or.inr h
  have hS : va_S A s.heap s.heap [] := va_S.rf
  have hP : va_P (dC, dI) vwCl [(a_k, .inr (6, [.ref a_m, .ref a_t, .ref a_u, .ref a_i, .ref a_p])), (a_t, .inr (5, [.int 0, .int 0, .int 0, .int 0, .int 0, .int 0, .int 0])), (a_u, .inr (2, [.ref a_d, .ref a_b, .ref a_c, .ref a_q, .int 0, .int 0, .int 0, .int 0, .ref a_s, .int 0, .int t])), (a_i, .inr (1, [.int 0, .int 0, .int 7, .int 0, .int 0, .int 0, .int 0])), (a_p, .inr (4, [.ref a_m, .ref a_t, .ref a_u, .ref a_i, .ref a_o, .ref a_r, .ref a_f, .int 0, .int 0, .int 0, .int tk])), (a_r, .inl (k_r, 8, .inl (fun _ => 0))), (a_f, .inr (0, [.int 0]))] s.heap := hP
  have hl := lv_entry ([.ref a_k, .int 13]) (n := 2) (Nat.le_of_ble_eq_true rfl)
  rw [lg_entry_eq]
  generalize (lg_sl ([.ref a_k, .int 13]) ++ List.replicate (2 - (lg_sl ([.ref a_k, .int 13])).length) Slot.unset).toArray = ls at hl ⊢
  have hl : lv_has ls 2 [(0, .ref a_k), (1, .int 13)] := hl
  refine lv_iload_n hx hb dX6_about_0 rfl (lv_at hl 1 rfl) ?_
  refine lv_tableIn (off := 168) (tgt := 169) hx hb dX6_about_1 (by decide) (by decide) rfl (by decide) ?_
  refine lv_aload_n hx hb dX6_about_169 rfl (lv_at hl 0 rfl) ?_
  refine va_get (D := (dC, dI)) (ci := 6) (v := .ref a_t) (C := RX6) (T := TX6) (N := 5) hx hb hts zx_6 hown hK hP 0 rfl rfl 1 (by decide) (hts (.fieldLink RX6 16 "KeyboardKit" "timer" "LKeyboardKit$Timer;") zw_289) (fun _ h9 => h9) rfl dX6_about_170 ?_
  refine va_getN (D := (dC, dI)) (ci := 5) (v := .int 0) (C := RX5) (T := TX5) (N := 7) hx hb hts zx_5 hown hK hP 1 rfl rfl 6 (by decide) (va_Nw.use rfl (nf_2 hN)) (fun _ h9 => h9) rfl dX6_about_173 ?_
  have hP9 := hP.sub (ws' := []) [] rfl
  have hD9 := hD.sub (ws' := []) [] (by decide) rfl
  have hK9 := hK.sub (tys' := []) [] rfl
  exact W.iret (v := 0) hx hb hr (fun t9 ht hW => ⟨⟨0, (), rfl, rfl, by rw [ht]; exact hP9, va_K.moved hW.alike hK9, hD9⟩, hS.F ht⟩) hS.2.2 dX6_about_176
set_option maxHeartbeats 4000000 in
set_option maxRecDepth 100000 in
/-- about(14) -/
theorem c_about14 (l : Launch) (dC : Nat → ClassId) (dI : Nat → Nat → Nat) (a_k : Nat) (a_m : Nat) (a_t : Nat) (a_u : Nat) (a_i : Nat) (a_p : Nat) (a_o : Nat) (a_r : Nat) (a_f : Nat) (a_d : Nat) (a_b : Nat) (a_c : Nat) (a_q : Nat) (a_s : Nat) (k_r : ClassId) (tk : Int32) (t : Int32) (sz : Nat) : Met l yX6_about (zq yX6_about cX6_about 2 (some .int)) ({ frames := 1, cells := 0, slots := 0, locals := 20 }) (va_Pc [.ref a_k, .int 14] (zc_P (dC, dI) [(a_k, .inr (6, [.ref a_m, .ref a_t, .ref a_u, .ref a_i, .ref a_p])), (a_t, .inr (5, [.int 0, .int 0, .int 0, .int 0, .int 0, .int 0, .int 0])), (a_u, .inr (2, [.ref a_d, .ref a_b, .ref a_c, .ref a_q, .int 0, .int 0, .int 0, .int 0, .ref a_s, .int 0, .int t])), (a_i, .inr (1, [.int 0, .int 0, .int 7, .int 0, .int 0, .int 0, .int 0])), (a_p, .inr (4, [.ref a_m, .ref a_t, .ref a_u, .ref a_i, .ref a_o, .ref a_r, .ref a_f, .int 0, .int 0, .int 0, .int tk])), (a_r, .inl (k_r, 8, .inl (fun _ => 0))), (a_f, .inr (0, [.int 0]))] [(k_r, .int)] sz)) (va_Qi (fun r _ => r = 0) (fun (u : Unit) t9 => zc_B (dC, dI) (va_A [(a_k, .inr (6, [.ref a_m, .ref a_t, .ref a_u, .ref a_i, .ref a_p])), (a_t, .inr (5, [.int 0, .int 0, .int 0, .int 0, .int 0, .int 0, .int 0])), (a_u, .inr (2, [.ref a_d, .ref a_b, .ref a_c, .ref a_q, .int 0, .int 0, .int 0, .int 0, .ref a_s, .int 0, .int t])), (a_i, .inr (1, [.int 0, .int 0, .int 7, .int 0, .int 0, .int 0, .int 0])), (a_p, .inr (4, [.ref a_m, .ref a_t, .ref a_u, .ref a_i, .ref a_o, .ref a_r, .ref a_f, .int 0, .int 0, .int 0, .int tk])), (a_r, .inl (k_r, 8, .inl (fun _ => 0))), (a_f, .inr (0, [.int 0]))] sz) [] [] t9) (va_A [(a_k, .inr (6, [.ref a_m, .ref a_t, .ref a_u, .ref a_i, .ref a_p])), (a_t, .inr (5, [.int 0, .int 0, .int 0, .int 0, .int 0, .int 0, .int 0])), (a_u, .inr (2, [.ref a_d, .ref a_b, .ref a_c, .ref a_q, .int 0, .int 0, .int 0, .int 0, .ref a_s, .int 0, .int t])), (a_i, .inr (1, [.int 0, .int 0, .int 7, .int 0, .int 0, .int 0, .int 0])), (a_p, .inr (4, [.ref a_m, .ref a_t, .ref a_u, .ref a_i, .ref a_o, .ref a_r, .ref a_f, .int 0, .int 0, .int 0, .int tk])), (a_r, .inl (k_r, 8, .inl (fun _ => 0))), (a_f, .inr (0, [.int 0]))] sz)) 0 0 (va_A [(a_k, .inr (6, [.ref a_m, .ref a_t, .ref a_u, .ref a_i, .ref a_p])), (a_t, .inr (5, [.int 0, .int 0, .int 0, .int 0, .int 0, .int 0, .int 0])), (a_u, .inr (2, [.ref a_d, .ref a_b, .ref a_c, .ref a_q, .int 0, .int 0, .int 0, .int 0, .ref a_s, .int 0, .int t])), (a_i, .inr (1, [.int 0, .int 0, .int 7, .int 0, .int 0, .int 0, .int 0])), (a_p, .inr (4, [.ref a_m, .ref a_t, .ref a_u, .ref a_i, .ref a_o, .ref a_r, .ref a_f, .int 0, .int 0, .int 0, .int tk])), (a_r, .inl (k_r, 8, .inl (fun _ => 0))), (a_f, .inr (0, [.int 0]))] sz) := by
  refine Met.ofW (cc := cX6_about) (maxL := 2) (ret := (some .int)) (by decide) rfl ?_
  intro p e s m args below meth c s₁ B hml hv
  obtain ⟨rfl, hsz, hP, hK, hD0, hN⟩ := hv
  have hx := B.exec
  have hb := B.bytes
  have hr := B.returns
  have hts : ∀ w ∈ zw, w.before _ s = true := fun w h => atoms_spec (ws := (zq yX6_about cX6_about 2 (some .int))) B.pre w (List.mem_cons_of_mem _ h)
  have hown : s.vm.findClass RX6 = some m.cls := findClass_of_methodNamed B.named
  have hlocks := B.notSynchronized
  subst hsz
  have hD := hD0.self (sz := s.heap.size)
  generalize hAe : va_A [(a_k, .inr (6, [.ref a_m, .ref a_t, .ref a_u, .ref a_i, .ref a_p])), (a_t, .inr (5, [.int 0, .int 0, .int 0, .int 0, .int 0, .int 0, .int 0])), (a_u, .inr (2, [.ref a_d, .ref a_b, .ref a_c, .ref a_q, .int 0, .int 0, .int 0, .int 0, .ref a_s, .int 0, .int t])), (a_i, .inr (1, [.int 0, .int 0, .int 7, .int 0, .int 0, .int 0, .int 0])), (a_p, .inr (4, [.ref a_m, .ref a_t, .ref a_u, .ref a_i, .ref a_o, .ref a_r, .ref a_f, .int 0, .int 0, .int 0, .int tk])), (a_r, .inl (k_r, 8, .inl (fun _ => 0))), (a_f, .inr (0, [.int 0]))] s.heap.size = A at hD ⊢
  have hA : ∀ q : Nat, s.heap.size ≤ q → A q := fun q h => by rw [← hAe]; exact Or.inr h
  have hS : va_S A s.heap s.heap [] := va_S.rf
  have hP : va_P (dC, dI) vwCl [(a_k, .inr (6, [.ref a_m, .ref a_t, .ref a_u, .ref a_i, .ref a_p])), (a_t, .inr (5, [.int 0, .int 0, .int 0, .int 0, .int 0, .int 0, .int 0])), (a_u, .inr (2, [.ref a_d, .ref a_b, .ref a_c, .ref a_q, .int 0, .int 0, .int 0, .int 0, .ref a_s, .int 0, .int t])), (a_i, .inr (1, [.int 0, .int 0, .int 7, .int 0, .int 0, .int 0, .int 0])), (a_p, .inr (4, [.ref a_m, .ref a_t, .ref a_u, .ref a_i, .ref a_o, .ref a_r, .ref a_f, .int 0, .int 0, .int 0, .int tk])), (a_r, .inl (k_r, 8, .inl (fun _ => 0))), (a_f, .inr (0, [.int 0]))] s.heap := hP
  have hl := lv_entry ([.ref a_k, .int 14]) (n := 2) (Nat.le_of_ble_eq_true rfl)
  rw [lg_entry_eq]
  generalize (lg_sl ([.ref a_k, .int 14]) ++ List.replicate (2 - (lg_sl ([.ref a_k, .int 14])).length) Slot.unset).toArray = ls at hl ⊢
  have hl : lv_has ls 2 [(0, .ref a_k), (1, .int 14)] := hl
  refine lv_iload_n hx hb dX6_about_0 rfl (lv_at hl 1 rfl) ?_
  refine lv_tableIn (off := 176) (tgt := 177) hx hb dX6_about_1 (by decide) (by decide) rfl (by decide) ?_
  refine lv_aload_n hx hb dX6_about_177 rfl (lv_at hl 0 rfl) ?_
  refine va_get (D := (dC, dI)) (ci := 6) (v := .ref a_u) (C := RX6) (T := TX6) (N := 5) hx hb hts zx_6 hown hK hP 0 rfl rfl 2 (by decide) (hts (.fieldLink RX6 23 "KeyboardKit" "unit" "LKeyboardKit$KeyUnit;") zw_290) (fun _ h9 => h9) rfl dX6_about_178 ?_
  refine zc_i (wr := [(a_k, .inr (6, [.ref a_m, .ref a_t, .ref a_u, .ref a_i, .ref a_p])), (a_t, .inr (5, [.int 0, .int 0, .int 0, .int 0, .int 0, .int 0, .int 0])), (a_i, .inr (1, [.int 0, .int 0, .int 7, .int 0, .int 0, .int 0, .int 0])), (a_p, .inr (4, [.ref a_m, .ref a_t, .ref a_u, .ref a_i, .ref a_o, .ref a_r, .ref a_f, .int 0, .int 0, .int 0, .int tk])), (a_r, .inl (k_r, 8, .inl (fun _ => 0))), (a_f, .inr (0, [.int 0]))]) hP hD hS hA [2] [0, 1, 3, 4, 5, 6] rfl rfl (by decide) (by decide) (va_runV (As := []) (rest := []) ⟨hx, hb, hml, hown, hts⟩ (c_status l dC dI a_u a_d a_b a_c a_q a_s t _) (cwV 0 hts (zg_V zw_695 zw_538 zw_539 zw_85 zw_540) rfl rfl rfl (by decide +kernel) ⟨Nat.le_of_ble_eq_true rfl, Nat.le_of_ble_eq_true rfl⟩) ⟨zc_blind, va_recv hK hP (ci := 2) (q0 := 2) rfl rfl, zc_start hP hD hK hN [2] [] rfl (by decide) rfl⟩ rfl rfl hl.1 rfl (lv_room (Nat.le_of_ble_eq_true rfl)) dX6_about_181 ⟨Nat.le_of_ble_eq_true rfl, Nat.le_of_ble_eq_true rfl⟩) (fun r_1 u_1 H locs hw hK1 hP hD hS => ?_)
  have hP : va_P (dC, dI) vwCl [(a_k, .inr (6, [.ref a_m, .ref a_t, .ref a_u, .ref a_i, .ref a_p])), (a_t, .inr (5, [.int 0, .int 0, .int 0, .int 0, .int 0, .int 0, .int 0])), (a_i, .inr (1, [.int 0, .int 0, .int 7, .int 0, .int 0, .int 0, .int 0])), (a_p, .inr (4, [.ref a_m, .ref a_t, .ref a_u, .ref a_i, .ref a_o, .ref a_r, .ref a_f, .int 0, .int 0, .int 0, .int tk])), (a_r, .inl (k_r, 8, .inl (fun _ => 0))), (a_f, .inr (0, [.int 0])), (a_u, .inr (2, [.ref a_d, .ref a_b, .ref a_c, .ref a_q, .int 0, .int 0, .int 0, .int 0, .ref a_s, .int 0, .int t]))] H := hP
  have hD : va_D A [(a_k, .inr (6, [.ref a_m, .ref a_t, .ref a_u, .ref a_i, .ref a_p])), (a_t, .inr (5, [.int 0, .int 0, .int 0, .int 0, .int 0, .int 0, .int 0])), (a_i, .inr (1, [.int 0, .int 0, .int 7, .int 0, .int 0, .int 0, .int 0])), (a_p, .inr (4, [.ref a_m, .ref a_t, .ref a_u, .ref a_i, .ref a_o, .ref a_r, .ref a_f, .int 0, .int 0, .int 0, .int tk])), (a_r, .inl (k_r, 8, .inl (fun _ => 0))), (a_f, .inr (0, [.int 0])), (a_u, .inr (2, [.ref a_d, .ref a_b, .ref a_c, .ref a_q, .int 0, .int 0, .int 0, .int 0, .ref a_s, .int 0, .int t]))] := hD
  obtain rfl : r_1 = 0 := hw
  have hP9 := hP.sub (ws' := []) [] rfl
  have hD9 := hD.sub (ws' := []) [] (by decide) rfl
  have hK9 := hK.sub (tys' := []) [] rfl
  exact W.iret (v := 0) hx hb hr (fun t9 ht hW => ⟨⟨0, (), rfl, rfl, by rw [ht]; exact hP9, va_K.moved hW.alike hK9, hD9⟩, hS.F ht⟩) hS.2.2 dX6_about_184
