theorem dL_about_0 : decode cL_about 0 = .ok (.aload_n 2, 1) := by decide +kernel
theorem dL_about_1 : decode cL_about 1 = .ok (.iconst 0, 1) := by decide +kernel
theorem dL_about_12 : decode cL_about 12 = .ok (.astore_n 3, 1) := by decide +kernel
theorem dL_about_13 : decode cL_about 13 = .ok (.iconst 1, 1) := by decide +kernel
theorem dL_about_14 : decode cL_about 14 = .ok (.ireturn, 1) := by decide +kernel
theorem dL_about_2 : decode cL_about 2 = .ok (.aload_n 0, 1) := by decide +kernel
theorem dL_about_3 : decode cL_about 3 = .ok (.iload_n 1, 1) := by decide +kernel
theorem dL_about_4 : decode cL_about 4 = .ok (.invokevirtual 24, 3) := by decide +kernel
theorem dL_key_0 : decode cL_key 0 = .ok (.aload_n 3, 1) := by decide +kernel
theorem dL_key_1 : decode cL_key 1 = .ok (.iconst 0, 1) := by decide +kernel
theorem dL_key_2 : decode cL_key 2 = .ok (.aload_n 0, 1) := by decide +kernel
theorem dL_key_20 : decode cL_key 20 = .ok (.astore 4, 2) := by decide +kernel
theorem dL_key_22 : decode cL_key 22 = .ok (.iconst 1, 1) := by decide +kernel
theorem dL_key_23 : decode cL_key 23 = .ok (.ireturn, 1) := by decide +kernel
theorem dL_key_3 : decode cL_key 3 = .ok (.iload_n 1, 1) := by decide +kernel
theorem dL_key_4 : decode cL_key 4 = .ok (.iload_n 2, 1) := by decide +kernel
theorem dL_key_5 : decode cL_key 5 = .ok (.invokevirtual 15, 3) := by decide +kernel
theorem dL_line_0 : decode cL_line 0 = .ok (.aload_n 3, 1) := by decide +kernel
theorem dL_line_1 : decode cL_line 1 = .ok (.iconst 0, 1) := by decide +kernel
theorem dL_line_2 : decode cL_line 2 = .ok (.aload_n 0, 1) := by decide +kernel
theorem dL_line_20 : decode cL_line 20 = .ok (.astore 4, 2) := by decide +kernel
theorem dL_line_22 : decode cL_line 22 = .ok (.iconst 1, 1) := by decide +kernel
theorem dL_line_23 : decode cL_line 23 = .ok (.ireturn, 1) := by decide +kernel
theorem dL_line_3 : decode cL_line 3 = .ok (.iload_n 1, 1) := by decide +kernel
theorem dL_line_4 : decode cL_line 4 = .ok (.iload_n 2, 1) := by decide +kernel
theorem dL_line_5 : decode cL_line 5 = .ok (.invokevirtual 21, 3) := by decide +kernel
theorem dL_set_0 : decode cL_set 0 = .ok (.aload_n 0, 1) := by decide +kernel
theorem dL_set_1 : decode cL_set 1 = .ok (.iload_n 1, 1) := by decide +kernel
theorem dL_set_10 : decode cL_set 10 = .ok (.iconst 1, 1) := by decide +kernel
theorem dL_set_11 : decode cL_set 11 = .ok (.ireturn, 1) := by decide +kernel
theorem dL_set_2 : decode cL_set 2 = .ok (.iload_n 2, 1) := by decide +kernel
theorem dL_set_3 : decode cL_set 3 = .ok (.invokevirtual 30, 3) := by decide +kernel
theorem dL_set_9 : decode cL_set 9 = .ok (.astore_n 3, 1) := by decide +kernel
theorem dL_shown_0 : decode cL_shown 0 = .ok (.aload_n 2, 1) := by decide +kernel
theorem dL_shown_1 : decode cL_shown 1 = .ok (.iconst 0, 1) := by decide +kernel
theorem dL_shown_12 : decode cL_shown 12 = .ok (.astore_n 3, 1) := by decide +kernel
theorem dL_shown_13 : decode cL_shown 13 = .ok (.iconst 1, 1) := by decide +kernel
theorem dL_shown_14 : decode cL_shown 14 = .ok (.ireturn, 1) := by decide +kernel
theorem dL_shown_2 : decode cL_shown 2 = .ok (.aload_n 0, 1) := by decide +kernel
theorem dL_shown_3 : decode cL_shown 3 = .ok (.iload_n 1, 1) := by decide +kernel
theorem dL_shown_4 : decode cL_shown 4 = .ok (.invokevirtual 27, 3) := by decide +kernel
theorem dL_steps_0 : decode cL_steps 0 = .ok (.aload_n 2, 1) := by decide +kernel
theorem dL_steps_1 : decode cL_steps 1 = .ok (.iconst 0, 1) := by decide +kernel
theorem dL_steps_12 : decode cL_steps 12 = .ok (.astore_n 3, 1) := by decide +kernel
theorem dL_steps_13 : decode cL_steps 13 = .ok (.iconst 1, 1) := by decide +kernel
theorem dL_steps_14 : decode cL_steps 14 = .ok (.ireturn, 1) := by decide +kernel
theorem dL_steps_2 : decode cL_steps 2 = .ok (.aload_n 0, 1) := by decide +kernel
theorem dL_steps_3 : decode cL_steps 3 = .ok (.iload_n 1, 1) := by decide +kernel
theorem dL_steps_4 : decode cL_steps 4 = .ok (.invokevirtual 7, 3) := by decide +kernel
theorem zt_blind2 {D : va_G} {W0 : va_W} {T : List (ClassId × FieldType)} {sz : Nat} {av : List Value} : FrameBlind (va_Pc av (fun U => zc_P D W0 T sz U ∧ zt_P U)) :=
  fun a U g mk q => ⟨q.1, (zc_blind (av := av) a U g mk ⟨q.1, q.2.1⟩).2, (zt_blind (av := av) a U g mk ⟨q.1, q.2.2⟩).2⟩
theorem zt_at {A : Nat → Prop} {s U : State} {H : Heap} {locs : List Loc} (hZ : za A s s.heap) (hS : va_S A s.heap H locs) (hU : U.heap = H) (hW : s.WarmedH U.vm) : zt_P U := by
  unfold zt_P
  rw [hU]
  exact ((hZ.kept hS.2.1).warm hW).narrow (fun _ h => h.elim)
set_option maxHeartbeats 4000000 in
set_option maxRecDepth 100000 in
theorem w_steps_neg (l : Launch) (hf : l.flags = pinnedFlags ++ [noTraceFlag]) (dC : Nat → ClassId) (dI : Nat → Nat → Nat) (a_k : Nat) (a_m : Nat) (a_t : Nat) (a_u : Nat) (a_i : Nat) (a_p : Nat) (o_l : Nat) (n0 : Int32) (hb0 : n0 < 0) (sz : Nat) : Met l yL_steps (Cond.codeWith yL_steps cL_steps 4 (some .int) [(0, 9, 12, 13)] :: zw) ({ frames := 7, cells := 1, slots := 6, locals := 113 }) (va_Pc [.ref a_k, .int n0, .ref o_l] (fun U => zc_P (dC, dI) [(a_k, .inr (6, [.ref a_m, .ref a_t, .ref a_u, .ref a_i, .ref a_p]))] [] sz U ∧ zt_P U)) (va_Qi (fun r _ => r = 1) (fun (u : Unit) t9 => zc_B (dC, dI) (va_A [(a_k, .inr (6, [.ref a_m, .ref a_t, .ref a_u, .ref a_i, .ref a_p]))] sz) [(a_k, .inr (6, [.ref a_m, .ref a_t, .ref a_u, .ref a_i, .ref a_p]))] [] t9) (va_A [(a_k, .inr (6, [.ref a_m, .ref a_t, .ref a_u, .ref a_i, .ref a_p]))] sz)) 1 6 (va_A [(a_k, .inr (6, [.ref a_m, .ref a_t, .ref a_u, .ref a_i, .ref a_p]))] sz) := by
  refine va_MetW (hh := [(0, 9, 12, 13)]) (cc := cL_steps) (maxL := 4) (ret := (some .int)) (by decide) rfl ?_
  intro p e s m args below meth c s₁ B hml hv
  obtain ⟨rfl, ⟨hsz, hP, hK, hD0, hN⟩, hZ⟩ := hv
  have hx := B.exec
  have hb := B.bytes
  have hr := B.returns
  have hts : ∀ w ∈ zw, w.before _ s = true := fun w h => atoms_spec (ws := (Cond.codeWith yL_steps cL_steps 4 (some .int) [(0, 9, 12, 13)] :: zw)) B.pre w (List.mem_cons_of_mem _ h)
  have hown : s.vm.findClass RL = some m.cls := findClass_of_methodNamed B.named
  have hlocks := B.notSynchronized
  subst hsz
  have hD := hD0.self (sz := s.heap.size)
  generalize hAe : va_A [(a_k, .inr (6, [.ref a_m, .ref a_t, .ref a_u, .ref a_i, .ref a_p]))] s.heap.size = A at hD ⊢
  have hA : ∀ q : Nat, s.heap.size ≤ q → A q := fun q h => by rw [← hAe]; exact Or.inr h
  have hS : va_S A s.heap s.heap [] := va_S.rf
  have hP : va_P (dC, dI) vwCl [(a_k, .inr (6, [.ref a_m, .ref a_t, .ref a_u, .ref a_i, .ref a_p]))] s.heap := hP
  have hl := lv_entry ([.ref a_k, .int n0, .ref o_l]) (n := 4) (Nat.le_of_ble_eq_true rfl)
  rw [lg_entry_eq]
  generalize (lg_sl ([.ref a_k, .int n0, .ref o_l]) ++ List.replicate (4 - (lg_sl ([.ref a_k, .int n0, .ref o_l])).length) Slot.unset).toArray = ls at hl ⊢
  have hl : lv_has ls 4 [(0, .ref a_k), (1, .int n0), (2, .ref o_l)] := hl
  refine lv_aload_n hx hb dL_steps_0 rfl (lv_at hl 2 rfl) ?_
  refine lv_iconst (v := 0) hx hb dL_steps_1 (by decide) ?_
  refine lv_aload_n hx hb dL_steps_2 rfl (lv_at hl 0 rfl) ?_
  refine lv_iload_n hx hb dL_steps_3 rfl (lv_at hl 1 rfl) ?_
  have hT : c.exceptionTable.toList = [⟨0, 9, 12, 13⟩] := vx_table (x := yL_steps) B (atoms_spec (ws := (Cond.codeWith yL_steps cL_steps 4 (some .int) [(0, 9, 12, 13)] :: zw)) B.pre _ List.mem_cons_self)
  refine zt_callV (As := [.int n0]) (rest := [.int 0, .ref o_l]) ⟨hx, hb, hml, hown, hts⟩ (x_steps_neg l hf a_k n0 hb0) (cwV 1 hts (zg_V zw_585 zw_586 zw_587 zw_83 zw_588) rfl rfl rfl (by decide +kernel) ⟨Nat.le_of_ble_eq_true rfl, Nat.le_of_ble_eq_true rfl⟩) ⟨zt_blind, va_recv hK hP (ci := 6) (q0 := 0) rfl rfl, fun U hU hW => ⟨rfl, zt_at hZ (va_S.rf (A := fun _ => False)) hU hW⟩⟩ rfl hl.1 (Nat.le_of_ble_eq_true rfl) dL_steps_4 ⟨Nat.le_of_ble_eq_true rfl, Nat.le_of_ble_eq_true rfl⟩ (x := ⟨0, 9, 12, 13⟩) hT (by decide) (by decide) (hts (.classLink RL 13 "java/lang/IllegalArgumentException") zw_584) (va_Nw.use rfl (hZ.2.2.2.1 "java/lang/IllegalArgumentException" (List.mem_of_getElem? (i := 0) rfl))) (fun a H1 h1 h2 => ?_)
  have hS := zt_S hS h1 h2
  have hP := hP.kept (H1 := H1) (fun k q hk => h2 q.1 ((hP k q hk).lt))
  have hD := hD
  refine lv_astore_n (lv' := [(3, .ref a), (0, .ref a_k), (1, .int n0), (2, .ref o_l)]) hx hb dL_steps_12 rfl hl (by decide) rfl (fun ls hl => ?_)
  refine lv_iconst (v := 1) hx hb dL_steps_13 (by decide) ?_
  have hP9 := hP.sub (ws' := [(a_k, .inr (6, [.ref a_m, .ref a_t, .ref a_u, .ref a_i, .ref a_p]))]) [0] rfl
  have hD9 := hD.sub (ws' := [(a_k, .inr (6, [.ref a_m, .ref a_t, .ref a_u, .ref a_i, .ref a_p]))]) [0] (by decide) rfl
  have hK9 := hK.sub (tys' := []) [] rfl
  exact W.iret (v := 1) hx hb hr (fun t9 ht hW => ⟨⟨1, (), rfl, rfl, by rw [ht]; exact hP9, va_K.moved hW.alike hK9, hD9⟩, hS.F ht⟩) hS.2.2 dL_steps_14
set_option maxHeartbeats 4000000 in
set_option maxRecDepth 100000 in
theorem w_steps_big (l : Launch) (hf : l.flags = pinnedFlags ++ [noTraceFlag]) (dC : Nat → ClassId) (dI : Nat → Nat → Nat) (a_k : Nat) (a_m : Nat) (a_t : Nat) (a_u : Nat) (a_i : Nat) (a_p : Nat) (o_l : Nat) (n0 : Int32) (hb0 : ¬ n0 < 0) (hb1 : ¬ n0 ≤ 200) (sz : Nat) : Met l yL_steps (Cond.codeWith yL_steps cL_steps 4 (some .int) [(0, 9, 12, 13)] :: zw) ({ frames := 7, cells := 1, slots := 6, locals := 113 }) (va_Pc [.ref a_k, .int n0, .ref o_l] (fun U => zc_P (dC, dI) [(a_k, .inr (6, [.ref a_m, .ref a_t, .ref a_u, .ref a_i, .ref a_p]))] [] sz U ∧ zt_P U)) (va_Qi (fun r _ => r = 1) (fun (u : Unit) t9 => zc_B (dC, dI) (va_A [(a_k, .inr (6, [.ref a_m, .ref a_t, .ref a_u, .ref a_i, .ref a_p]))] sz) [(a_k, .inr (6, [.ref a_m, .ref a_t, .ref a_u, .ref a_i, .ref a_p]))] [] t9) (va_A [(a_k, .inr (6, [.ref a_m, .ref a_t, .ref a_u, .ref a_i, .ref a_p]))] sz)) 1 6 (va_A [(a_k, .inr (6, [.ref a_m, .ref a_t, .ref a_u, .ref a_i, .ref a_p]))] sz) := by
  refine va_MetW (hh := [(0, 9, 12, 13)]) (cc := cL_steps) (maxL := 4) (ret := (some .int)) (by decide) rfl ?_
  intro p e s m args below meth c s₁ B hml hv
  obtain ⟨rfl, ⟨hsz, hP, hK, hD0, hN⟩, hZ⟩ := hv
  have hx := B.exec
  have hb := B.bytes
  have hr := B.returns
  have hts : ∀ w ∈ zw, w.before _ s = true := fun w h => atoms_spec (ws := (Cond.codeWith yL_steps cL_steps 4 (some .int) [(0, 9, 12, 13)] :: zw)) B.pre w (List.mem_cons_of_mem _ h)
  have hown : s.vm.findClass RL = some m.cls := findClass_of_methodNamed B.named
  have hlocks := B.notSynchronized
  subst hsz
  have hD := hD0.self (sz := s.heap.size)
  generalize hAe : va_A [(a_k, .inr (6, [.ref a_m, .ref a_t, .ref a_u, .ref a_i, .ref a_p]))] s.heap.size = A at hD ⊢
  have hA : ∀ q : Nat, s.heap.size ≤ q → A q := fun q h => by rw [← hAe]; exact Or.inr h
  have hS : va_S A s.heap s.heap [] := va_S.rf
  have hP : va_P (dC, dI) vwCl [(a_k, .inr (6, [.ref a_m, .ref a_t, .ref a_u, .ref a_i, .ref a_p]))] s.heap := hP
  have hl := lv_entry ([.ref a_k, .int n0, .ref o_l]) (n := 4) (Nat.le_of_ble_eq_true rfl)
  rw [lg_entry_eq]
  generalize (lg_sl ([.ref a_k, .int n0, .ref o_l]) ++ List.replicate (4 - (lg_sl ([.ref a_k, .int n0, .ref o_l])).length) Slot.unset).toArray = ls at hl ⊢
  have hl : lv_has ls 4 [(0, .ref a_k), (1, .int n0), (2, .ref o_l)] := hl
  refine lv_aload_n hx hb dL_steps_0 rfl (lv_at hl 2 rfl) ?_
  refine lv_iconst (v := 0) hx hb dL_steps_1 (by decide) ?_
  refine lv_aload_n hx hb dL_steps_2 rfl (lv_at hl 0 rfl) ?_
  refine lv_iload_n hx hb dL_steps_3 rfl (lv_at hl 1 rfl) ?_
  have hT : c.exceptionTable.toList = [⟨0, 9, 12, 13⟩] := vx_table (x := yL_steps) B (atoms_spec (ws := (Cond.codeWith yL_steps cL_steps 4 (some .int) [(0, 9, 12, 13)] :: zw)) B.pre _ List.mem_cons_self)
  refine zt_callV (As := [.int n0]) (rest := [.int 0, .ref o_l]) ⟨hx, hb, hml, hown, hts⟩ (x_steps_big l hf a_k n0 hb0 hb1) (cwV 1 hts (zg_V zw_585 zw_586 zw_587 zw_83 zw_588) rfl rfl rfl (by decide +kernel) ⟨Nat.le_of_ble_eq_true rfl, Nat.le_of_ble_eq_true rfl⟩) ⟨zt_blind, va_recv hK hP (ci := 6) (q0 := 0) rfl rfl, fun U hU hW => ⟨rfl, zt_at hZ (va_S.rf (A := fun _ => False)) hU hW⟩⟩ rfl hl.1 (Nat.le_of_ble_eq_true rfl) dL_steps_4 ⟨Nat.le_of_ble_eq_true rfl, Nat.le_of_ble_eq_true rfl⟩ (x := ⟨0, 9, 12, 13⟩) hT (by decide) (by decide) (hts (.classLink RL 13 "java/lang/IllegalArgumentException") zw_584) (va_Nw.use rfl (hZ.2.2.2.1 "java/lang/IllegalArgumentException" (List.mem_of_getElem? (i := 0) rfl))) (fun a H1 h1 h2 => ?_)
  have hS := zt_S hS h1 h2
  have hP := hP.kept (H1 := H1) (fun k q hk => h2 q.1 ((hP k q hk).lt))
  have hD := hD
  refine lv_astore_n (lv' := [(3, .ref a), (0, .ref a_k), (1, .int n0), (2, .ref o_l)]) hx hb dL_steps_12 rfl hl (by decide) rfl (fun ls hl => ?_)
  refine lv_iconst (v := 1) hx hb dL_steps_13 (by decide) ?_
  have hP9 := hP.sub (ws' := [(a_k, .inr (6, [.ref a_m, .ref a_t, .ref a_u, .ref a_i, .ref a_p]))]) [0] rfl
  have hD9 := hD.sub (ws' := [(a_k, .inr (6, [.ref a_m, .ref a_t, .ref a_u, .ref a_i, .ref a_p]))]) [0] (by decide) rfl
  have hK9 := hK.sub (tys' := []) [] rfl
  exact W.iret (v := 1) hx hb hr (fun t9 ht hW => ⟨⟨1, (), rfl, rfl, by rw [ht]; exact hP9, va_K.moved hW.alike hK9, hD9⟩, hS.F ht⟩) hS.2.2 dL_steps_14
set_option maxHeartbeats 4000000 in
set_option maxRecDepth 100000 in
theorem w_key_neg (l : Launch) (hf : l.flags = pinnedFlags ++ [noTraceFlag]) (dC : Nat → ClassId) (dI : Nat → Nat → Nat) (a_k : Nat) (a_m : Nat) (a_t : Nat) (a_u : Nat) (a_i : Nat) (a_p : Nat) (o_l : Nat) (k : Int32) (b : Int32) (hb0 : k < 0) (sz : Nat) : Met l yL_key (Cond.codeWith yL_key cL_key 5 (some .int) [(0, 17, 20, 19)] :: zw) ({ frames := 7, cells := 1, slots := 6, locals := 113 }) (va_Pc [.ref a_k, .int k, .int b, .ref o_l] (fun U => zc_P (dC, dI) [(a_k, .inr (6, [.ref a_m, .ref a_t, .ref a_u, .ref a_i, .ref a_p]))] [] sz U ∧ zt_P U)) (va_Qi (fun r _ => r = 1) (fun (u : Unit) t9 => zc_B (dC, dI) (va_A [(a_k, .inr (6, [.ref a_m, .ref a_t, .ref a_u, .ref a_i, .ref a_p]))] sz) [(a_k, .inr (6, [.ref a_m, .ref a_t, .ref a_u, .ref a_i, .ref a_p]))] [] t9) (va_A [(a_k, .inr (6, [.ref a_m, .ref a_t, .ref a_u, .ref a_i, .ref a_p]))] sz)) 1 6 (va_A [(a_k, .inr (6, [.ref a_m, .ref a_t, .ref a_u, .ref a_i, .ref a_p]))] sz) := by
  refine va_MetW (hh := [(0, 17, 20, 19)]) (cc := cL_key) (maxL := 5) (ret := (some .int)) (by decide) rfl ?_
  intro p e s m args below meth c s₁ B hml hv
  obtain ⟨rfl, ⟨hsz, hP, hK, hD0, hN⟩, hZ⟩ := hv
  have hx := B.exec
  have hb := B.bytes
  have hr := B.returns
  have hts : ∀ w ∈ zw, w.before _ s = true := fun w h => atoms_spec (ws := (Cond.codeWith yL_key cL_key 5 (some .int) [(0, 17, 20, 19)] :: zw)) B.pre w (List.mem_cons_of_mem _ h)
  have hown : s.vm.findClass RL = some m.cls := findClass_of_methodNamed B.named
  have hlocks := B.notSynchronized
  subst hsz
  have hD := hD0.self (sz := s.heap.size)
  generalize hAe : va_A [(a_k, .inr (6, [.ref a_m, .ref a_t, .ref a_u, .ref a_i, .ref a_p]))] s.heap.size = A at hD ⊢
  have hA : ∀ q : Nat, s.heap.size ≤ q → A q := fun q h => by rw [← hAe]; exact Or.inr h
  have hS : va_S A s.heap s.heap [] := va_S.rf
  have hP : va_P (dC, dI) vwCl [(a_k, .inr (6, [.ref a_m, .ref a_t, .ref a_u, .ref a_i, .ref a_p]))] s.heap := hP
  have hl := lv_entry ([.ref a_k, .int k, .int b, .ref o_l]) (n := 5) (Nat.le_of_ble_eq_true rfl)
  rw [lg_entry_eq]
  generalize (lg_sl ([.ref a_k, .int k, .int b, .ref o_l]) ++ List.replicate (5 - (lg_sl ([.ref a_k, .int k, .int b, .ref o_l])).length) Slot.unset).toArray = ls at hl ⊢
  have hl : lv_has ls 5 [(0, .ref a_k), (1, .int k), (2, .int b), (3, .ref o_l)] := hl
  refine lv_aload_n hx hb dL_key_0 rfl (lv_at hl 3 rfl) ?_
  refine lv_iconst (v := 0) hx hb dL_key_1 (by decide) ?_
  refine lv_aload_n hx hb dL_key_2 rfl (lv_at hl 0 rfl) ?_
  refine lv_iload_n hx hb dL_key_3 rfl (lv_at hl 1 rfl) ?_
  refine lv_iload_n hx hb dL_key_4 rfl (lv_at hl 2 rfl) ?_
  have hT : c.exceptionTable.toList = [⟨0, 17, 20, 19⟩] := vx_table (x := yL_key) B (atoms_spec (ws := (Cond.codeWith yL_key cL_key 5 (some .int) [(0, 17, 20, 19)] :: zw)) B.pre _ List.mem_cons_self)
  refine zt_callV (As := [.int k, .int b]) (rest := [.int 0, .ref o_l]) ⟨hx, hb, hml, hown, hts⟩ (x_key_neg l hf a_k k b hb0) (cwV 2 hts (zg_V zw_660 zw_661 zw_662 zw_83 zw_663) rfl rfl rfl (by decide +kernel) ⟨Nat.le_of_ble_eq_true rfl, Nat.le_of_ble_eq_true rfl⟩) ⟨zt_blind, va_recv hK hP (ci := 6) (q0 := 0) rfl rfl, fun U hU hW => ⟨rfl, zt_at hZ (va_S.rf (A := fun _ => False)) hU hW⟩⟩ rfl hl.1 (Nat.le_of_ble_eq_true rfl) dL_key_5 ⟨Nat.le_of_ble_eq_true rfl, Nat.le_of_ble_eq_true rfl⟩ (x := ⟨0, 17, 20, 19⟩) hT (by decide) (by decide) (hts (.classLink RL 19 "java/lang/IndexOutOfBoundsException") zw_659) (va_Nw.use rfl (hZ.2.2.2.1 "java/lang/IndexOutOfBoundsException" (List.mem_of_getElem? (i := 1) rfl))) (fun a H1 h1 h2 => ?_)
  have hS := zt_S hS h1 h2
  have hP := hP.kept (H1 := H1) (fun k q hk => h2 q.1 ((hP k q hk).lt))
  have hD := hD
  refine lv_astore (lv' := [(4, .ref a), (0, .ref a_k), (1, .int k), (2, .int b), (3, .ref o_l)]) hx hb dL_key_20 hl (by decide) rfl (fun ls hl => ?_)
  refine lv_iconst (v := 1) hx hb dL_key_22 (by decide) ?_
  have hP9 := hP.sub (ws' := [(a_k, .inr (6, [.ref a_m, .ref a_t, .ref a_u, .ref a_i, .ref a_p]))]) [0] rfl
  have hD9 := hD.sub (ws' := [(a_k, .inr (6, [.ref a_m, .ref a_t, .ref a_u, .ref a_i, .ref a_p]))]) [0] (by decide) rfl
  have hK9 := hK.sub (tys' := []) [] rfl
  exact W.iret (v := 1) hx hb hr (fun t9 ht hW => ⟨⟨1, (), rfl, rfl, by rw [ht]; exact hP9, va_K.moved hW.alike hK9, hD9⟩, hS.F ht⟩) hS.2.2 dL_key_23
set_option maxHeartbeats 4000000 in
set_option maxRecDepth 100000 in
theorem w_key_big (l : Launch) (hf : l.flags = pinnedFlags ++ [noTraceFlag]) (dC : Nat → ClassId) (dI : Nat → Nat → Nat) (a_k : Nat) (a_m : Nat) (a_t : Nat) (a_u : Nat) (a_i : Nat) (a_p : Nat) (o_l : Nat) (k : Int32) (b : Int32) (hb0 : ¬ k < 0) (hb1 : ¬ k < 16) (sz : Nat) : Met l yL_key (Cond.codeWith yL_key cL_key 5 (some .int) [(0, 17, 20, 19)] :: zw) ({ frames := 7, cells := 1, slots := 6, locals := 113 }) (va_Pc [.ref a_k, .int k, .int b, .ref o_l] (fun U => zc_P (dC, dI) [(a_k, .inr (6, [.ref a_m, .ref a_t, .ref a_u, .ref a_i, .ref a_p]))] [] sz U ∧ zt_P U)) (va_Qi (fun r _ => r = 1) (fun (u : Unit) t9 => zc_B (dC, dI) (va_A [(a_k, .inr (6, [.ref a_m, .ref a_t, .ref a_u, .ref a_i, .ref a_p]))] sz) [(a_k, .inr (6, [.ref a_m, .ref a_t, .ref a_u, .ref a_i, .ref a_p]))] [] t9) (va_A [(a_k, .inr (6, [.ref a_m, .ref a_t, .ref a_u, .ref a_i, .ref a_p]))] sz)) 1 6 (va_A [(a_k, .inr (6, [.ref a_m, .ref a_t, .ref a_u, .ref a_i, .ref a_p]))] sz) := by
  refine va_MetW (hh := [(0, 17, 20, 19)]) (cc := cL_key) (maxL := 5) (ret := (some .int)) (by decide) rfl ?_
  intro p e s m args below meth c s₁ B hml hv
  obtain ⟨rfl, ⟨hsz, hP, hK, hD0, hN⟩, hZ⟩ := hv
  have hx := B.exec
  have hb := B.bytes
  have hr := B.returns
  have hts : ∀ w ∈ zw, w.before _ s = true := fun w h => atoms_spec (ws := (Cond.codeWith yL_key cL_key 5 (some .int) [(0, 17, 20, 19)] :: zw)) B.pre w (List.mem_cons_of_mem _ h)
  have hown : s.vm.findClass RL = some m.cls := findClass_of_methodNamed B.named
  have hlocks := B.notSynchronized
  subst hsz
  have hD := hD0.self (sz := s.heap.size)
  generalize hAe : va_A [(a_k, .inr (6, [.ref a_m, .ref a_t, .ref a_u, .ref a_i, .ref a_p]))] s.heap.size = A at hD ⊢
  have hA : ∀ q : Nat, s.heap.size ≤ q → A q := fun q h => by rw [← hAe]; exact Or.inr h
  have hS : va_S A s.heap s.heap [] := va_S.rf
  have hP : va_P (dC, dI) vwCl [(a_k, .inr (6, [.ref a_m, .ref a_t, .ref a_u, .ref a_i, .ref a_p]))] s.heap := hP
  have hl := lv_entry ([.ref a_k, .int k, .int b, .ref o_l]) (n := 5) (Nat.le_of_ble_eq_true rfl)
  rw [lg_entry_eq]
  generalize (lg_sl ([.ref a_k, .int k, .int b, .ref o_l]) ++ List.replicate (5 - (lg_sl ([.ref a_k, .int k, .int b, .ref o_l])).length) Slot.unset).toArray = ls at hl ⊢
  have hl : lv_has ls 5 [(0, .ref a_k), (1, .int k), (2, .int b), (3, .ref o_l)] := hl
  refine lv_aload_n hx hb dL_key_0 rfl (lv_at hl 3 rfl) ?_
  refine lv_iconst (v := 0) hx hb dL_key_1 (by decide) ?_
  refine lv_aload_n hx hb dL_key_2 rfl (lv_at hl 0 rfl) ?_
  refine lv_iload_n hx hb dL_key_3 rfl (lv_at hl 1 rfl) ?_
  refine lv_iload_n hx hb dL_key_4 rfl (lv_at hl 2 rfl) ?_
  have hT : c.exceptionTable.toList = [⟨0, 17, 20, 19⟩] := vx_table (x := yL_key) B (atoms_spec (ws := (Cond.codeWith yL_key cL_key 5 (some .int) [(0, 17, 20, 19)] :: zw)) B.pre _ List.mem_cons_self)
  refine zt_callV (As := [.int k, .int b]) (rest := [.int 0, .ref o_l]) ⟨hx, hb, hml, hown, hts⟩ (x_key_big l hf a_k k b hb0 hb1) (cwV 2 hts (zg_V zw_660 zw_661 zw_662 zw_83 zw_663) rfl rfl rfl (by decide +kernel) ⟨Nat.le_of_ble_eq_true rfl, Nat.le_of_ble_eq_true rfl⟩) ⟨zt_blind, va_recv hK hP (ci := 6) (q0 := 0) rfl rfl, fun U hU hW => ⟨rfl, zt_at hZ (va_S.rf (A := fun _ => False)) hU hW⟩⟩ rfl hl.1 (Nat.le_of_ble_eq_true rfl) dL_key_5 ⟨Nat.le_of_ble_eq_true rfl, Nat.le_of_ble_eq_true rfl⟩ (x := ⟨0, 17, 20, 19⟩) hT (by decide) (by decide) (hts (.classLink RL 19 "java/lang/IndexOutOfBoundsException") zw_659) (va_Nw.use rfl (hZ.2.2.2.1 "java/lang/IndexOutOfBoundsException" (List.mem_of_getElem? (i := 1) rfl))) (fun a H1 h1 h2 => ?_)
  have hS := zt_S hS h1 h2
  have hP := hP.kept (H1 := H1) (fun k q hk => h2 q.1 ((hP k q hk).lt))
  have hD := hD
  refine lv_astore (lv' := [(4, .ref a), (0, .ref a_k), (1, .int k), (2, .int b), (3, .ref o_l)]) hx hb dL_key_20 hl (by decide) rfl (fun ls hl => ?_)
  refine lv_iconst (v := 1) hx hb dL_key_22 (by decide) ?_
  have hP9 := hP.sub (ws' := [(a_k, .inr (6, [.ref a_m, .ref a_t, .ref a_u, .ref a_i, .ref a_p]))]) [0] rfl
  have hD9 := hD.sub (ws' := [(a_k, .inr (6, [.ref a_m, .ref a_t, .ref a_u, .ref a_i, .ref a_p]))]) [0] (by decide) rfl
  have hK9 := hK.sub (tys' := []) [] rfl
  exact W.iret (v := 1) hx hb hr (fun t9 ht hW => ⟨⟨1, (), rfl, rfl, by rw [ht]; exact hP9, va_K.moved hW.alike hK9, hD9⟩, hS.F ht⟩) hS.2.2 dL_key_23
set_option maxHeartbeats 4000000 in
set_option maxRecDepth 100000 in
theorem w_line_neg (l : Launch) (hf : l.flags = pinnedFlags ++ [noTraceFlag]) (dC : Nat → ClassId) (dI : Nat → Nat → Nat) (a_k : Nat) (a_m : Nat) (a_t : Nat) (a_u : Nat) (a_i : Nat) (a_p : Nat) (o_l : Nat) (k : Int32) (b : Int32) (hb0 : k < 0) (sz : Nat) : Met l yL_line (Cond.codeWith yL_line cL_line 5 (some .int) [(0, 17, 20, 19)] :: zw) ({ frames := 7, cells := 1, slots := 6, locals := 113 }) (va_Pc [.ref a_k, .int k, .int b, .ref o_l] (fun U => zc_P (dC, dI) [(a_k, .inr (6, [.ref a_m, .ref a_t, .ref a_u, .ref a_i, .ref a_p]))] [] sz U ∧ zt_P U)) (va_Qi (fun r _ => r = 1) (fun (u : Unit) t9 => zc_B (dC, dI) (va_A [(a_k, .inr (6, [.ref a_m, .ref a_t, .ref a_u, .ref a_i, .ref a_p]))] sz) [(a_k, .inr (6, [.ref a_m, .ref a_t, .ref a_u, .ref a_i, .ref a_p]))] [] t9) (va_A [(a_k, .inr (6, [.ref a_m, .ref a_t, .ref a_u, .ref a_i, .ref a_p]))] sz)) 1 6 (va_A [(a_k, .inr (6, [.ref a_m, .ref a_t, .ref a_u, .ref a_i, .ref a_p]))] sz) := by
  refine va_MetW (hh := [(0, 17, 20, 19)]) (cc := cL_line) (maxL := 5) (ret := (some .int)) (by decide) rfl ?_
  intro p e s m args below meth c s₁ B hml hv
  obtain ⟨rfl, ⟨hsz, hP, hK, hD0, hN⟩, hZ⟩ := hv
  have hx := B.exec
  have hb := B.bytes
  have hr := B.returns
  have hts : ∀ w ∈ zw, w.before _ s = true := fun w h => atoms_spec (ws := (Cond.codeWith yL_line cL_line 5 (some .int) [(0, 17, 20, 19)] :: zw)) B.pre w (List.mem_cons_of_mem _ h)
  have hown : s.vm.findClass RL = some m.cls := findClass_of_methodNamed B.named
  have hlocks := B.notSynchronized
  subst hsz
  have hD := hD0.self (sz := s.heap.size)
  generalize hAe : va_A [(a_k, .inr (6, [.ref a_m, .ref a_t, .ref a_u, .ref a_i, .ref a_p]))] s.heap.size = A at hD ⊢
  have hA : ∀ q : Nat, s.heap.size ≤ q → A q := fun q h => by rw [← hAe]; exact Or.inr h
  have hS : va_S A s.heap s.heap [] := va_S.rf
  have hP : va_P (dC, dI) vwCl [(a_k, .inr (6, [.ref a_m, .ref a_t, .ref a_u, .ref a_i, .ref a_p]))] s.heap := hP
  have hl := lv_entry ([.ref a_k, .int k, .int b, .ref o_l]) (n := 5) (Nat.le_of_ble_eq_true rfl)
  rw [lg_entry_eq]
  generalize (lg_sl ([.ref a_k, .int k, .int b, .ref o_l]) ++ List.replicate (5 - (lg_sl ([.ref a_k, .int k, .int b, .ref o_l])).length) Slot.unset).toArray = ls at hl ⊢
  have hl : lv_has ls 5 [(0, .ref a_k), (1, .int k), (2, .int b), (3, .ref o_l)] := hl
  refine lv_aload_n hx hb dL_line_0 rfl (lv_at hl 3 rfl) ?_
  refine lv_iconst (v := 0) hx hb dL_line_1 (by decide) ?_
  refine lv_aload_n hx hb dL_line_2 rfl (lv_at hl 0 rfl) ?_
  refine lv_iload_n hx hb dL_line_3 rfl (lv_at hl 1 rfl) ?_
  refine lv_iload_n hx hb dL_line_4 rfl (lv_at hl 2 rfl) ?_
  have hT : c.exceptionTable.toList = [⟨0, 17, 20, 19⟩] := vx_table (x := yL_line) B (atoms_spec (ws := (Cond.codeWith yL_line cL_line 5 (some .int) [(0, 17, 20, 19)] :: zw)) B.pre _ List.mem_cons_self)
  refine zt_callV (As := [.int k, .int b]) (rest := [.int 0, .ref o_l]) ⟨hx, hb, hml, hown, hts⟩ (x_line_neg l hf a_k k b hb0) (cwV 2 hts (zg_V zw_683 zw_684 zw_685 zw_83 zw_686) rfl rfl rfl (by decide +kernel) ⟨Nat.le_of_ble_eq_true rfl, Nat.le_of_ble_eq_true rfl⟩) ⟨zt_blind, va_recv hK hP (ci := 6) (q0 := 0) rfl rfl, fun U hU hW => ⟨rfl, zt_at hZ (va_S.rf (A := fun _ => False)) hU hW⟩⟩ rfl hl.1 (Nat.le_of_ble_eq_true rfl) dL_line_5 ⟨Nat.le_of_ble_eq_true rfl, Nat.le_of_ble_eq_true rfl⟩ (x := ⟨0, 17, 20, 19⟩) hT (by decide) (by decide) (hts (.classLink RL 19 "java/lang/IndexOutOfBoundsException") zw_659) (va_Nw.use rfl (hZ.2.2.2.1 "java/lang/IndexOutOfBoundsException" (List.mem_of_getElem? (i := 1) rfl))) (fun a H1 h1 h2 => ?_)
  have hS := zt_S hS h1 h2
  have hP := hP.kept (H1 := H1) (fun k q hk => h2 q.1 ((hP k q hk).lt))
  have hD := hD
  refine lv_astore (lv' := [(4, .ref a), (0, .ref a_k), (1, .int k), (2, .int b), (3, .ref o_l)]) hx hb dL_line_20 hl (by decide) rfl (fun ls hl => ?_)
  refine lv_iconst (v := 1) hx hb dL_line_22 (by decide) ?_
  have hP9 := hP.sub (ws' := [(a_k, .inr (6, [.ref a_m, .ref a_t, .ref a_u, .ref a_i, .ref a_p]))]) [0] rfl
  have hD9 := hD.sub (ws' := [(a_k, .inr (6, [.ref a_m, .ref a_t, .ref a_u, .ref a_i, .ref a_p]))]) [0] (by decide) rfl
  have hK9 := hK.sub (tys' := []) [] rfl
  exact W.iret (v := 1) hx hb hr (fun t9 ht hW => ⟨⟨1, (), rfl, rfl, by rw [ht]; exact hP9, va_K.moved hW.alike hK9, hD9⟩, hS.F ht⟩) hS.2.2 dL_line_23
set_option maxHeartbeats 4000000 in
set_option maxRecDepth 100000 in
theorem w_line_big (l : Launch) (hf : l.flags = pinnedFlags ++ [noTraceFlag]) (dC : Nat → ClassId) (dI : Nat → Nat → Nat) (a_k : Nat) (a_m : Nat) (a_t : Nat) (a_u : Nat) (a_i : Nat) (a_p : Nat) (o_l : Nat) (k : Int32) (b : Int32) (hb0 : ¬ k < 0) (hb1 : ¬ k ≤ 1) (sz : Nat) : Met l yL_line (Cond.codeWith yL_line cL_line 5 (some .int) [(0, 17, 20, 19)] :: zw) ({ frames := 7, cells := 1, slots := 6, locals := 113 }) (va_Pc [.ref a_k, .int k, .int b, .ref o_l] (fun U => zc_P (dC, dI) [(a_k, .inr (6, [.ref a_m, .ref a_t, .ref a_u, .ref a_i, .ref a_p]))] [] sz U ∧ zt_P U)) (va_Qi (fun r _ => r = 1) (fun (u : Unit) t9 => zc_B (dC, dI) (va_A [(a_k, .inr (6, [.ref a_m, .ref a_t, .ref a_u, .ref a_i, .ref a_p]))] sz) [(a_k, .inr (6, [.ref a_m, .ref a_t, .ref a_u, .ref a_i, .ref a_p]))] [] t9) (va_A [(a_k, .inr (6, [.ref a_m, .ref a_t, .ref a_u, .ref a_i, .ref a_p]))] sz)) 1 6 (va_A [(a_k, .inr (6, [.ref a_m, .ref a_t, .ref a_u, .ref a_i, .ref a_p]))] sz) := by
  refine va_MetW (hh := [(0, 17, 20, 19)]) (cc := cL_line) (maxL := 5) (ret := (some .int)) (by decide) rfl ?_
  intro p e s m args below meth c s₁ B hml hv
  obtain ⟨rfl, ⟨hsz, hP, hK, hD0, hN⟩, hZ⟩ := hv
  have hx := B.exec
  have hb := B.bytes
  have hr := B.returns
  have hts : ∀ w ∈ zw, w.before _ s = true := fun w h => atoms_spec (ws := (Cond.codeWith yL_line cL_line 5 (some .int) [(0, 17, 20, 19)] :: zw)) B.pre w (List.mem_cons_of_mem _ h)
  have hown : s.vm.findClass RL = some m.cls := findClass_of_methodNamed B.named
  have hlocks := B.notSynchronized
  subst hsz
  have hD := hD0.self (sz := s.heap.size)
  generalize hAe : va_A [(a_k, .inr (6, [.ref a_m, .ref a_t, .ref a_u, .ref a_i, .ref a_p]))] s.heap.size = A at hD ⊢
  have hA : ∀ q : Nat, s.heap.size ≤ q → A q := fun q h => by rw [← hAe]; exact Or.inr h
  have hS : va_S A s.heap s.heap [] := va_S.rf
  have hP : va_P (dC, dI) vwCl [(a_k, .inr (6, [.ref a_m, .ref a_t, .ref a_u, .ref a_i, .ref a_p]))] s.heap := hP
  have hl := lv_entry ([.ref a_k, .int k, .int b, .ref o_l]) (n := 5) (Nat.le_of_ble_eq_true rfl)
  rw [lg_entry_eq]
  generalize (lg_sl ([.ref a_k, .int k, .int b, .ref o_l]) ++ List.replicate (5 - (lg_sl ([.ref a_k, .int k, .int b, .ref o_l])).length) Slot.unset).toArray = ls at hl ⊢
  have hl : lv_has ls 5 [(0, .ref a_k), (1, .int k), (2, .int b), (3, .ref o_l)] := hl
  refine lv_aload_n hx hb dL_line_0 rfl (lv_at hl 3 rfl) ?_
  refine lv_iconst (v := 0) hx hb dL_line_1 (by decide) ?_
  refine lv_aload_n hx hb dL_line_2 rfl (lv_at hl 0 rfl) ?_
  refine lv_iload_n hx hb dL_line_3 rfl (lv_at hl 1 rfl) ?_
  refine lv_iload_n hx hb dL_line_4 rfl (lv_at hl 2 rfl) ?_
  have hT : c.exceptionTable.toList = [⟨0, 17, 20, 19⟩] := vx_table (x := yL_line) B (atoms_spec (ws := (Cond.codeWith yL_line cL_line 5 (some .int) [(0, 17, 20, 19)] :: zw)) B.pre _ List.mem_cons_self)
  refine zt_callV (As := [.int k, .int b]) (rest := [.int 0, .ref o_l]) ⟨hx, hb, hml, hown, hts⟩ (x_line_big l hf a_k k b hb0 hb1) (cwV 2 hts (zg_V zw_683 zw_684 zw_685 zw_83 zw_686) rfl rfl rfl (by decide +kernel) ⟨Nat.le_of_ble_eq_true rfl, Nat.le_of_ble_eq_true rfl⟩) ⟨zt_blind, va_recv hK hP (ci := 6) (q0 := 0) rfl rfl, fun U hU hW => ⟨rfl, zt_at hZ (va_S.rf (A := fun _ => False)) hU hW⟩⟩ rfl hl.1 (Nat.le_of_ble_eq_true rfl) dL_line_5 ⟨Nat.le_of_ble_eq_true rfl, Nat.le_of_ble_eq_true rfl⟩ (x := ⟨0, 17, 20, 19⟩) hT (by decide) (by decide) (hts (.classLink RL 19 "java/lang/IndexOutOfBoundsException") zw_659) (va_Nw.use rfl (hZ.2.2.2.1 "java/lang/IndexOutOfBoundsException" (List.mem_of_getElem? (i := 1) rfl))) (fun a H1 h1 h2 => ?_)
  have hS := zt_S hS h1 h2
  have hP := hP.kept (H1 := H1) (fun k q hk => h2 q.1 ((hP k q hk).lt))
  have hD := hD
  refine lv_astore (lv' := [(4, .ref a), (0, .ref a_k), (1, .int k), (2, .int b), (3, .ref o_l)]) hx hb dL_line_20 hl (by decide) rfl (fun ls hl => ?_)
  refine lv_iconst (v := 1) hx hb dL_line_22 (by decide) ?_
  have hP9 := hP.sub (ws' := [(a_k, .inr (6, [.ref a_m, .ref a_t, .ref a_u, .ref a_i, .ref a_p]))]) [0] rfl
  have hD9 := hD.sub (ws' := [(a_k, .inr (6, [.ref a_m, .ref a_t, .ref a_u, .ref a_i, .ref a_p]))]) [0] (by decide) rfl
  have hK9 := hK.sub (tys' := []) [] rfl
  exact W.iret (v := 1) hx hb hr (fun t9 ht hW => ⟨⟨1, (), rfl, rfl, by rw [ht]; exact hP9, va_K.moved hW.alike hK9, hD9⟩, hS.F ht⟩) hS.2.2 dL_line_23
set_option maxHeartbeats 4000000 in
set_option maxRecDepth 100000 in
theorem w_shown_neg (l : Launch) (hf : l.flags = pinnedFlags ++ [noTraceFlag]) (dC : Nat → ClassId) (dI : Nat → Nat → Nat) (a_k : Nat) (a_m : Nat) (a_t : Nat) (a_u : Nat) (a_i : Nat) (a_p : Nat) (o_l : Nat) (k : Int32) (hb0 : k < 0) (sz : Nat) : Met l yL_shown (Cond.codeWith yL_shown cL_shown 4 (some .int) [(0, 9, 12, 19)] :: zw) ({ frames := 7, cells := 1, slots := 6, locals := 111 }) (va_Pc [.ref a_k, .int k, .ref o_l] (fun U => zc_P (dC, dI) [(a_k, .inr (6, [.ref a_m, .ref a_t, .ref a_u, .ref a_i, .ref a_p]))] [] sz U ∧ zt_P U)) (va_Qi (fun r _ => r = 1) (fun (u : Unit) t9 => zc_B (dC, dI) (va_A [(a_k, .inr (6, [.ref a_m, .ref a_t, .ref a_u, .ref a_i, .ref a_p]))] sz) [(a_k, .inr (6, [.ref a_m, .ref a_t, .ref a_u, .ref a_i, .ref a_p]))] [] t9) (va_A [(a_k, .inr (6, [.ref a_m, .ref a_t, .ref a_u, .ref a_i, .ref a_p]))] sz)) 1 6 (va_A [(a_k, .inr (6, [.ref a_m, .ref a_t, .ref a_u, .ref a_i, .ref a_p]))] sz) := by
  refine va_MetW (hh := [(0, 9, 12, 19)]) (cc := cL_shown) (maxL := 4) (ret := (some .int)) (by decide) rfl ?_
  intro p e s m args below meth c s₁ B hml hv
  obtain ⟨rfl, ⟨hsz, hP, hK, hD0, hN⟩, hZ⟩ := hv
  have hx := B.exec
  have hb := B.bytes
  have hr := B.returns
  have hts : ∀ w ∈ zw, w.before _ s = true := fun w h => atoms_spec (ws := (Cond.codeWith yL_shown cL_shown 4 (some .int) [(0, 9, 12, 19)] :: zw)) B.pre w (List.mem_cons_of_mem _ h)
  have hown : s.vm.findClass RL = some m.cls := findClass_of_methodNamed B.named
  have hlocks := B.notSynchronized
  subst hsz
  have hD := hD0.self (sz := s.heap.size)
  generalize hAe : va_A [(a_k, .inr (6, [.ref a_m, .ref a_t, .ref a_u, .ref a_i, .ref a_p]))] s.heap.size = A at hD ⊢
  have hA : ∀ q : Nat, s.heap.size ≤ q → A q := fun q h => by rw [← hAe]; exact Or.inr h
  have hS : va_S A s.heap s.heap [] := va_S.rf
  have hP : va_P (dC, dI) vwCl [(a_k, .inr (6, [.ref a_m, .ref a_t, .ref a_u, .ref a_i, .ref a_p]))] s.heap := hP
  have hl := lv_entry ([.ref a_k, .int k, .ref o_l]) (n := 4) (Nat.le_of_ble_eq_true rfl)
  rw [lg_entry_eq]
  generalize (lg_sl ([.ref a_k, .int k, .ref o_l]) ++ List.replicate (4 - (lg_sl ([.ref a_k, .int k, .ref o_l])).length) Slot.unset).toArray = ls at hl ⊢
  have hl : lv_has ls 4 [(0, .ref a_k), (1, .int k), (2, .ref o_l)] := hl
  refine lv_aload_n hx hb dL_shown_0 rfl (lv_at hl 2 rfl) ?_
  refine lv_iconst (v := 0) hx hb dL_shown_1 (by decide) ?_
  refine lv_aload_n hx hb dL_shown_2 rfl (lv_at hl 0 rfl) ?_
  refine lv_iload_n hx hb dL_shown_3 rfl (lv_at hl 1 rfl) ?_
  have hT : c.exceptionTable.toList = [⟨0, 9, 12, 19⟩] := vx_table (x := yL_shown) B (atoms_spec (ws := (Cond.codeWith yL_shown cL_shown 4 (some .int) [(0, 9, 12, 19)] :: zw)) B.pre _ List.mem_cons_self)
  refine zt_callV (As := [.int k]) (rest := [.int 0, .ref o_l]) ⟨hx, hb, hml, hown, hts⟩ (x_shown_neg l hf a_k k hb0) (cwV 1 hts (zg_V zw_700 zw_701 zw_702 zw_83 zw_703) rfl rfl rfl (by decide +kernel) ⟨Nat.le_of_ble_eq_true rfl, Nat.le_of_ble_eq_true rfl⟩) ⟨zt_blind, va_recv hK hP (ci := 6) (q0 := 0) rfl rfl, fun U hU hW => ⟨rfl, zt_at hZ (va_S.rf (A := fun _ => False)) hU hW⟩⟩ rfl hl.1 (Nat.le_of_ble_eq_true rfl) dL_shown_4 ⟨Nat.le_of_ble_eq_true rfl, Nat.le_of_ble_eq_true rfl⟩ (x := ⟨0, 9, 12, 19⟩) hT (by decide) (by decide) (hts (.classLink RL 19 "java/lang/IndexOutOfBoundsException") zw_659) (va_Nw.use rfl (hZ.2.2.2.1 "java/lang/IndexOutOfBoundsException" (List.mem_of_getElem? (i := 1) rfl))) (fun a H1 h1 h2 => ?_)
  have hS := zt_S hS h1 h2
  have hP := hP.kept (H1 := H1) (fun k q hk => h2 q.1 ((hP k q hk).lt))
  have hD := hD
  refine lv_astore_n (lv' := [(3, .ref a), (0, .ref a_k), (1, .int k), (2, .ref o_l)]) hx hb dL_shown_12 rfl hl (by decide) rfl (fun ls hl => ?_)
  refine lv_iconst (v := 1) hx hb dL_shown_13 (by decide) ?_
  have hP9 := hP.sub (ws' := [(a_k, .inr (6, [.ref a_m, .ref a_t, .ref a_u, .ref a_i, .ref a_p]))]) [0] rfl
  have hD9 := hD.sub (ws' := [(a_k, .inr (6, [.ref a_m, .ref a_t, .ref a_u, .ref a_i, .ref a_p]))]) [0] (by decide) rfl
  have hK9 := hK.sub (tys' := []) [] rfl
  exact W.iret (v := 1) hx hb hr (fun t9 ht hW => ⟨⟨1, (), rfl, rfl, by rw [ht]; exact hP9, va_K.moved hW.alike hK9, hD9⟩, hS.F ht⟩) hS.2.2 dL_shown_14
set_option maxHeartbeats 4000000 in
set_option maxRecDepth 100000 in
theorem w_shown_big (l : Launch) (hf : l.flags = pinnedFlags ++ [noTraceFlag]) (dC : Nat → ClassId) (dI : Nat → Nat → Nat) (a_k : Nat) (a_m : Nat) (a_t : Nat) (a_u : Nat) (a_i : Nat) (a_p : Nat) (o_l : Nat) (k : Int32) (hb0 : ¬ k < 0) (hb1 : ¬ k < 16) (sz : Nat) : Met l yL_shown (Cond.codeWith yL_shown cL_shown 4 (some .int) [(0, 9, 12, 19)] :: zw) ({ frames := 7, cells := 1, slots := 6, locals := 111 }) (va_Pc [.ref a_k, .int k, .ref o_l] (fun U => zc_P (dC, dI) [(a_k, .inr (6, [.ref a_m, .ref a_t, .ref a_u, .ref a_i, .ref a_p]))] [] sz U ∧ zt_P U)) (va_Qi (fun r _ => r = 1) (fun (u : Unit) t9 => zc_B (dC, dI) (va_A [(a_k, .inr (6, [.ref a_m, .ref a_t, .ref a_u, .ref a_i, .ref a_p]))] sz) [(a_k, .inr (6, [.ref a_m, .ref a_t, .ref a_u, .ref a_i, .ref a_p]))] [] t9) (va_A [(a_k, .inr (6, [.ref a_m, .ref a_t, .ref a_u, .ref a_i, .ref a_p]))] sz)) 1 6 (va_A [(a_k, .inr (6, [.ref a_m, .ref a_t, .ref a_u, .ref a_i, .ref a_p]))] sz) := by
  refine va_MetW (hh := [(0, 9, 12, 19)]) (cc := cL_shown) (maxL := 4) (ret := (some .int)) (by decide) rfl ?_
  intro p e s m args below meth c s₁ B hml hv
  obtain ⟨rfl, ⟨hsz, hP, hK, hD0, hN⟩, hZ⟩ := hv
  have hx := B.exec
  have hb := B.bytes
  have hr := B.returns
  have hts : ∀ w ∈ zw, w.before _ s = true := fun w h => atoms_spec (ws := (Cond.codeWith yL_shown cL_shown 4 (some .int) [(0, 9, 12, 19)] :: zw)) B.pre w (List.mem_cons_of_mem _ h)
  have hown : s.vm.findClass RL = some m.cls := findClass_of_methodNamed B.named
  have hlocks := B.notSynchronized
  subst hsz
  have hD := hD0.self (sz := s.heap.size)
  generalize hAe : va_A [(a_k, .inr (6, [.ref a_m, .ref a_t, .ref a_u, .ref a_i, .ref a_p]))] s.heap.size = A at hD ⊢
  have hA : ∀ q : Nat, s.heap.size ≤ q → A q := fun q h => by rw [← hAe]; exact Or.inr h
  have hS : va_S A s.heap s.heap [] := va_S.rf
  have hP : va_P (dC, dI) vwCl [(a_k, .inr (6, [.ref a_m, .ref a_t, .ref a_u, .ref a_i, .ref a_p]))] s.heap := hP
  have hl := lv_entry ([.ref a_k, .int k, .ref o_l]) (n := 4) (Nat.le_of_ble_eq_true rfl)
  rw [lg_entry_eq]
  generalize (lg_sl ([.ref a_k, .int k, .ref o_l]) ++ List.replicate (4 - (lg_sl ([.ref a_k, .int k, .ref o_l])).length) Slot.unset).toArray = ls at hl ⊢
  have hl : lv_has ls 4 [(0, .ref a_k), (1, .int k), (2, .ref o_l)] := hl
  refine lv_aload_n hx hb dL_shown_0 rfl (lv_at hl 2 rfl) ?_
  refine lv_iconst (v := 0) hx hb dL_shown_1 (by decide) ?_
  refine lv_aload_n hx hb dL_shown_2 rfl (lv_at hl 0 rfl) ?_
  refine lv_iload_n hx hb dL_shown_3 rfl (lv_at hl 1 rfl) ?_
  have hT : c.exceptionTable.toList = [⟨0, 9, 12, 19⟩] := vx_table (x := yL_shown) B (atoms_spec (ws := (Cond.codeWith yL_shown cL_shown 4 (some .int) [(0, 9, 12, 19)] :: zw)) B.pre _ List.mem_cons_self)
  refine zt_callV (As := [.int k]) (rest := [.int 0, .ref o_l]) ⟨hx, hb, hml, hown, hts⟩ (x_shown_big l hf a_k k hb0 hb1) (cwV 1 hts (zg_V zw_700 zw_701 zw_702 zw_83 zw_703) rfl rfl rfl (by decide +kernel) ⟨Nat.le_of_ble_eq_true rfl, Nat.le_of_ble_eq_true rfl⟩) ⟨zt_blind, va_recv hK hP (ci := 6) (q0 := 0) rfl rfl, fun U hU hW => ⟨rfl, zt_at hZ (va_S.rf (A := fun _ => False)) hU hW⟩⟩ rfl hl.1 (Nat.le_of_ble_eq_true rfl) dL_shown_4 ⟨Nat.le_of_ble_eq_true rfl, Nat.le_of_ble_eq_true rfl⟩ (x := ⟨0, 9, 12, 19⟩) hT (by decide) (by decide) (hts (.classLink RL 19 "java/lang/IndexOutOfBoundsException") zw_659) (va_Nw.use rfl (hZ.2.2.2.1 "java/lang/IndexOutOfBoundsException" (List.mem_of_getElem? (i := 1) rfl))) (fun a H1 h1 h2 => ?_)
  have hS := zt_S hS h1 h2
  have hP := hP.kept (H1 := H1) (fun k q hk => h2 q.1 ((hP k q hk).lt))
  have hD := hD
  refine lv_astore_n (lv' := [(3, .ref a), (0, .ref a_k), (1, .int k), (2, .ref o_l)]) hx hb dL_shown_12 rfl hl (by decide) rfl (fun ls hl => ?_)
  refine lv_iconst (v := 1) hx hb dL_shown_13 (by decide) ?_
  have hP9 := hP.sub (ws' := [(a_k, .inr (6, [.ref a_m, .ref a_t, .ref a_u, .ref a_i, .ref a_p]))]) [0] rfl
  have hD9 := hD.sub (ws' := [(a_k, .inr (6, [.ref a_m, .ref a_t, .ref a_u, .ref a_i, .ref a_p]))]) [0] (by decide) rfl
  have hK9 := hK.sub (tys' := []) [] rfl
  exact W.iret (v := 1) hx hb hr (fun t9 ht hW => ⟨⟨1, (), rfl, rfl, by rw [ht]; exact hP9, va_K.moved hW.alike hK9, hD9⟩, hS.F ht⟩) hS.2.2 dL_shown_14
set_option maxHeartbeats 4000000 in
set_option maxRecDepth 100000 in
theorem w_about_x (l : Launch) (hf : l.flags = pinnedFlags ++ [noTraceFlag]) (dC : Nat → ClassId) (dI : Nat → Nat → Nat) (a_k : Nat) (a_m : Nat) (a_t : Nat) (a_u : Nat) (a_i : Nat) (a_p : Nat) (o_l : Nat) (k : Int32) (hb9 : k.toInt < 0 ∨ 14 < k.toInt) (sz : Nat) : Met l yL_about (Cond.codeWith yL_about cL_about 4 (some .int) [(0, 9, 12, 19)] :: zw) ({ frames := 7, cells := 1, slots := 6, locals := 111 }) (va_Pc [.ref a_k, .int k, .ref o_l] (fun U => zc_P (dC, dI) [(a_k, .inr (6, [.ref a_m, .ref a_t, .ref a_u, .ref a_i, .ref a_p]))] [] sz U ∧ zt_P U)) (va_Qi (fun r _ => r = 1) (fun (u : Unit) t9 => zc_B (dC, dI) (va_A [(a_k, .inr (6, [.ref a_m, .ref a_t, .ref a_u, .ref a_i, .ref a_p]))] sz) [(a_k, .inr (6, [.ref a_m, .ref a_t, .ref a_u, .ref a_i, .ref a_p]))] [] t9) (va_A [(a_k, .inr (6, [.ref a_m, .ref a_t, .ref a_u, .ref a_i, .ref a_p]))] sz)) 1 6 (va_A [(a_k, .inr (6, [.ref a_m, .ref a_t, .ref a_u, .ref a_i, .ref a_p]))] sz) := by
  refine va_MetW (hh := [(0, 9, 12, 19)]) (cc := cL_about) (maxL := 4) (ret := (some .int)) (by decide) rfl ?_
  intro p e s m args below meth c s₁ B hml hv
  obtain ⟨rfl, ⟨hsz, hP, hK, hD0, hN⟩, hZ⟩ := hv
  have hx := B.exec
  have hb := B.bytes
  have hr := B.returns
  have hts : ∀ w ∈ zw, w.before _ s = true := fun w h => atoms_spec (ws := (Cond.codeWith yL_about cL_about 4 (some .int) [(0, 9, 12, 19)] :: zw)) B.pre w (List.mem_cons_of_mem _ h)
  have hown : s.vm.findClass RL = some m.cls := findClass_of_methodNamed B.named
  have hlocks := B.notSynchronized
  subst hsz
  have hD := hD0.self (sz := s.heap.size)
  generalize hAe : va_A [(a_k, .inr (6, [.ref a_m, .ref a_t, .ref a_u, .ref a_i, .ref a_p]))] s.heap.size = A at hD ⊢
  have hA : ∀ q : Nat, s.heap.size ≤ q → A q := fun q h => by rw [← hAe]; exact Or.inr h
  have hS : va_S A s.heap s.heap [] := va_S.rf
  have hP : va_P (dC, dI) vwCl [(a_k, .inr (6, [.ref a_m, .ref a_t, .ref a_u, .ref a_i, .ref a_p]))] s.heap := hP
  have hl := lv_entry ([.ref a_k, .int k, .ref o_l]) (n := 4) (Nat.le_of_ble_eq_true rfl)
  rw [lg_entry_eq]
  generalize (lg_sl ([.ref a_k, .int k, .ref o_l]) ++ List.replicate (4 - (lg_sl ([.ref a_k, .int k, .ref o_l])).length) Slot.unset).toArray = ls at hl ⊢
  have hl : lv_has ls 4 [(0, .ref a_k), (1, .int k), (2, .ref o_l)] := hl
  refine lv_aload_n hx hb dL_about_0 rfl (lv_at hl 2 rfl) ?_
  refine lv_iconst (v := 0) hx hb dL_about_1 (by decide) ?_
  refine lv_aload_n hx hb dL_about_2 rfl (lv_at hl 0 rfl) ?_
  refine lv_iload_n hx hb dL_about_3 rfl (lv_at hl 1 rfl) ?_
  have hT : c.exceptionTable.toList = [⟨0, 9, 12, 19⟩] := vx_table (x := yL_about) B (atoms_spec (ws := (Cond.codeWith yL_about cL_about 4 (some .int) [(0, 9, 12, 19)] :: zw)) B.pre _ List.mem_cons_self)
  refine zt_callV (As := [.int k]) (rest := [.int 0, .ref o_l]) ⟨hx, hb, hml, hown, hts⟩ (x_about l hf a_k k hb9) (cwV 1 hts (zg_V zw_691 zw_692 zw_693 zw_83 zw_694) rfl rfl rfl (by decide +kernel) ⟨Nat.le_of_ble_eq_true rfl, Nat.le_of_ble_eq_true rfl⟩) ⟨zt_blind, va_recv hK hP (ci := 6) (q0 := 0) rfl rfl, fun U hU hW => ⟨rfl, zt_at hZ (va_S.rf (A := fun _ => False)) hU hW⟩⟩ rfl hl.1 (Nat.le_of_ble_eq_true rfl) dL_about_4 ⟨Nat.le_of_ble_eq_true rfl, Nat.le_of_ble_eq_true rfl⟩ (x := ⟨0, 9, 12, 19⟩) hT (by decide) (by decide) (hts (.classLink RL 19 "java/lang/IndexOutOfBoundsException") zw_659) (va_Nw.use rfl (hZ.2.2.2.1 "java/lang/IndexOutOfBoundsException" (List.mem_of_getElem? (i := 1) rfl))) (fun a H1 h1 h2 => ?_)
  have hS := zt_S hS h1 h2
  have hP := hP.kept (H1 := H1) (fun k q hk => h2 q.1 ((hP k q hk).lt))
  have hD := hD
  refine lv_astore_n (lv' := [(3, .ref a), (0, .ref a_k), (1, .int k), (2, .ref o_l)]) hx hb dL_about_12 rfl hl (by decide) rfl (fun ls hl => ?_)
  refine lv_iconst (v := 1) hx hb dL_about_13 (by decide) ?_
  have hP9 := hP.sub (ws' := [(a_k, .inr (6, [.ref a_m, .ref a_t, .ref a_u, .ref a_i, .ref a_p]))]) [0] rfl
  have hD9 := hD.sub (ws' := [(a_k, .inr (6, [.ref a_m, .ref a_t, .ref a_u, .ref a_i, .ref a_p]))]) [0] (by decide) rfl
  have hK9 := hK.sub (tys' := []) [] rfl
  exact W.iret (v := 1) hx hb hr (fun t9 ht hW => ⟨⟨1, (), rfl, rfl, by rw [ht]; exact hP9, va_K.moved hW.alike hK9, hD9⟩, hS.F ht⟩) hS.2.2 dL_about_14
set_option maxHeartbeats 4000000 in
set_option maxRecDepth 100000 in
theorem w_set_x (l : Launch) (hf : l.flags = pinnedFlags ++ [noTraceFlag]) (dC : Nat → ClassId) (dI : Nat → Nat → Nat) (a_k : Nat) (a_m : Nat) (a_t : Nat) (a_u : Nat) (a_i : Nat) (a_p : Nat) (k : Int32) (v : Int32) (hb9 : k.toInt < 0 ∨ 9 < k.toInt) (sz : Nat) : Met l yL_set (Cond.codeWith yL_set cL_set 4 (some .int) [(0, 6, 9, 19)] :: zw) ({ frames := 7, cells := 1, slots := 6, locals := 112 }) (va_Pc [.ref a_k, .int k, .int v] (fun U => zc_P (dC, dI) [(a_k, .inr (6, [.ref a_m, .ref a_t, .ref a_u, .ref a_i, .ref a_p]))] [] sz U ∧ zt_P U)) (va_Qi (fun r _ => r = 1) (fun (u : Unit) t9 => zc_B (dC, dI) (va_A [(a_k, .inr (6, [.ref a_m, .ref a_t, .ref a_u, .ref a_i, .ref a_p]))] sz) [(a_k, .inr (6, [.ref a_m, .ref a_t, .ref a_u, .ref a_i, .ref a_p]))] [] t9) (va_A [(a_k, .inr (6, [.ref a_m, .ref a_t, .ref a_u, .ref a_i, .ref a_p]))] sz)) 1 6 (va_A [(a_k, .inr (6, [.ref a_m, .ref a_t, .ref a_u, .ref a_i, .ref a_p]))] sz) := by
  refine va_MetW (hh := [(0, 6, 9, 19)]) (cc := cL_set) (maxL := 4) (ret := (some .int)) (by decide) rfl ?_
  intro p e s m args below meth c s₁ B hml hv
  obtain ⟨rfl, ⟨hsz, hP, hK, hD0, hN⟩, hZ⟩ := hv
  have hx := B.exec
  have hb := B.bytes
  have hr := B.returns
  have hts : ∀ w ∈ zw, w.before _ s = true := fun w h => atoms_spec (ws := (Cond.codeWith yL_set cL_set 4 (some .int) [(0, 6, 9, 19)] :: zw)) B.pre w (List.mem_cons_of_mem _ h)
  have hown : s.vm.findClass RL = some m.cls := findClass_of_methodNamed B.named
  have hlocks := B.notSynchronized
  subst hsz
  have hD := hD0.self (sz := s.heap.size)
  generalize hAe : va_A [(a_k, .inr (6, [.ref a_m, .ref a_t, .ref a_u, .ref a_i, .ref a_p]))] s.heap.size = A at hD ⊢
  have hA : ∀ q : Nat, s.heap.size ≤ q → A q := fun q h => by rw [← hAe]; exact Or.inr h
  have hS : va_S A s.heap s.heap [] := va_S.rf
  have hP : va_P (dC, dI) vwCl [(a_k, .inr (6, [.ref a_m, .ref a_t, .ref a_u, .ref a_i, .ref a_p]))] s.heap := hP
  have hl := lv_entry ([.ref a_k, .int k, .int v]) (n := 4) (Nat.le_of_ble_eq_true rfl)
  rw [lg_entry_eq]
  generalize (lg_sl ([.ref a_k, .int k, .int v]) ++ List.replicate (4 - (lg_sl ([.ref a_k, .int k, .int v])).length) Slot.unset).toArray = ls at hl ⊢
  have hl : lv_has ls 4 [(0, .ref a_k), (1, .int k), (2, .int v)] := hl
  refine lv_aload_n hx hb dL_set_0 rfl (lv_at hl 0 rfl) ?_
  refine lv_iload_n hx hb dL_set_1 rfl (lv_at hl 1 rfl) ?_
  refine lv_iload_n hx hb dL_set_2 rfl (lv_at hl 2 rfl) ?_
  have hT : c.exceptionTable.toList = [⟨0, 6, 9, 19⟩] := vx_table (x := yL_set) B (atoms_spec (ws := (Cond.codeWith yL_set cL_set 4 (some .int) [(0, 6, 9, 19)] :: zw)) B.pre _ List.mem_cons_self)
  refine zt_callV (As := [.int k, .int v]) (rest := []) ⟨hx, hb, hml, hown, hts⟩ (x_set l hf a_k k v hb9) (cwV 2 hts (zg_V zw_708 zw_709 zw_710 zw_83 zw_711) rfl rfl rfl (by decide +kernel) ⟨Nat.le_of_ble_eq_true rfl, Nat.le_of_ble_eq_true rfl⟩) ⟨zt_blind, va_recv hK hP (ci := 6) (q0 := 0) rfl rfl, fun U hU hW => ⟨rfl, zt_at hZ (va_S.rf (A := fun _ => False)) hU hW⟩⟩ rfl hl.1 (Nat.le_of_ble_eq_true rfl) dL_set_3 ⟨Nat.le_of_ble_eq_true rfl, Nat.le_of_ble_eq_true rfl⟩ (x := ⟨0, 6, 9, 19⟩) hT (by decide) (by decide) (hts (.classLink RL 19 "java/lang/IndexOutOfBoundsException") zw_659) (va_Nw.use rfl (hZ.2.2.2.1 "java/lang/IndexOutOfBoundsException" (List.mem_of_getElem? (i := 1) rfl))) (fun a H1 h1 h2 => ?_)
  have hS := zt_S hS h1 h2
  have hP := hP.kept (H1 := H1) (fun k q hk => h2 q.1 ((hP k q hk).lt))
  have hD := hD
  refine lv_astore_n (lv' := [(3, .ref a), (0, .ref a_k), (1, .int k), (2, .int v)]) hx hb dL_set_9 rfl hl (by decide) rfl (fun ls hl => ?_)
  refine lv_iconst (v := 1) hx hb dL_set_10 (by decide) ?_
  have hP9 := hP.sub (ws' := [(a_k, .inr (6, [.ref a_m, .ref a_t, .ref a_u, .ref a_i, .ref a_p]))]) [0] rfl
  have hD9 := hD.sub (ws' := [(a_k, .inr (6, [.ref a_m, .ref a_t, .ref a_u, .ref a_i, .ref a_p]))]) [0] (by decide) rfl
  have hK9 := hK.sub (tys' := []) [] rfl
  exact W.iret (v := 1) hx hb hr (fun t9 ht hW => ⟨⟨1, (), rfl, rfl, by rw [ht]; exact hP9, va_K.moved hW.alike hK9, hD9⟩, hS.F ht⟩) hS.2.2 dL_set_11
