theorem dX1_serve_0 : decode cX1_serve 0 = .ok (.aload_n 0, 1) := by decide +kernel
theorem dX1_serve_1 : decode cX1_serve 1 = .ok (.getfield 13, 3) := by decide +kernel
theorem dX1_serve_29 : decode cX1_serve 29 = .ok (.iconst 0, 1) := by decide +kernel
theorem dX1_serve_30 : decode cX1_serve 30 = .ok (.istore_n 2, 1) := by decide +kernel
theorem dX1_serve_31 : decode cX1_serve 31 = .ok (.iload_n 2, 1) := by decide +kernel
theorem dX1_serve_32 : decode cX1_serve 32 = .ok (.ifCond .ne 5, 3) := by decide +kernel
theorem dX1_serve_35 : decode cX1_serve 35 = .ok (.iconst 0, 1) := by decide +kernel
theorem dX1_serve_36 : decode cX1_serve 36 = .ok (.ireturn, 1) := by decide +kernel
theorem dX1_serve_4 : decode cX1_serve 4 = .ok (.ifCond .eq 25, 3) := by decide +kernel
theorem dX4_executeGroup0_0 : decode cX4_executeGroup0 0 = .ok (.iload_n 2, 1) := by decide +kernel
theorem dX4_executeGroup0_1 : decode cX4_executeGroup0 1 = .ok (.tableswitch 103 0 6 #[43, 51, 59, 67, 75, 83, 91], 43) := by decide +kernel
theorem dX4_executeGroup0_109 : decode cX4_executeGroup0 109 = .ok (.return_, 1) := by decide +kernel
theorem dX4_executeGroup0_44 : decode cX4_executeGroup0 44 = .ok (.aload_n 0, 1) := by decide +kernel
theorem dX4_executeGroup0_45 : decode cX4_executeGroup0 45 = .ok (.iload_n 1, 1) := by decide +kernel
theorem dX4_executeGroup0_46 : decode cX4_executeGroup0 46 = .ok (.invokevirtual 110, 3) := by decide +kernel
theorem dX4_executeGroup0_49 : decode cX4_executeGroup0 49 = .ok (.goto 60, 3) := by decide +kernel
theorem dX4_execute_0 : decode cX4_execute 0 = .ok (.iload_n 1, 1) := by decide +kernel
theorem dX4_execute_1 : decode cX4_execute 1 = .ok (.iconst 3, 1) := by decide +kernel
theorem dX4_execute_10 : decode cX4_execute 10 = .ok (.iand, 1) := by decide +kernel
theorem dX4_execute_11 : decode cX4_execute 11 = .ok (.istore_n 3, 1) := by decide +kernel
theorem dX4_execute_12 : decode cX4_execute 12 = .ok (.iload_n 1, 1) := by decide +kernel
theorem dX4_execute_13 : decode cX4_execute 13 = .ok (.bipush 6, 2) := by decide +kernel
theorem dX4_execute_15 : decode cX4_execute 15 = .ok (.ishr, 1) := by decide +kernel
theorem dX4_execute_16 : decode cX4_execute 16 = .ok (.tableswitch 59 0 2 #[28, 37, 46], 28) := by decide +kernel
theorem dX4_execute_2 : decode cX4_execute 2 = .ok (.ishr, 1) := by decide +kernel
theorem dX4_execute_3 : decode cX4_execute 3 = .ok (.bipush 7, 2) := by decide +kernel
theorem dX4_execute_44 : decode cX4_execute 44 = .ok (.aload_n 0, 1) := by decide +kernel
theorem dX4_execute_45 : decode cX4_execute 45 = .ok (.iload_n 2, 1) := by decide +kernel
theorem dX4_execute_46 : decode cX4_execute 46 = .ok (.iload_n 3, 1) := by decide +kernel
theorem dX4_execute_47 : decode cX4_execute 47 = .ok (.invokevirtual 93, 3) := by decide +kernel
theorem dX4_execute_5 : decode cX4_execute 5 = .ok (.iand, 1) := by decide +kernel
theorem dX4_execute_50 : decode cX4_execute 50 = .ok (.goto 31, 3) := by decide +kernel
theorem dX4_execute_6 : decode cX4_execute 6 = .ok (.istore_n 2, 1) := by decide +kernel
theorem dX4_execute_7 : decode cX4_execute 7 = .ok (.iload_n 1, 1) := by decide +kernel
theorem dX4_execute_8 : decode cX4_execute 8 = .ok (.bipush 7, 2) := by decide +kernel
theorem dX4_execute_81 : decode cX4_execute 81 = .ok (.return_, 1) := by decide +kernel
theorem dX4_useMask_0 : decode cX4_useMask 0 = .ok (.iload_n 1, 1) := by decide +kernel
theorem dX4_useMask_1 : decode cX4_useMask 1 = .ok (.iconst 4, 1) := by decide +kernel
theorem dX4_useMask_2 : decode cX4_useMask 2 = .ok (.if_icmp .ne 35, 3) := by decide +kernel
theorem dX4_useMask_37 : decode cX4_useMask 37 = .ok (.iload_n 1, 1) := by decide +kernel
theorem dX4_useMask_38 : decode cX4_useMask 38 = .ok (.bipush 6, 2) := by decide +kernel
theorem dX4_useMask_40 : decode cX4_useMask 40 = .ok (.if_icmp .ne 17, 3) := by decide +kernel
theorem dX4_useMask_57 : decode cX4_useMask 57 = .ok (.return_, 1) := by decide +kernel
set_option maxHeartbeats 4000000 in
set_option maxRecDepth 100000 in
/-- Interrupts.serve, off: none is due -/
theorem c_serve (l : Launch) (dC : Nat → ClassId) (dI : Nat → Nat → Nat) (a_i : Nat) (b : Int32) (sz : Nat) : Met l yX1_serve (zq yX1_serve cX1_serve 3 (some .int)) ({ frames := 0, cells := 0, slots := 0, locals := 0 }) (va_Pc [.ref a_i, .int b] (zc_P (dC, dI) [(a_i, .inr (1, [.int 0, .int 0, .int 7, .int 0, .int 0, .int 0, .int 0]))] [] sz)) (va_Qi (fun r _ => r = 0) (fun (u : Unit) t9 => zc_B (dC, dI) (va_A [(a_i, .inr (1, [.int 0, .int 0, .int 7, .int 0, .int 0, .int 0, .int 0]))] sz) [(a_i, .inr (1, [.int 0, .int 0, .int 7, .int 0, .int 0, .int 0, .int 0]))] [] t9) (va_A [(a_i, .inr (1, [.int 0, .int 0, .int 7, .int 0, .int 0, .int 0, .int 0]))] sz)) 0 0 (va_A [(a_i, .inr (1, [.int 0, .int 0, .int 7, .int 0, .int 0, .int 0, .int 0]))] sz) := by
  refine Met.ofW (cc := cX1_serve) (maxL := 3) (ret := (some .int)) (by decide) rfl ?_
  intro p e s m args below meth c s₁ B hml hv
  obtain ⟨rfl, hsz, hP, hK, hD0, hN⟩ := hv
  have hx := B.exec
  have hb := B.bytes
  have hr := B.returns
  have hts : ∀ w ∈ zw, w.before _ s = true := fun w h => atoms_spec (ws := (zq yX1_serve cX1_serve 3 (some .int))) B.pre w (List.mem_cons_of_mem _ h)
  have hown : s.vm.findClass RX1 = some m.cls := findClass_of_methodNamed B.named
  have hlocks := B.notSynchronized
  subst hsz
  have hD := hD0.self (sz := s.heap.size)
  generalize hAe : va_A [(a_i, .inr (1, [.int 0, .int 0, .int 7, .int 0, .int 0, .int 0, .int 0]))] s.heap.size = A at hD ⊢
  have hA : ∀ q : Nat, s.heap.size ≤ q → A q := fun q h => by rw [← hAe]; exact Or.inr h
  have hS : va_S A s.heap s.heap [] := va_S.rf
  have hP : va_P (dC, dI) vwCl [(a_i, .inr (1, [.int 0, .int 0, .int 7, .int 0, .int 0, .int 0, .int 0]))] s.heap := hP
  have hl := lv_entry ([.ref a_i, .int b]) (n := 3) (Nat.le_of_ble_eq_true rfl)
  rw [lg_entry_eq]
  generalize (lg_sl ([.ref a_i, .int b]) ++ List.replicate (3 - (lg_sl ([.ref a_i, .int b])).length) Slot.unset).toArray = ls at hl ⊢
  have hl : lv_has ls 3 [(0, .ref a_i), (1, .int b)] := hl
  refine lv_aload_n hx hb dX1_serve_0 rfl (lv_at hl 0 rfl) ?_
  refine va_get (D := (dC, dI)) (ci := 1) (v := .int 0) (C := RX1) (T := TX1) (N := 7) hx hb hts zx_1 hown hK hP 0 rfl rfl 0 (by decide) (hts (.fieldLink RX1 13 "KeyboardKit$Interrupts" "on" "Z") zw_188) (fun _ h9 => h9) rfl dX1_serve_1 ?_
  refine lv_if_eq (tgt := 29) hx hb dX1_serve_4 (by decide) (fun c_1 => ?_) (fun c_1 => absurd c_1 (by decide))
  refine lv_iconst (v := 0) hx hb dX1_serve_29 (by decide) ?_
  refine lv_istore_n (lv' := [(2, .int 0), (0, .ref a_i), (1, .int b)]) hx hb dX1_serve_30 rfl hl (by decide) rfl (fun ls hl => ?_)
  refine lv_iload_n hx hb dX1_serve_31 rfl (lv_at hl 0 rfl) ?_
  refine lv_if_ne (tgt := 37) hx hb dX1_serve_32 (by decide) (fun c_2 => absurd c_2 (by decide)) (fun c_2 => ?_)
  refine lv_iconst (v := 0) hx hb dX1_serve_35 (by decide) ?_
  have hP9 := hP.sub (ws' := [(a_i, .inr (1, [.int 0, .int 0, .int 7, .int 0, .int 0, .int 0, .int 0]))]) [0] rfl
  have hD9 := hD.sub (ws' := [(a_i, .inr (1, [.int 0, .int 0, .int 7, .int 0, .int 0, .int 0, .int 0]))]) [0] (by decide) rfl
  have hK9 := hK.sub (tys' := []) [] rfl
  exact W.iret (v := 0) hx hb hr (fun t9 ht hW => ⟨⟨0, (), rfl, rfl, by rw [ht]; exact hP9, va_K.moved hW.alike hK9, hD9⟩, hS.F ht⟩) hS.2.2 dX1_serve_36
set_option maxHeartbeats 4000000 in
set_option maxRecDepth 100000 in
/-- Processor.useMask(0): nothing -/
theorem c_mask (l : Launch) (dC : Nat → ClassId) (dI : Nat → Nat → Nat) (a_p : Nat) (a_m : Nat) (a_t : Nat) (a_u : Nat) (a_i : Nat) (a_o : Nat) (a_r : Nat) (a_f : Nat) (pc : Int32) (tk : Int32) (sz : Nat) : Met l yX4_useMask (zq yX4_useMask cX4_useMask 2 none) ({ frames := 0, cells := 0, slots := 0, locals := 0 }) (va_Pc [.ref a_p, .int 0] (zc_P (dC, dI) [(a_p, .inr (4, [.ref a_m, .ref a_t, .ref a_u, .ref a_i, .ref a_o, .ref a_r, .ref a_f, .int 0, .int pc, .int 0, .int tk]))] [] sz)) (va_Qv (fun _ => True) (fun (u : Unit) t9 => zc_B (dC, dI) (va_A [(a_p, .inr (4, [.ref a_m, .ref a_t, .ref a_u, .ref a_i, .ref a_o, .ref a_r, .ref a_f, .int 0, .int pc, .int 0, .int tk]))] sz) [(a_p, .inr (4, [.ref a_m, .ref a_t, .ref a_u, .ref a_i, .ref a_o, .ref a_r, .ref a_f, .int 0, .int pc, .int 0, .int tk]))] [] t9) (va_A [(a_p, .inr (4, [.ref a_m, .ref a_t, .ref a_u, .ref a_i, .ref a_o, .ref a_r, .ref a_f, .int 0, .int pc, .int 0, .int tk]))] sz)) 0 0 (va_A [(a_p, .inr (4, [.ref a_m, .ref a_t, .ref a_u, .ref a_i, .ref a_o, .ref a_r, .ref a_f, .int 0, .int pc, .int 0, .int tk]))] sz) := by
  refine Met.ofW (cc := cX4_useMask) (maxL := 2) (ret := none) (by decide) rfl ?_
  intro p e s m args below meth c s₁ B hml hv
  obtain ⟨rfl, hsz, hP, hK, hD0, hN⟩ := hv
  have hx := B.exec
  have hb := B.bytes
  have hr := B.returns
  have hts : ∀ w ∈ zw, w.before _ s = true := fun w h => atoms_spec (ws := (zq yX4_useMask cX4_useMask 2 none)) B.pre w (List.mem_cons_of_mem _ h)
  have hown : s.vm.findClass RX4 = some m.cls := findClass_of_methodNamed B.named
  have hlocks := B.notSynchronized
  subst hsz
  have hD := hD0.self (sz := s.heap.size)
  generalize hAe : va_A [(a_p, .inr (4, [.ref a_m, .ref a_t, .ref a_u, .ref a_i, .ref a_o, .ref a_r, .ref a_f, .int 0, .int pc, .int 0, .int tk]))] s.heap.size = A at hD ⊢
  have hA : ∀ q : Nat, s.heap.size ≤ q → A q := fun q h => by rw [← hAe]; exact Or.inr h
  have hS : va_S A s.heap s.heap [] := va_S.rf
  have hP : va_P (dC, dI) vwCl [(a_p, .inr (4, [.ref a_m, .ref a_t, .ref a_u, .ref a_i, .ref a_o, .ref a_r, .ref a_f, .int 0, .int pc, .int 0, .int tk]))] s.heap := hP
  have hl := lv_entry ([.ref a_p, .int 0]) (n := 2) (Nat.le_of_ble_eq_true rfl)
  rw [lg_entry_eq]
  generalize (lg_sl ([.ref a_p, .int 0]) ++ List.replicate (2 - (lg_sl ([.ref a_p, .int 0])).length) Slot.unset).toArray = ls at hl ⊢
  have hl : lv_has ls 2 [(0, .ref a_p), (1, .int 0)] := hl
  refine lv_iload_n hx hb dX4_useMask_0 rfl (lv_at hl 1 rfl) ?_
  refine lv_iconst (v := 4) hx hb dX4_useMask_1 (by decide) ?_
  refine lv_icmp_ne (tgt := 37) hx hb dX4_useMask_2 (by decide) (fun c_1 => ?_) (fun c_1 => absurd c_1 (by decide))
  refine lv_iload_n hx hb dX4_useMask_37 rfl (lv_at hl 1 rfl) ?_
  refine lv_bipush (v := 6) hx hb dX4_useMask_38 (by decide) ?_
  refine lv_icmp_ne (tgt := 57) hx hb dX4_useMask_40 (by decide) (fun c_2 => ?_) (fun c_2 => absurd c_2 (by decide))
  have hP9 := hP.sub (ws' := [(a_p, .inr (4, [.ref a_m, .ref a_t, .ref a_u, .ref a_i, .ref a_o, .ref a_r, .ref a_f, .int 0, .int pc, .int 0, .int tk]))]) [0] rfl
  have hD9 := hD.sub (ws' := [(a_p, .inr (4, [.ref a_m, .ref a_t, .ref a_u, .ref a_i, .ref a_o, .ref a_r, .ref a_f, .int 0, .int pc, .int 0, .int tk]))]) [0] (by decide) rfl
  have hK9 := hK.sub (tys' := []) [] rfl
  exact W.vret hx hb hr (fun t9 ht hW => ⟨⟨(), rfl, trivial, by rw [ht]; exact hP9, va_K.moved hW.alike hK9, hD9⟩, hS.F ht⟩) hS.2.2 dX4_useMask_57
set_option maxHeartbeats 4000000 in
set_option maxRecDepth 100000 in
/-- Processor.executeGroup0(0, 0): nothing -/
theorem c_g0 (l : Launch) (dC : Nat → ClassId) (dI : Nat → Nat → Nat) (a_p : Nat) (a_m : Nat) (a_t : Nat) (a_u : Nat) (a_i : Nat) (a_o : Nat) (a_r : Nat) (a_f : Nat) (pc : Int32) (tk : Int32) (sz : Nat) : Met l yX4_executeGroup0 (zq yX4_executeGroup0 cX4_executeGroup0 3 none) ({ frames := 1, cells := 0, slots := 0, locals := 21 }) (va_Pc [.ref a_p, .int 0, .int 0] (zc_P (dC, dI) [(a_p, .inr (4, [.ref a_m, .ref a_t, .ref a_u, .ref a_i, .ref a_o, .ref a_r, .ref a_f, .int 0, .int pc, .int 0, .int tk]))] [] sz)) (va_Qv (fun _ => True) (fun (u : Unit) t9 => zc_B (dC, dI) (va_A [(a_p, .inr (4, [.ref a_m, .ref a_t, .ref a_u, .ref a_i, .ref a_o, .ref a_r, .ref a_f, .int 0, .int pc, .int 0, .int tk]))] sz) [(a_p, .inr (4, [.ref a_m, .ref a_t, .ref a_u, .ref a_i, .ref a_o, .ref a_r, .ref a_f, .int 0, .int pc, .int 0, .int tk]))] [] t9) (va_A [(a_p, .inr (4, [.ref a_m, .ref a_t, .ref a_u, .ref a_i, .ref a_o, .ref a_r, .ref a_f, .int 0, .int pc, .int 0, .int tk]))] sz)) 0 0 (va_A [(a_p, .inr (4, [.ref a_m, .ref a_t, .ref a_u, .ref a_i, .ref a_o, .ref a_r, .ref a_f, .int 0, .int pc, .int 0, .int tk]))] sz) := by
  refine Met.ofW (cc := cX4_executeGroup0) (maxL := 3) (ret := none) (by decide) rfl ?_
  intro p e s m args below meth c s₁ B hml hv
  obtain ⟨rfl, hsz, hP, hK, hD0, hN⟩ := hv
  have hx := B.exec
  have hb := B.bytes
  have hr := B.returns
  have hts : ∀ w ∈ zw, w.before _ s = true := fun w h => atoms_spec (ws := (zq yX4_executeGroup0 cX4_executeGroup0 3 none)) B.pre w (List.mem_cons_of_mem _ h)
  have hown : s.vm.findClass RX4 = some m.cls := findClass_of_methodNamed B.named
  have hlocks := B.notSynchronized
  subst hsz
  have hD := hD0.self (sz := s.heap.size)
  generalize hAe : va_A [(a_p, .inr (4, [.ref a_m, .ref a_t, .ref a_u, .ref a_i, .ref a_o, .ref a_r, .ref a_f, .int 0, .int pc, .int 0, .int tk]))] s.heap.size = A at hD ⊢
  have hA : ∀ q : Nat, s.heap.size ≤ q → A q := fun q h => by rw [← hAe]; exact Or.inr h
  have hS : va_S A s.heap s.heap [] := va_S.rf
  have hP : va_P (dC, dI) vwCl [(a_p, .inr (4, [.ref a_m, .ref a_t, .ref a_u, .ref a_i, .ref a_o, .ref a_r, .ref a_f, .int 0, .int pc, .int 0, .int tk]))] s.heap := hP
  have hl := lv_entry ([.ref a_p, .int 0, .int 0]) (n := 3) (Nat.le_of_ble_eq_true rfl)
  rw [lg_entry_eq]
  generalize (lg_sl ([.ref a_p, .int 0, .int 0]) ++ List.replicate (3 - (lg_sl ([.ref a_p, .int 0, .int 0])).length) Slot.unset).toArray = ls at hl ⊢
  have hl : lv_has ls 3 [(0, .ref a_p), (1, .int 0), (2, .int 0)] := hl
  refine lv_iload_n hx hb dX4_executeGroup0_0 rfl (lv_at hl 2 rfl) ?_
  refine lv_tableIn (off := 43) (tgt := 44) hx hb dX4_executeGroup0_1 (by decide) (by decide) rfl (by decide) ?_
  refine lv_aload_n hx hb dX4_executeGroup0_44 rfl (lv_at hl 0 rfl) ?_
  refine lv_iload_n hx hb dX4_executeGroup0_45 rfl (lv_at hl 1 rfl) ?_
  refine zc_v (wr := []) hP hD hS hA [0] [] rfl rfl (by decide) (by decide) (va_runV (As := [.int 0]) (rest := []) ⟨hx, hb, hml, hown, hts⟩ (c_mask l dC dI a_p a_m a_t a_u a_i a_o a_r a_f pc tk _) (cwV 1 hts (zg_V zw_349 zw_351 zw_6 zw_87 zw_352) rfl rfl rfl (by decide +kernel) ⟨Nat.le_of_ble_eq_true rfl, Nat.le_of_ble_eq_true rfl⟩) ⟨zc_blind, va_recv hK hP (ci := 4) (q0 := 0) rfl rfl, zc_start hP hD hK hN [0] [] rfl (by decide) rfl⟩ rfl rfl hl.1 rfl (lv_room (Nat.le_of_ble_eq_true rfl)) dX4_executeGroup0_46 ⟨Nat.le_of_ble_eq_true rfl, Nat.le_of_ble_eq_true rfl⟩) (fun u_1 H locs hw hK1 hP hD hS => ?_)
  have hP : va_P (dC, dI) vwCl [(a_p, .inr (4, [.ref a_m, .ref a_t, .ref a_u, .ref a_i, .ref a_o, .ref a_r, .ref a_f, .int 0, .int pc, .int 0, .int tk]))] H := hP
  have hD : va_D A [(a_p, .inr (4, [.ref a_m, .ref a_t, .ref a_u, .ref a_i, .ref a_o, .ref a_r, .ref a_f, .int 0, .int pc, .int 0, .int tk]))] := hD
  refine lv_goto (tgt := 109) hx hb dX4_executeGroup0_49 (by decide) ?_
  have hP9 := hP.sub (ws' := [(a_p, .inr (4, [.ref a_m, .ref a_t, .ref a_u, .ref a_i, .ref a_o, .ref a_r, .ref a_f, .int 0, .int pc, .int 0, .int tk]))]) [0] rfl
  have hD9 := hD.sub (ws' := [(a_p, .inr (4, [.ref a_m, .ref a_t, .ref a_u, .ref a_i, .ref a_o, .ref a_r, .ref a_f, .int 0, .int pc, .int 0, .int tk]))]) [0] (by decide) rfl
  have hK9 := hK.sub (tys' := []) [] rfl
  exact W.vret hx hb hr (fun t9 ht hW => ⟨⟨(), rfl, trivial, by rw [ht]; exact hP9, va_K.moved hW.alike hK9, hD9⟩, hS.F ht⟩) hS.2.2 dX4_executeGroup0_109
set_option maxHeartbeats 4000000 in
set_option maxRecDepth 100000 in
/-- Processor.execute(0): nothing -/
theorem c_exec (l : Launch) (dC : Nat → ClassId) (dI : Nat → Nat → Nat) (a_p : Nat) (a_m : Nat) (a_t : Nat) (a_u : Nat) (a_i : Nat) (a_o : Nat) (a_r : Nat) (a_f : Nat) (pc : Int32) (tk : Int32) (sz : Nat) : Met l yX4_execute (zq yX4_execute cX4_execute 4 none) ({ frames := 2, cells := 0, slots := 0, locals := 43 }) (va_Pc [.ref a_p, .int 0] (zc_P (dC, dI) [(a_p, .inr (4, [.ref a_m, .ref a_t, .ref a_u, .ref a_i, .ref a_o, .ref a_r, .ref a_f, .int 0, .int pc, .int 0, .int tk]))] [] sz)) (va_Qv (fun _ => True) (fun (u : Unit) t9 => zc_B (dC, dI) (va_A [(a_p, .inr (4, [.ref a_m, .ref a_t, .ref a_u, .ref a_i, .ref a_o, .ref a_r, .ref a_f, .int 0, .int pc, .int 0, .int tk]))] sz) [(a_p, .inr (4, [.ref a_m, .ref a_t, .ref a_u, .ref a_i, .ref a_o, .ref a_r, .ref a_f, .int 0, .int pc, .int 0, .int tk]))] [] t9) (va_A [(a_p, .inr (4, [.ref a_m, .ref a_t, .ref a_u, .ref a_i, .ref a_o, .ref a_r, .ref a_f, .int 0, .int pc, .int 0, .int tk]))] sz)) 0 0 (va_A [(a_p, .inr (4, [.ref a_m, .ref a_t, .ref a_u, .ref a_i, .ref a_o, .ref a_r, .ref a_f, .int 0, .int pc, .int 0, .int tk]))] sz) := by
  refine Met.ofW (cc := cX4_execute) (maxL := 4) (ret := none) (by decide) rfl ?_
  intro p e s m args below meth c s₁ B hml hv
  obtain ⟨rfl, hsz, hP, hK, hD0, hN⟩ := hv
  have hx := B.exec
  have hb := B.bytes
  have hr := B.returns
  have hts : ∀ w ∈ zw, w.before _ s = true := fun w h => atoms_spec (ws := (zq yX4_execute cX4_execute 4 none)) B.pre w (List.mem_cons_of_mem _ h)
  have hown : s.vm.findClass RX4 = some m.cls := findClass_of_methodNamed B.named
  have hlocks := B.notSynchronized
  subst hsz
  have hD := hD0.self (sz := s.heap.size)
  generalize hAe : va_A [(a_p, .inr (4, [.ref a_m, .ref a_t, .ref a_u, .ref a_i, .ref a_o, .ref a_r, .ref a_f, .int 0, .int pc, .int 0, .int tk]))] s.heap.size = A at hD ⊢
  have hA : ∀ q : Nat, s.heap.size ≤ q → A q := fun q h => by rw [← hAe]; exact Or.inr h
  have hS : va_S A s.heap s.heap [] := va_S.rf
  have hP : va_P (dC, dI) vwCl [(a_p, .inr (4, [.ref a_m, .ref a_t, .ref a_u, .ref a_i, .ref a_o, .ref a_r, .ref a_f, .int 0, .int pc, .int 0, .int tk]))] s.heap := hP
  have hl := lv_entry ([.ref a_p, .int 0]) (n := 4) (Nat.le_of_ble_eq_true rfl)
  rw [lg_entry_eq]
  generalize (lg_sl ([.ref a_p, .int 0]) ++ List.replicate (4 - (lg_sl ([.ref a_p, .int 0])).length) Slot.unset).toArray = ls at hl ⊢
  have hl : lv_has ls 4 [(0, .ref a_p), (1, .int 0)] := hl
  refine lv_iload_n hx hb dX4_execute_0 rfl (lv_at hl 1 rfl) ?_
  refine lv_iconst (v := 3) hx hb dX4_execute_1 (by decide) ?_
  refine lv_ishr hx hb dX4_execute_2 ?_
  refine lv_topi (fun v_1 ev_1 => ?_)
  obtain rfl : v_1 = 0 := ev_1.trans (by decide)
  refine lv_bipush (v := 7) hx hb dX4_execute_3 (by decide) ?_
  refine lv_iand hx hb dX4_execute_5 ?_
  refine lv_topi (fun v_2 ev_2 => ?_)
  obtain rfl : v_2 = 0 := ev_2.trans (by decide)
  refine lv_istore_n (lv' := [(2, .int 0), (0, .ref a_p), (1, .int 0)]) hx hb dX4_execute_6 rfl hl (by decide) rfl (fun ls hl => ?_)
  refine lv_iload_n hx hb dX4_execute_7 rfl (lv_at hl 2 rfl) ?_
  refine lv_bipush (v := 7) hx hb dX4_execute_8 (by decide) ?_
  refine lv_iand hx hb dX4_execute_10 ?_
  refine lv_topi (fun v_3 ev_3 => ?_)
  obtain rfl : v_3 = 0 := ev_3.trans (by decide)
  refine lv_istore_n (lv' := [(3, .int 0), (2, .int 0), (0, .ref a_p), (1, .int 0)]) hx hb dX4_execute_11 rfl hl (by decide) rfl (fun ls hl => ?_)
  refine lv_iload_n hx hb dX4_execute_12 rfl (lv_at hl 3 rfl) ?_
  refine lv_bipush (v := 6) hx hb dX4_execute_13 (by decide) ?_
  refine lv_ishr hx hb dX4_execute_15 ?_
  refine lv_topi (fun v_4 ev_4 => ?_)
  obtain rfl : v_4 = 0 := ev_4.trans (by decide)
  refine lv_tableIn (off := 28) (tgt := 44) hx hb dX4_execute_16 (by decide) (by decide) rfl (by decide) ?_
  refine lv_aload_n hx hb dX4_execute_44 rfl (lv_at hl 2 rfl) ?_
  refine lv_iload_n hx hb dX4_execute_45 rfl (lv_at hl 1 rfl) ?_
  refine lv_iload_n hx hb dX4_execute_46 rfl (lv_at hl 0 rfl) ?_
  refine zc_v (wr := []) hP hD hS hA [0] [] rfl rfl (by decide) (by decide) (va_runV (As := [.int 0, .int 0]) (rest := []) ⟨hx, hb, hml, hown, hts⟩ (c_g0 l dC dI a_p a_m a_t a_u a_i a_o a_r a_f pc tk _) (cwV 2 hts (zg_V zw_345 zw_347 zw_5 zw_87 zw_348) rfl rfl rfl (by decide +kernel) ⟨Nat.le_of_ble_eq_true rfl, Nat.le_of_ble_eq_true rfl⟩) ⟨zc_blind, va_recv hK hP (ci := 4) (q0 := 0) rfl rfl, zc_start hP hD hK hN [0] [] rfl (by decide) rfl⟩ rfl rfl hl.1 rfl (lv_room (Nat.le_of_ble_eq_true rfl)) dX4_execute_47 ⟨Nat.le_of_ble_eq_true rfl, Nat.le_of_ble_eq_true rfl⟩) (fun u_5 H locs hw hK1 hP hD hS => ?_)
  have hP : va_P (dC, dI) vwCl [(a_p, .inr (4, [.ref a_m, .ref a_t, .ref a_u, .ref a_i, .ref a_o, .ref a_r, .ref a_f, .int 0, .int pc, .int 0, .int tk]))] H := hP
  have hD : va_D A [(a_p, .inr (4, [.ref a_m, .ref a_t, .ref a_u, .ref a_i, .ref a_o, .ref a_r, .ref a_f, .int 0, .int pc, .int 0, .int tk]))] := hD
  refine lv_goto (tgt := 81) hx hb dX4_execute_50 (by decide) ?_
  have hP9 := hP.sub (ws' := [(a_p, .inr (4, [.ref a_m, .ref a_t, .ref a_u, .ref a_i, .ref a_o, .ref a_r, .ref a_f, .int 0, .int pc, .int 0, .int tk]))]) [0] rfl
  have hD9 := hD.sub (ws' := [(a_p, .inr (4, [.ref a_m, .ref a_t, .ref a_u, .ref a_i, .ref a_o, .ref a_r, .ref a_f, .int 0, .int pc, .int 0, .int tk]))]) [0] (by decide) rfl
  have hK9 := hK.sub (tys' := []) [] rfl
  exact W.vret hx hb hr (fun t9 ht hW => ⟨⟨(), rfl, trivial, by rw [ht]; exact hP9, va_K.moved hW.alike hK9, hD9⟩, hS.F ht⟩) hS.2.2 dX4_execute_81
