theorem dX1_readMask_0 : decode cX1_readMask 0 = .ok (.aload_n 0, 1) := by decide +kernel
theorem dX1_readMask_1 : decode cX1_readMask 1 = .ok (.getfield 9, 3) := by decide +kernel
theorem dX1_readMask_11 : decode cX1_readMask 11 = .ok (.bipush 8, 2) := by decide +kernel
theorem dX1_readMask_13 : decode cX1_readMask 13 = .ok (.goto 4, 3) := by decide +kernel
theorem dX1_readMask_16 : decode cX1_readMask 16 = .ok (.iconst 0, 1) := by decide +kernel
theorem dX1_readMask_17 : decode cX1_readMask 17 = .ok (.ior, 1) := by decide +kernel
theorem dX1_readMask_18 : decode cX1_readMask 18 = .ok (.aload_n 0, 1) := by decide +kernel
theorem dX1_readMask_19 : decode cX1_readMask 19 = .ok (.iload_n 1, 1) := by decide +kernel
theorem dX1_readMask_20 : decode cX1_readMask 20 = .ok (.invokevirtual 26, 3) := by decide +kernel
theorem dX1_readMask_23 : decode cX1_readMask 23 = .ok (.iconst 4, 1) := by decide +kernel
theorem dX1_readMask_24 : decode cX1_readMask 24 = .ok (.ishl, 1) := by decide +kernel
theorem dX1_readMask_25 : decode cX1_readMask 25 = .ok (.ior, 1) := by decide +kernel
theorem dX1_readMask_26 : decode cX1_readMask 26 = .ok (.aload_n 0, 1) := by decide +kernel
theorem dX1_readMask_27 : decode cX1_readMask 27 = .ok (.getfield 33, 3) := by decide +kernel
theorem dX1_readMask_30 : decode cX1_readMask 30 = .ok (.ifCond .eq 9, 3) := by decide +kernel
theorem dX1_readMask_33 : decode cX1_readMask 33 = .ok (.sipush 128, 3) := by decide +kernel
theorem dX1_readMask_36 : decode cX1_readMask 36 = .ok (.goto 4, 3) := by decide +kernel
theorem dX1_readMask_39 : decode cX1_readMask 39 = .ok (.iconst 0, 1) := by decide +kernel
theorem dX1_readMask_4 : decode cX1_readMask 4 = .ok (.aload_n 0, 1) := by decide +kernel
theorem dX1_readMask_40 : decode cX1_readMask 40 = .ok (.ior, 1) := by decide +kernel
theorem dX1_readMask_41 : decode cX1_readMask 41 = .ok (.ireturn, 1) := by decide +kernel
theorem dX1_readMask_5 : decode cX1_readMask 5 = .ok (.getfield 13, 3) := by decide +kernel
theorem dX1_readMask_8 : decode cX1_readMask 8 = .ok (.ifCond .eq 8, 3) := by decide +kernel
theorem dX1_serve_0 : decode cX1_serve 0 = .ok (.aload_n 0, 1) := by decide +kernel
theorem dX1_serve_1 : decode cX1_serve 1 = .ok (.getfield 13, 3) := by decide +kernel
theorem dX1_serve_11 : decode cX1_serve 11 = .ok (.ifCond .ne 18, 3) := by decide +kernel
theorem dX1_serve_14 : decode cX1_serve 14 = .ok (.aload_n 0, 1) := by decide +kernel
theorem dX1_serve_15 : decode cX1_serve 15 = .ok (.iload_n 1, 1) := by decide +kernel
theorem dX1_serve_16 : decode cX1_serve 16 = .ok (.invokevirtual 26, 3) := by decide +kernel
theorem dX1_serve_19 : decode cX1_serve 19 = .ok (.aload_n 0, 1) := by decide +kernel
theorem dX1_serve_20 : decode cX1_serve 20 = .ok (.getfield 9, 3) := by decide +kernel
theorem dX1_serve_23 : decode cX1_serve 23 = .ok (.iconst (-1), 1) := by decide +kernel
theorem dX1_serve_24 : decode cX1_serve 24 = .ok (.ixor, 1) := by decide +kernel
theorem dX1_serve_25 : decode cX1_serve 25 = .ok (.iand, 1) := by decide +kernel
theorem dX1_serve_26 : decode cX1_serve 26 = .ok (.goto 4, 3) := by decide +kernel
theorem dX1_serve_29 : decode cX1_serve 29 = .ok (.iconst 0, 1) := by decide +kernel
theorem dX1_serve_30 : decode cX1_serve 30 = .ok (.istore_n 2, 1) := by decide +kernel
theorem dX1_serve_31 : decode cX1_serve 31 = .ok (.iload_n 2, 1) := by decide +kernel
theorem dX1_serve_32 : decode cX1_serve 32 = .ok (.ifCond .ne 5, 3) := by decide +kernel
theorem dX1_serve_35 : decode cX1_serve 35 = .ok (.iconst 0, 1) := by decide +kernel
theorem dX1_serve_36 : decode cX1_serve 36 = .ok (.ireturn, 1) := by decide +kernel
theorem dX1_serve_37 : decode cX1_serve 37 = .ok (.aload_n 0, 1) := by decide +kernel
theorem dX1_serve_38 : decode cX1_serve 38 = .ok (.iconst 0, 1) := by decide +kernel
theorem dX1_serve_39 : decode cX1_serve 39 = .ok (.putfield 13, 3) := by decide +kernel
theorem dX1_serve_4 : decode cX1_serve 4 = .ok (.ifCond .eq 25, 3) := by decide +kernel
theorem dX1_serve_42 : decode cX1_serve 42 = .ok (.iload_n 2, 1) := by decide +kernel
theorem dX1_serve_43 : decode cX1_serve 43 = .ok (.iconst 4, 1) := by decide +kernel
theorem dX1_serve_44 : decode cX1_serve 44 = .ok (.iand, 1) := by decide +kernel
theorem dX1_serve_45 : decode cX1_serve 45 = .ok (.ifCond .eq 11, 3) := by decide +kernel
theorem dX1_serve_48 : decode cX1_serve 48 = .ok (.aload_n 0, 1) := by decide +kernel
theorem dX1_serve_49 : decode cX1_serve 49 = .ok (.iconst 0, 1) := by decide +kernel
theorem dX1_serve_50 : decode cX1_serve 50 = .ok (.putfield 23, 3) := by decide +kernel
theorem dX1_serve_53 : decode cX1_serve 53 = .ok (.bipush 60, 2) := by decide +kernel
theorem dX1_serve_55 : decode cX1_serve 55 = .ok (.ireturn, 1) := by decide +kernel
theorem dX1_serve_56 : decode cX1_serve 56 = .ok (.iload_n 2, 1) := by decide +kernel
theorem dX1_serve_57 : decode cX1_serve 57 = .ok (.iconst 2, 1) := by decide +kernel
theorem dX1_serve_58 : decode cX1_serve 58 = .ok (.iand, 1) := by decide +kernel
theorem dX1_serve_59 : decode cX1_serve 59 = .ok (.ifCond .eq 8, 3) := by decide +kernel
theorem dX1_serve_62 : decode cX1_serve 62 = .ok (.bipush 52, 2) := by decide +kernel
theorem dX1_serve_64 : decode cX1_serve 64 = .ok (.goto 5, 3) := by decide +kernel
theorem dX1_serve_67 : decode cX1_serve 67 = .ok (.bipush 44, 2) := by decide +kernel
theorem dX1_serve_69 : decode cX1_serve 69 = .ok (.ireturn, 1) := by decide +kernel
theorem dX1_serve_7 : decode cX1_serve 7 = .ok (.aload_n 0, 1) := by decide +kernel
theorem dX1_serve_8 : decode cX1_serve 8 = .ok (.getfield 17, 3) := by decide +kernel
theorem dX1_setMask_0 : decode cX1_setMask 0 = .ok (.iload_n 1, 1) := by decide +kernel
theorem dX1_setMask_1 : decode cX1_setMask 1 = .ok (.bipush 8, 2) := by decide +kernel
theorem dX1_setMask_11 : decode cX1_setMask 11 = .ok (.iand, 1) := by decide +kernel
theorem dX1_setMask_12 : decode cX1_setMask 12 = .ok (.putfield 9, 3) := by decide +kernel
theorem dX1_setMask_15 : decode cX1_setMask 15 = .ok (.iload_n 1, 1) := by decide +kernel
theorem dX1_setMask_16 : decode cX1_setMask 16 = .ok (.bipush 16, 2) := by decide +kernel
theorem dX1_setMask_18 : decode cX1_setMask 18 = .ok (.iand, 1) := by decide +kernel
theorem dX1_setMask_19 : decode cX1_setMask 19 = .ok (.ifCond .eq 8, 3) := by decide +kernel
theorem dX1_setMask_22 : decode cX1_setMask 22 = .ok (.aload_n 0, 1) := by decide +kernel
theorem dX1_setMask_23 : decode cX1_setMask 23 = .ok (.iconst 0, 1) := by decide +kernel
theorem dX1_setMask_24 : decode cX1_setMask 24 = .ok (.putfield 23, 3) := by decide +kernel
theorem dX1_setMask_27 : decode cX1_setMask 27 = .ok (.iload_n 1, 1) := by decide +kernel
theorem dX1_setMask_28 : decode cX1_setMask 28 = .ok (.bipush 64, 2) := by decide +kernel
theorem dX1_setMask_3 : decode cX1_setMask 3 = .ok (.iand, 1) := by decide +kernel
theorem dX1_setMask_30 : decode cX1_setMask 30 = .ok (.iand, 1) := by decide +kernel
theorem dX1_setMask_31 : decode cX1_setMask 31 = .ok (.ifCond .eq 20, 3) := by decide +kernel
theorem dX1_setMask_34 : decode cX1_setMask 34 = .ok (.aload_n 0, 1) := by decide +kernel
theorem dX1_setMask_35 : decode cX1_setMask 35 = .ok (.iload_n 1, 1) := by decide +kernel
theorem dX1_setMask_36 : decode cX1_setMask 36 = .ok (.sipush 128, 3) := by decide +kernel
theorem dX1_setMask_39 : decode cX1_setMask 39 = .ok (.iand, 1) := by decide +kernel
theorem dX1_setMask_4 : decode cX1_setMask 4 = .ok (.ifCond .eq 11, 3) := by decide +kernel
theorem dX1_setMask_40 : decode cX1_setMask 40 = .ok (.ifCond .eq 7, 3) := by decide +kernel
theorem dX1_setMask_43 : decode cX1_setMask 43 = .ok (.iconst 1, 1) := by decide +kernel
theorem dX1_setMask_44 : decode cX1_setMask 44 = .ok (.goto 4, 3) := by decide +kernel
theorem dX1_setMask_47 : decode cX1_setMask 47 = .ok (.iconst 0, 1) := by decide +kernel
theorem dX1_setMask_48 : decode cX1_setMask 48 = .ok (.putfield 30, 3) := by decide +kernel
theorem dX1_setMask_51 : decode cX1_setMask 51 = .ok (.return_, 1) := by decide +kernel
theorem dX1_setMask_7 : decode cX1_setMask 7 = .ok (.aload_n 0, 1) := by decide +kernel
theorem dX1_setMask_8 : decode cX1_setMask 8 = .ok (.iload_n 1, 1) := by decide +kernel
theorem dX1_setMask_9 : decode cX1_setMask 9 = .ok (.bipush 7, 2) := by decide +kernel
theorem dX1_turnOn_0 : decode cX1_turnOn 0 = .ok (.aload_n 0, 1) := by decide +kernel
theorem dX1_turnOn_1 : decode cX1_turnOn 1 = .ok (.iconst 1, 1) := by decide +kernel
theorem dX1_turnOn_10 : decode cX1_turnOn 10 = .ok (.return_, 1) := by decide +kernel
theorem dX1_turnOn_2 : decode cX1_turnOn 2 = .ok (.putfield 13, 3) := by decide +kernel
theorem dX1_turnOn_5 : decode cX1_turnOn 5 = .ok (.aload_n 0, 1) := by decide +kernel
theorem dX1_turnOn_6 : decode cX1_turnOn 6 = .ok (.iconst 1, 1) := by decide +kernel
theorem dX1_turnOn_7 : decode cX1_turnOn 7 = .ok (.putfield 17, 3) := by decide +kernel
theorem dX1_wanted_0 : decode cX1_wanted 0 = .ok (.iload_n 1, 1) := by decide +kernel
theorem dX1_wanted_1 : decode cX1_wanted 1 = .ok (.ifCond .eq 7, 3) := by decide +kernel
theorem dX1_wanted_10 : decode cX1_wanted 10 = .ok (.getfield 20, 3) := by decide +kernel
theorem dX1_wanted_13 : decode cX1_wanted 13 = .ok (.ifCond .eq 7, 3) := by decide +kernel
theorem dX1_wanted_16 : decode cX1_wanted 16 = .ok (.iconst 2, 1) := by decide +kernel
theorem dX1_wanted_17 : decode cX1_wanted 17 = .ok (.goto 4, 3) := by decide +kernel
theorem dX1_wanted_20 : decode cX1_wanted 20 = .ok (.iconst 0, 1) := by decide +kernel
theorem dX1_wanted_21 : decode cX1_wanted 21 = .ok (.ior, 1) := by decide +kernel
theorem dX1_wanted_22 : decode cX1_wanted 22 = .ok (.aload_n 0, 1) := by decide +kernel
theorem dX1_wanted_23 : decode cX1_wanted 23 = .ok (.getfield 23, 3) := by decide +kernel
theorem dX1_wanted_26 : decode cX1_wanted 26 = .ok (.ifCond .eq 7, 3) := by decide +kernel
theorem dX1_wanted_29 : decode cX1_wanted 29 = .ok (.iconst 4, 1) := by decide +kernel
theorem dX1_wanted_30 : decode cX1_wanted 30 = .ok (.goto 4, 3) := by decide +kernel
theorem dX1_wanted_33 : decode cX1_wanted 33 = .ok (.iconst 0, 1) := by decide +kernel
theorem dX1_wanted_34 : decode cX1_wanted 34 = .ok (.ior, 1) := by decide +kernel
theorem dX1_wanted_35 : decode cX1_wanted 35 = .ok (.ireturn, 1) := by decide +kernel
theorem dX1_wanted_4 : decode cX1_wanted 4 = .ok (.iconst 1, 1) := by decide +kernel
theorem dX1_wanted_5 : decode cX1_wanted 5 = .ok (.goto 4, 3) := by decide +kernel
theorem dX1_wanted_8 : decode cX1_wanted 8 = .ok (.iconst 0, 1) := by decide +kernel
theorem dX1_wanted_9 : decode cX1_wanted 9 = .ok (.aload_n 0, 1) := by decide +kernel
set_option maxHeartbeats 4000000 in
set_option maxRecDepth 100000 in
theorem g_X1_turnOn (l : Launch) (dC : Nat → ClassId) (dI : Nat → Nat → Nat) (a_i : Nat) (ln : Int32) (se : Int32) (g : Nat → Int32) (n : Nat → Nat) (f : Nat → Nat → Int32) (sz : Nat) : Met l yX1_turnOn (zq yX1_turnOn cX1_turnOn 1 none) ({ frames := 0, cells := 0, slots := 0, locals := 0 }) (va_Pc [.ref a_i] (zc_P (dC, dI) [(a_i, .inr (1, [.int (g 13), .int (g 14), .int (g 15), .int (g 16), .int ln, .int se, .int (g 19)]))] [] sz)) (va_Qv (fun (u : (Nat → Int32) × (Nat → Nat) × (Nat → Nat → Int32)) => True) (fun (u : (Nat → Int32) × (Nat → Nat) × (Nat → Nat → Int32)) t9 => zc_B (dC, dI) (va_A [(a_i, .inr (1, [.int (g 13), .int (g 14), .int (g 15), .int (g 16), .int ln, .int se, .int (g 19)]))] sz) [(a_i, .inr (1, [.int (u.1 13), .int (u.1 14), .int (u.1 15), .int (u.1 16), .int ln, .int se, .int (u.1 19)]))] [] t9) (va_A [(a_i, .inr (1, [.int (g 13), .int (g 14), .int (g 15), .int (g 16), .int ln, .int se, .int (g 19)]))] sz)) 0 0 (va_A [(a_i, .inr (1, [.int (g 13), .int (g 14), .int (g 15), .int (g 16), .int ln, .int se, .int (g 19)]))] sz) := by
  refine Met.ofW (cc := cX1_turnOn) (maxL := 1) (ret := none) (by decide) rfl ?_
  intro p e s m args below meth c s₁ B hml hv
  obtain ⟨rfl, hsz, hP, hK, hD0, hN⟩ := hv
  have hx := B.exec
  have hb := B.bytes
  have hr := B.returns
  have hts : ∀ w ∈ zw, w.before _ s = true := fun w h => atoms_spec (ws := (zq yX1_turnOn cX1_turnOn 1 none)) B.pre w (List.mem_cons_of_mem _ h)
  have hown : s.vm.findClass RX1 = some m.cls := findClass_of_methodNamed B.named
  have hlocks := B.notSynchronized
  subst hsz
  have hD := hD0.self (sz := s.heap.size)
  generalize hAe : va_A [(a_i, .inr (1, [.int (g 13), .int (g 14), .int (g 15), .int (g 16), .int ln, .int se, .int (g 19)]))] s.heap.size = A at hD ⊢
  have hA : ∀ q : Nat, s.heap.size ≤ q → A q := fun q h => by rw [← hAe]; exact Or.inr h
  have hS : va_S A s.heap s.heap [] := va_S.rf
  have hP : va_P (dC, dI) vwCl [(a_i, .inr (1, [.int (g 13), .int (g 14), .int (g 15), .int (g 16), .int ln, .int se, .int (g 19)]))] s.heap := hP
  have hl := lv_entry ([.ref a_i]) (n := 1) (Nat.le_of_ble_eq_true rfl)
  rw [lg_entry_eq]
  generalize (lg_sl ([.ref a_i]) ++ List.replicate (1 - (lg_sl ([.ref a_i])).length) Slot.unset).toArray = ls at hl ⊢
  have hl : lv_has ls 1 [(0, .ref a_i)] := hl
  refine lv_aload_n hx hb dX1_turnOn_0 rfl (lv_at hl 0 rfl) ?_
  refine lv_iconst (v := 1) hx hb dX1_turnOn_1 (by decide) ?_
  refine va_put (D := (dC, dI)) (ci := 1) (v := .int 1) (ty := .boolean) (C := RX1) (T := TX1) (N := 7) hx hb hts zx_1 tyX1 tyX1_ok nmX1 hown hK hP hD hS 0 rfl rfl 0 (by decide) (hts (.fieldLink RX1 13 "KeyboardKit$Interrupts" "on" "Z") zw_188) (fun _ h9 => h9) rfl (by decide +kernel) rfl rfl (Nat.le_of_ble_eq_true rfl) dX1_turnOn_2 (fun H locs hP hD hS => ?_)
  have hP : va_P (dC, dI) vwCl [(a_i, .inr (1, [.int 1, .int (g 14), .int (g 15), .int (g 16), .int ln, .int se, .int (g 19)]))] H := hP
  have hD : va_D A [(a_i, .inr (1, [.int 1, .int (g 14), .int (g 15), .int (g 16), .int ln, .int se, .int (g 19)]))] := hD
  refine lv_aload_n hx hb dX1_turnOn_5 rfl (lv_at hl 0 rfl) ?_
  refine lv_iconst (v := 1) hx hb dX1_turnOn_6 (by decide) ?_
  refine va_put (D := (dC, dI)) (ci := 1) (v := .int 1) (ty := .boolean) (C := RX1) (T := TX1) (N := 7) hx hb hts zx_1 tyX1 tyX1_ok nmX1 hown hK hP hD hS 0 rfl rfl 1 (by decide) (hts (.fieldLink RX1 17 "KeyboardKit$Interrupts" "heldBack" "Z") zw_191) (fun _ h9 => h9) rfl (by decide +kernel) rfl rfl (Nat.le_of_ble_eq_true rfl) dX1_turnOn_7 (fun H locs hP hD hS => ?_)
  have hP : va_P (dC, dI) vwCl [(a_i, .inr (1, [.int 1, .int 1, .int (g 15), .int (g 16), .int ln, .int se, .int (g 19)]))] H := hP
  have hD : va_D A [(a_i, .inr (1, [.int 1, .int 1, .int (g 15), .int (g 16), .int ln, .int se, .int (g 19)]))] := hD
  have hP9 := hP.sub (ws' := [(a_i, .inr (1, [.int 1, .int 1, .int (g 15), .int (g 16), .int ln, .int se, .int (g 19)]))]) [0] rfl
  have hD9 := hD.sub (ws' := [(a_i, .inr (1, [.int 1, .int 1, .int (g 15), .int (g 16), .int ln, .int se, .int (g 19)]))]) [0] (by decide) rfl
  have hK9 := hK.sub (tys' := []) [] rfl
  exact W.vret hx hb hr (fun t9 ht hW => ⟨⟨((fun k9 => match k9 with | 13 => 1 | 14 => 1 | 15 => g 15 | 16 => g 16 | _ => g 19), (fun _ => 0), (fun _ _ => 0)), rfl, trivial, by rw [ht]; exact hP9, va_K.moved hW.alike hK9, hD9⟩, hS.F ht⟩) hS.2.2 dX1_turnOn_10
set_option maxHeartbeats 4000000 in
set_option maxRecDepth 100000 in
theorem g_X1_wanted (l : Launch) (dC : Nat → ClassId) (dI : Nat → Nat → Nat) (a_i : Nat) (ln : Int32) (se : Int32) (g : Nat → Int32) (n : Nat → Nat) (f : Nat → Nat → Int32) (p0 : Int32) (sz : Nat) : Met l yX1_wanted (zq yX1_wanted cX1_wanted 2 (some .int)) ({ frames := 0, cells := 0, slots := 0, locals := 0 }) (va_Pc [.ref a_i, .int p0] (zc_P (dC, dI) [(a_i, .inr (1, [.int (g 13), .int (g 14), .int (g 15), .int (g 16), .int ln, .int se, .int (g 19)]))] [] sz)) (va_Qi (fun (r : Int32) (u : (Nat → Int32) × (Nat → Nat) × (Nat → Nat → Int32)) => True) (fun (u : (Nat → Int32) × (Nat → Nat) × (Nat → Nat → Int32)) t9 => zc_B (dC, dI) (va_A [(a_i, .inr (1, [.int (g 13), .int (g 14), .int (g 15), .int (g 16), .int ln, .int se, .int (g 19)]))] sz) [(a_i, .inr (1, [.int (u.1 13), .int (u.1 14), .int (u.1 15), .int (u.1 16), .int ln, .int se, .int (u.1 19)]))] [] t9) (va_A [(a_i, .inr (1, [.int (g 13), .int (g 14), .int (g 15), .int (g 16), .int ln, .int se, .int (g 19)]))] sz)) 0 0 (va_A [(a_i, .inr (1, [.int (g 13), .int (g 14), .int (g 15), .int (g 16), .int ln, .int se, .int (g 19)]))] sz) := by
  refine Met.ofW (cc := cX1_wanted) (maxL := 2) (ret := (some .int)) (by decide) rfl ?_
  intro p e s m args below meth c s₁ B hml hv
  obtain ⟨rfl, hsz, hP, hK, hD0, hN⟩ := hv
  have hx := B.exec
  have hb := B.bytes
  have hr := B.returns
  have hts : ∀ w ∈ zw, w.before _ s = true := fun w h => atoms_spec (ws := (zq yX1_wanted cX1_wanted 2 (some .int))) B.pre w (List.mem_cons_of_mem _ h)
  have hown : s.vm.findClass RX1 = some m.cls := findClass_of_methodNamed B.named
  have hlocks := B.notSynchronized
  subst hsz
  have hD := hD0.self (sz := s.heap.size)
  generalize hAe : va_A [(a_i, .inr (1, [.int (g 13), .int (g 14), .int (g 15), .int (g 16), .int ln, .int se, .int (g 19)]))] s.heap.size = A at hD ⊢
  have hA : ∀ q : Nat, s.heap.size ≤ q → A q := fun q h => by rw [← hAe]; exact Or.inr h
  have hS : va_S A s.heap s.heap [] := va_S.rf
  have hP : va_P (dC, dI) vwCl [(a_i, .inr (1, [.int (g 13), .int (g 14), .int (g 15), .int (g 16), .int ln, .int se, .int (g 19)]))] s.heap := hP
  have hl := lv_entry ([.ref a_i, .int p0]) (n := 2) (Nat.le_of_ble_eq_true rfl)
  rw [lg_entry_eq]
  generalize (lg_sl ([.ref a_i, .int p0]) ++ List.replicate (2 - (lg_sl ([.ref a_i, .int p0])).length) Slot.unset).toArray = ls at hl ⊢
  have hl : lv_has ls 2 [(0, .ref a_i), (1, .int p0)] := hl
  refine lv_iload_n hx hb dX1_wanted_0 rfl (lv_at hl 1 rfl) ?_
  have join_3 : ∀ (x_2 : Nat) (hx_2 : x_2 < 2) (H : Heap) (locs : List Loc) (ls : Array Slot), va_P (dC, dI) vwCl [(a_i, .inr (1, [.int (g 13), .int (g 14), .int (g 15), .int (g 16), .int ln, .int se, .int (g 19)]))] H → va_D A [(a_i, .inr (1, [.int (g 13), .int (g 14), .int (g 15), .int (g 16), .int ln, .int se, .int (g 19)]))] → va_S A s.heap H locs → lv_has ls 2 [(0, .ref a_i), (1, .int p0)] → W p l e (headSpec (zq yX1_wanted cX1_wanted 2 (some .int)) ({ frames := 0, cells := 0, slots := 0, locals := 0 })).room s m ([.ref a_i, .int p0] : List Value).toArray below meth c H locs 0 0 (MQ below (va_Qi (fun (r : Int32) (u : (Nat → Int32) × (Nat → Nat) × (Nat → Nat → Int32)) => True) (fun (u : (Nat → Int32) × (Nat → Nat) × (Nat → Nat → Int32)) t9 => zc_B (dC, dI) A [(a_i, .inr (1, [.int (u.1 13), .int (u.1 14), .int (u.1 15), .int (u.1 16), .int ln, .int se, .int (u.1 19)]))] [] t9) A) ([.ref a_i, .int p0] : List Value).toArray s 0 0 A) (F0 m 9 ls [.int (nI x_2)]) := by
    intro x_2 hx_2 H locs ls hP hD hS hl
    refine lv_aload_n hx hb dX1_wanted_9 rfl (lv_at hl 0 rfl) ?_
    refine va_get (D := (dC, dI)) (ci := 1) (v := .int ln) (C := RX1) (T := TX1) (N := 7) hx hb hts zx_1 hown hK hP 0 rfl rfl 4 (by decide) (hts (.fieldLink RX1 20 "KeyboardKit$Interrupts" "line65" "Z") zw_197) (fun _ h9 => h9) rfl dX1_wanted_10 ?_
    have join_6 : ∀ (x_5 : Nat) (hx_5 : x_5 < 3) (H : Heap) (locs : List Loc) (ls : Array Slot), va_P (dC, dI) vwCl [(a_i, .inr (1, [.int (g 13), .int (g 14), .int (g 15), .int (g 16), .int ln, .int se, .int (g 19)]))] H → va_D A [(a_i, .inr (1, [.int (g 13), .int (g 14), .int (g 15), .int (g 16), .int ln, .int se, .int (g 19)]))] → va_S A s.heap H locs → lv_has ls 2 [(0, .ref a_i), (1, .int p0)] → W p l e (headSpec (zq yX1_wanted cX1_wanted 2 (some .int)) ({ frames := 0, cells := 0, slots := 0, locals := 0 })).room s m ([.ref a_i, .int p0] : List Value).toArray below meth c H locs 0 0 (MQ below (va_Qi (fun (r : Int32) (u : (Nat → Int32) × (Nat → Nat) × (Nat → Nat → Int32)) => True) (fun (u : (Nat → Int32) × (Nat → Nat) × (Nat → Nat → Int32)) t9 => zc_B (dC, dI) A [(a_i, .inr (1, [.int (u.1 13), .int (u.1 14), .int (u.1 15), .int (u.1 16), .int ln, .int se, .int (u.1 19)]))] [] t9) A) ([.ref a_i, .int p0] : List Value).toArray s 0 0 A) (F0 m 21 ls [.int (nI x_5), .int (nI x_2)]) := by
      intro x_5 hx_5 H locs ls hP hD hS hl
      refine lv_ior hx hb dX1_wanted_21 ?_
      refine lv_topi (fun v_7 ev_7 => ?_)
      refine lv_aload_n hx hb dX1_wanted_22 rfl (lv_at hl 0 rfl) ?_
      refine va_get (D := (dC, dI)) (ci := 1) (v := .int (g 16)) (C := RX1) (T := TX1) (N := 7) hx hb hts zx_1 hown hK hP 0 rfl rfl 3 (by decide) (hts (.fieldLink RX1 23 "KeyboardKit$Interrupts" "timerEnded" "Z") zw_196) (fun _ h9 => h9) rfl dX1_wanted_23 ?_
      have join_10 : ∀ (x_9 : Nat) (hx_9 : x_9 < 5) (H : Heap) (locs : List Loc) (ls : Array Slot), va_P (dC, dI) vwCl [(a_i, .inr (1, [.int (g 13), .int (g 14), .int (g 15), .int (g 16), .int ln, .int se, .int (g 19)]))] H → va_D A [(a_i, .inr (1, [.int (g 13), .int (g 14), .int (g 15), .int (g 16), .int ln, .int se, .int (g 19)]))] → va_S A s.heap H locs → lv_has ls 2 [(0, .ref a_i), (1, .int p0)] → W p l e (headSpec (zq yX1_wanted cX1_wanted 2 (some .int)) ({ frames := 0, cells := 0, slots := 0, locals := 0 })).room s m ([.ref a_i, .int p0] : List Value).toArray below meth c H locs 0 0 (MQ below (va_Qi (fun (r : Int32) (u : (Nat → Int32) × (Nat → Nat) × (Nat → Nat → Int32)) => True) (fun (u : (Nat → Int32) × (Nat → Nat) × (Nat → Nat → Int32)) t9 => zc_B (dC, dI) A [(a_i, .inr (1, [.int (u.1 13), .int (u.1 14), .int (u.1 15), .int (u.1 16), .int ln, .int se, .int (u.1 19)]))] [] t9) A) ([.ref a_i, .int p0] : List Value).toArray s 0 0 A) (F0 m 34 ls [.int (nI x_9), .int v_7]) := by
        intro x_9 hx_9 H locs ls hP hD hS hl
        refine lv_ior hx hb dX1_wanted_34 ?_
        refine lv_topi (fun v_11 ev_11 => ?_)
        have hP9 := hP.sub (ws' := [(a_i, .inr (1, [.int (g 13), .int (g 14), .int (g 15), .int (g 16), .int ln, .int se, .int (g 19)]))]) [0] rfl
        have hD9 := hD.sub (ws' := [(a_i, .inr (1, [.int (g 13), .int (g 14), .int (g 15), .int (g 16), .int ln, .int se, .int (g 19)]))]) [0] (by decide) rfl
        have hK9 := hK.sub (tys' := []) [] rfl
        exact W.iret (v := v_11) hx hb hr (fun t9 ht hW => ⟨⟨v_11, ((g), (fun _ => 0), (fun _ _ => 0)), rfl, trivial, by rw [ht]; exact hP9, va_K.moved hW.alike hK9, hD9⟩, hS.F ht⟩) hS.2.2 dX1_wanted_35
      refine lv_if_eq (tgt := 33) hx hb dX1_wanted_26 (by decide) (fun c_8 => ?_) (fun c_8 => ?_)
      · refine lv_iconst (v := 0) hx hb dX1_wanted_33 (by decide) ?_
        exact join_10 0 (by omega) _ _ _ (hP.sub [0] rfl) (hD.sub [0] (by decide) rfl) hS (lv_sub hl [0, 1] rfl)
      · refine lv_iconst (v := 4) hx hb dX1_wanted_29 (by decide) ?_
        refine lv_goto (tgt := 34) hx hb dX1_wanted_30 (by decide) ?_
        exact join_10 4 (by omega) _ _ _ (hP.sub [0] rfl) (hD.sub [0] (by decide) rfl) hS (lv_sub hl [0, 1] rfl)
    refine lv_if_eq (tgt := 20) hx hb dX1_wanted_13 (by decide) (fun c_4 => ?_) (fun c_4 => ?_)
    · refine lv_iconst (v := 0) hx hb dX1_wanted_20 (by decide) ?_
      exact join_6 0 (by omega) _ _ _ (hP.sub [0] rfl) (hD.sub [0] (by decide) rfl) hS (lv_sub hl [0, 1] rfl)
    · refine lv_iconst (v := 2) hx hb dX1_wanted_16 (by decide) ?_
      refine lv_goto (tgt := 21) hx hb dX1_wanted_17 (by decide) ?_
      exact join_6 2 (by omega) _ _ _ (hP.sub [0] rfl) (hD.sub [0] (by decide) rfl) hS (lv_sub hl [0, 1] rfl)
  refine lv_if_eq (tgt := 8) hx hb dX1_wanted_1 (by decide) (fun c_1 => ?_) (fun c_1 => ?_)
  · refine lv_iconst (v := 0) hx hb dX1_wanted_8 (by decide) ?_
    exact join_3 0 (by omega) _ _ _ (hP.sub [0] rfl) (hD.sub [0] (by decide) rfl) hS (lv_sub hl [0, 1] rfl)
  · refine lv_iconst (v := 1) hx hb dX1_wanted_4 (by decide) ?_
    refine lv_goto (tgt := 9) hx hb dX1_wanted_5 (by decide) ?_
    exact join_3 1 (by omega) _ _ _ (hP.sub [0] rfl) (hD.sub [0] (by decide) rfl) hS (lv_sub hl [0, 1] rfl)
set_option maxHeartbeats 4000000 in
set_option maxRecDepth 100000 in
theorem g_X1_serve (l : Launch) (dC : Nat → ClassId) (dI : Nat → Nat → Nat) (a_i : Nat) (ln : Int32) (se : Int32) (g : Nat → Int32) (n : Nat → Nat) (f : Nat → Nat → Int32) (p0 : Int32) (sz : Nat) : Met l yX1_serve (zq yX1_serve cX1_serve 3 (some .int)) ({ frames := 1, cells := 0, slots := 0, locals := 21 }) (va_Pc [.ref a_i, .int p0] (zc_P (dC, dI) [(a_i, .inr (1, [.int (g 13), .int (g 14), .int (g 15), .int (g 16), .int ln, .int se, .int (g 19)]))] [] sz)) (va_Qi (fun (r : Int32) (u : (Nat → Int32) × (Nat → Nat) × (Nat → Nat → Int32)) => True) (fun (u : (Nat → Int32) × (Nat → Nat) × (Nat → Nat → Int32)) t9 => zc_B (dC, dI) (va_A [(a_i, .inr (1, [.int (g 13), .int (g 14), .int (g 15), .int (g 16), .int ln, .int se, .int (g 19)]))] sz) [(a_i, .inr (1, [.int (u.1 13), .int (u.1 14), .int (u.1 15), .int (u.1 16), .int ln, .int se, .int (u.1 19)]))] [] t9) (va_A [(a_i, .inr (1, [.int (g 13), .int (g 14), .int (g 15), .int (g 16), .int ln, .int se, .int (g 19)]))] sz)) 0 0 (va_A [(a_i, .inr (1, [.int (g 13), .int (g 14), .int (g 15), .int (g 16), .int ln, .int se, .int (g 19)]))] sz) := by
  refine Met.ofW (cc := cX1_serve) (maxL := 3) (ret := (some .int)) (by decide) rfl ?_
  intro p e s m args below meth c s₁ B hml hv
  obtain ⟨rfl, hsz, hP, hK, hD0, hN⟩ := hv
  have hx := B.exec
  have hb := B.bytes
  have hr := B.returns
  have hts : ∀ w ∈ zw, w.before _ s = true := fun w h => atoms_spec (ws := (zq yX1_serve cX1_serve 3 (some .int))) B.pre w (List.mem_cons_of_mem _ h)
  have hown : s.vm.findClass RX1 = some m.cls := findClass_of_methodNamed B.named
  have hlocks := B.notSynchronized
  subst hsz
  have hD := hD0.self (sz := s.heap.size)
  generalize hAe : va_A [(a_i, .inr (1, [.int (g 13), .int (g 14), .int (g 15), .int (g 16), .int ln, .int se, .int (g 19)]))] s.heap.size = A at hD ⊢
  have hA : ∀ q : Nat, s.heap.size ≤ q → A q := fun q h => by rw [← hAe]; exact Or.inr h
  have hS : va_S A s.heap s.heap [] := va_S.rf
  have hP : va_P (dC, dI) vwCl [(a_i, .inr (1, [.int (g 13), .int (g 14), .int (g 15), .int (g 16), .int ln, .int se, .int (g 19)]))] s.heap := hP
  have hl := lv_entry ([.ref a_i, .int p0]) (n := 3) (Nat.le_of_ble_eq_true rfl)
  rw [lg_entry_eq]
  generalize (lg_sl ([.ref a_i, .int p0]) ++ List.replicate (3 - (lg_sl ([.ref a_i, .int p0])).length) Slot.unset).toArray = ls at hl ⊢
  have hl : lv_has ls 3 [(0, .ref a_i), (1, .int p0)] := hl
  refine lv_aload_n hx hb dX1_serve_0 rfl (lv_at hl 0 rfl) ?_
  refine va_get (D := (dC, dI)) (ci := 1) (v := .int (g 13)) (C := RX1) (T := TX1) (N := 7) hx hb hts zx_1 hown hK hP 0 rfl rfl 0 (by decide) (hts (.fieldLink RX1 13 "KeyboardKit$Interrupts" "on" "Z") zw_188) (fun _ h9 => h9) rfl dX1_serve_1 ?_
  have join_12 : ∀ (x_6 : Int32) (x_7 : Int32) (x_8 : Int32) (x_9 : Int32) (x_10 : Int32) (x_11 : Int32) (H : Heap) (locs : List Loc) (ls : Array Slot), va_P (dC, dI) vwCl [(a_i, .inr (1, [.int x_7, .int x_8, .int x_9, .int x_10, .int ln, .int se, .int x_11]))] H → va_D A [(a_i, .inr (1, [.int x_7, .int x_8, .int x_9, .int x_10, .int ln, .int se, .int x_11]))] → va_S A s.heap H locs → lv_has ls 3 [(0, .ref a_i), (1, .int p0)] → W p l e (headSpec (zq yX1_serve cX1_serve 3 (some .int)) ({ frames := 1, cells := 0, slots := 0, locals := 21 })).room s m ([.ref a_i, .int p0] : List Value).toArray below meth c H locs 0 0 (MQ below (va_Qi (fun (r : Int32) (u : (Nat → Int32) × (Nat → Nat) × (Nat → Nat → Int32)) => True) (fun (u : (Nat → Int32) × (Nat → Nat) × (Nat → Nat → Int32)) t9 => zc_B (dC, dI) A [(a_i, .inr (1, [.int (u.1 13), .int (u.1 14), .int (u.1 15), .int (u.1 16), .int ln, .int se, .int (u.1 19)]))] [] t9) A) ([.ref a_i, .int p0] : List Value).toArray s 0 0 A) (F0 m 30 ls [.int x_6]) := by
    intro x_6 x_7 x_8 x_9 x_10 x_11 H locs ls hP hD hS hl
    refine lv_istore_n (lv' := [(2, .int x_6), (0, .ref a_i), (1, .int p0)]) hx hb dX1_serve_30 rfl hl (by decide) rfl (fun ls hl => ?_)
    refine lv_iload_n hx hb dX1_serve_31 rfl (lv_at hl 0 rfl) ?_
    refine lv_if_ne (tgt := 37) hx hb dX1_serve_32 (by decide) (fun c_13 => ?_) (fun c_13 => ?_)
    · refine lv_aload_n hx hb dX1_serve_37 rfl (lv_at hl 1 rfl) ?_
      refine lv_iconst (v := 0) hx hb dX1_serve_38 (by decide) ?_
      refine va_put (D := (dC, dI)) (ci := 1) (v := .int 0) (ty := .boolean) (C := RX1) (T := TX1) (N := 7) hx hb hts zx_1 tyX1 tyX1_ok nmX1 hown hK hP hD hS 0 rfl rfl 0 (by decide) (hts (.fieldLink RX1 13 "KeyboardKit$Interrupts" "on" "Z") zw_188) (fun _ h9 => h9) rfl (by decide +kernel) rfl rfl (Nat.le_of_ble_eq_true rfl) dX1_serve_39 (fun H locs hP hD hS => ?_)
      have hP : va_P (dC, dI) vwCl [(a_i, .inr (1, [.int 0, .int x_8, .int x_9, .int x_10, .int ln, .int se, .int x_11]))] H := hP
      have hD : va_D A [(a_i, .inr (1, [.int 0, .int x_8, .int x_9, .int x_10, .int ln, .int se, .int x_11]))] := hD
      refine lv_iload_n hx hb dX1_serve_42 rfl (lv_at hl 0 rfl) ?_
      refine lv_iconst (v := 4) hx hb dX1_serve_43 (by decide) ?_
      refine lv_iand hx hb dX1_serve_44 ?_
      refine lv_topi (fun v_14 ev_14 => ?_)
      refine lv_if_eq (tgt := 56) hx hb dX1_serve_45 (by decide) (fun c_15 => ?_) (fun c_15 => ?_)
      · refine lv_iload_n hx hb dX1_serve_56 rfl (lv_at hl 0 rfl) ?_
        refine lv_iconst (v := 2) hx hb dX1_serve_57 (by decide) ?_
        refine lv_iand hx hb dX1_serve_58 ?_
        refine lv_topi (fun v_16 ev_16 => ?_)
        have join_19 : ∀ (x_18 : Nat) (hx_18 : x_18 < 53) (H : Heap) (locs : List Loc) (ls : Array Slot), va_P (dC, dI) vwCl [(a_i, .inr (1, [.int 0, .int x_8, .int x_9, .int x_10, .int ln, .int se, .int x_11]))] H → va_D A [(a_i, .inr (1, [.int 0, .int x_8, .int x_9, .int x_10, .int ln, .int se, .int x_11]))] → va_S A s.heap H locs → lv_has ls 3 [(2, .int x_6), (0, .ref a_i), (1, .int p0)] → W p l e (headSpec (zq yX1_serve cX1_serve 3 (some .int)) ({ frames := 1, cells := 0, slots := 0, locals := 21 })).room s m ([.ref a_i, .int p0] : List Value).toArray below meth c H locs 0 0 (MQ below (va_Qi (fun (r : Int32) (u : (Nat → Int32) × (Nat → Nat) × (Nat → Nat → Int32)) => True) (fun (u : (Nat → Int32) × (Nat → Nat) × (Nat → Nat → Int32)) t9 => zc_B (dC, dI) A [(a_i, .inr (1, [.int (u.1 13), .int (u.1 14), .int (u.1 15), .int (u.1 16), .int ln, .int se, .int (u.1 19)]))] [] t9) A) ([.ref a_i, .int p0] : List Value).toArray s 0 0 A) (F0 m 69 ls [.int (nI x_18)]) := by
          intro x_18 hx_18 H locs ls hP hD hS hl
          have hP9 := hP.sub (ws' := [(a_i, .inr (1, [.int 0, .int x_8, .int x_9, .int x_10, .int ln, .int se, .int x_11]))]) [0] rfl
          have hD9 := hD.sub (ws' := [(a_i, .inr (1, [.int 0, .int x_8, .int x_9, .int x_10, .int ln, .int se, .int x_11]))]) [0] (by decide) rfl
          have hK9 := hK.sub (tys' := []) [] rfl
          exact W.iret (v := (nI x_18)) hx hb hr (fun t9 ht hW => ⟨⟨(nI x_18), ((fun k9 => match k9 with | 13 => 0 | 14 => x_8 | 15 => x_9 | 16 => x_10 | _ => x_11), (fun _ => 0), (fun _ _ => 0)), rfl, trivial, by rw [ht]; exact hP9, va_K.moved hW.alike hK9, hD9⟩, hS.F ht⟩) hS.2.2 dX1_serve_69
        refine lv_if_eq (tgt := 67) hx hb dX1_serve_59 (by decide) (fun c_17 => ?_) (fun c_17 => ?_)
        · refine lv_bipush (v := 44) hx hb dX1_serve_67 (by decide) ?_
          exact join_19 44 (by omega) _ _ _ (hP.sub [0] rfl) (hD.sub [0] (by decide) rfl) hS (lv_sub hl [0, 1, 2] rfl)
        · refine lv_bipush (v := 52) hx hb dX1_serve_62 (by decide) ?_
          refine lv_goto (tgt := 69) hx hb dX1_serve_64 (by decide) ?_
          exact join_19 52 (by omega) _ _ _ (hP.sub [0] rfl) (hD.sub [0] (by decide) rfl) hS (lv_sub hl [0, 1, 2] rfl)
      · refine lv_aload_n hx hb dX1_serve_48 rfl (lv_at hl 1 rfl) ?_
        refine lv_iconst (v := 0) hx hb dX1_serve_49 (by decide) ?_
        refine va_put (D := (dC, dI)) (ci := 1) (v := .int 0) (ty := .boolean) (C := RX1) (T := TX1) (N := 7) hx hb hts zx_1 tyX1 tyX1_ok nmX1 hown hK hP hD hS 0 rfl rfl 3 (by decide) (hts (.fieldLink RX1 23 "KeyboardKit$Interrupts" "timerEnded" "Z") zw_196) (fun _ h9 => h9) rfl (by decide +kernel) rfl rfl (Nat.le_of_ble_eq_true rfl) dX1_serve_50 (fun H locs hP hD hS => ?_)
        have hP : va_P (dC, dI) vwCl [(a_i, .inr (1, [.int 0, .int x_8, .int x_9, .int 0, .int ln, .int se, .int x_11]))] H := hP
        have hD : va_D A [(a_i, .inr (1, [.int 0, .int x_8, .int x_9, .int 0, .int ln, .int se, .int x_11]))] := hD
        refine lv_bipush (v := 60) hx hb dX1_serve_53 (by decide) ?_
        have hP9 := hP.sub (ws' := [(a_i, .inr (1, [.int 0, .int x_8, .int x_9, .int 0, .int ln, .int se, .int x_11]))]) [0] rfl
        have hD9 := hD.sub (ws' := [(a_i, .inr (1, [.int 0, .int x_8, .int x_9, .int 0, .int ln, .int se, .int x_11]))]) [0] (by decide) rfl
        have hK9 := hK.sub (tys' := []) [] rfl
        exact W.iret (v := 60) hx hb hr (fun t9 ht hW => ⟨⟨60, ((fun k9 => match k9 with | 13 => 0 | 14 => x_8 | 15 => x_9 | 16 => 0 | _ => x_11), (fun _ => 0), (fun _ _ => 0)), rfl, trivial, by rw [ht]; exact hP9, va_K.moved hW.alike hK9, hD9⟩, hS.F ht⟩) hS.2.2 dX1_serve_55
    · refine lv_iconst (v := 0) hx hb dX1_serve_35 (by decide) ?_
      have hP9 := hP.sub (ws' := [(a_i, .inr (1, [.int x_7, .int x_8, .int x_9, .int x_10, .int ln, .int se, .int x_11]))]) [0] rfl
      have hD9 := hD.sub (ws' := [(a_i, .inr (1, [.int x_7, .int x_8, .int x_9, .int x_10, .int ln, .int se, .int x_11]))]) [0] (by decide) rfl
      have hK9 := hK.sub (tys' := []) [] rfl
      exact W.iret (v := 0) hx hb hr (fun t9 ht hW => ⟨⟨0, ((fun k9 => match k9 with | 13 => x_7 | 14 => x_8 | 15 => x_9 | 16 => x_10 | _ => x_11), (fun _ => 0), (fun _ _ => 0)), rfl, trivial, by rw [ht]; exact hP9, va_K.moved hW.alike hK9, hD9⟩, hS.F ht⟩) hS.2.2 dX1_serve_36
  refine lv_if_eq (tgt := 29) hx hb dX1_serve_4 (by decide) (fun c_1 => ?_) (fun c_1 => ?_)
  · refine lv_iconst (v := 0) hx hb dX1_serve_29 (by decide) ?_
    exact join_12 0 (g 13) (g 14) (g 15) (g 16) (g 19) _ _ _ (hP.sub [0] rfl) (hD.sub [0] (by decide) rfl) hS (lv_sub hl [0, 1] rfl)
  · refine lv_aload_n hx hb dX1_serve_7 rfl (lv_at hl 0 rfl) ?_
    refine va_get (D := (dC, dI)) (ci := 1) (v := .int (g 14)) (C := RX1) (T := TX1) (N := 7) hx hb hts zx_1 hown hK hP 0 rfl rfl 1 (by decide) (hts (.fieldLink RX1 17 "KeyboardKit$Interrupts" "heldBack" "Z") zw_191) (fun _ h9 => h9) rfl dX1_serve_8 ?_
    refine lv_if_ne (tgt := 29) hx hb dX1_serve_11 (by decide) (fun c_20 => ?_) (fun c_20 => ?_)
    · refine lv_iconst (v := 0) hx hb dX1_serve_29 (by decide) ?_
      exact join_12 0 (g 13) (g 14) (g 15) (g 16) (g 19) _ _ _ (hP.sub [0] rfl) (hD.sub [0] (by decide) rfl) hS (lv_sub hl [0, 1] rfl)
    · refine lv_aload_n hx hb dX1_serve_14 rfl (lv_at hl 0 rfl) ?_
      refine lv_iload_n hx hb dX1_serve_15 rfl (lv_at hl 1 rfl) ?_
      refine zc_i (wr := []) hP hD hS hA [0] [] rfl rfl (by decide) (by decide) (va_runV (As := [.int p0]) (rest := []) ⟨hx, hb, hml, hown, hts⟩ (g_X1_wanted l dC dI a_i ln se g (fun _ => 0) (fun _ _ => 0) p0 _) (cwV 1 hts (zg_V zw_324 zw_326 zw_0 zw_86 zw_327) rfl rfl rfl (by decide +kernel) ⟨Nat.le_of_ble_eq_true rfl, Nat.le_of_ble_eq_true rfl⟩) ⟨zc_blind, va_recv hK hP (ci := 1) (q0 := 0) rfl rfl, zc_start hP hD hK hN [0] [] rfl (by decide) rfl⟩ rfl rfl hl.1 rfl (lv_room (Nat.le_of_ble_eq_true rfl)) dX1_serve_16 ⟨Nat.le_of_ble_eq_true rfl, Nat.le_of_ble_eq_true rfl⟩) (fun r_21 u_21 H locs hw hK1 hP hD hS => ?_)
      have hP : va_P (dC, dI) vwCl [(a_i, .inr (1, [.int (u_21.1 13), .int (u_21.1 14), .int (u_21.1 15), .int (u_21.1 16), .int ln, .int se, .int (u_21.1 19)]))] H := hP
      have hD : va_D A [(a_i, .inr (1, [.int (u_21.1 13), .int (u_21.1 14), .int (u_21.1 15), .int (u_21.1 16), .int ln, .int se, .int (u_21.1 19)]))] := hD
      refine lv_aload_n hx hb dX1_serve_19 rfl (lv_at hl 0 rfl) ?_
      refine va_get (D := (dC, dI)) (ci := 1) (v := .int (u_21.1 15)) (C := RX1) (T := TX1) (N := 7) hx hb hts zx_1 hown hK hP 0 rfl rfl 2 (by decide) (hts (.fieldLink RX1 9 "KeyboardKit$Interrupts" "masks" "I") zw_193) (fun _ h9 => h9) rfl dX1_serve_20 ?_
      refine lv_iconst (v := (-1)) hx hb dX1_serve_23 (by decide) ?_
      refine lv_ixor hx hb dX1_serve_24 ?_
      refine lv_topi (fun v_22 ev_22 => ?_)
      refine lv_iand hx hb dX1_serve_25 ?_
      refine lv_topi (fun v_23 ev_23 => ?_)
      refine lv_goto (tgt := 30) hx hb dX1_serve_26 (by decide) ?_
      exact join_12 v_23 (u_21.1 13) (u_21.1 14) (u_21.1 15) (u_21.1 16) (u_21.1 19) _ _ _ (hP.sub [0] rfl) (hD.sub [0] (by decide) rfl) hS (lv_sub hl [0, 1] rfl)
set_option maxHeartbeats 4000000 in
set_option maxRecDepth 100000 in
theorem g_X1_setMask (l : Launch) (dC : Nat → ClassId) (dI : Nat → Nat → Nat) (a_i : Nat) (ln : Int32) (se : Int32) (g : Nat → Int32) (n : Nat → Nat) (f : Nat → Nat → Int32) (p0 : Int32) (sz : Nat) : Met l yX1_setMask (zq yX1_setMask cX1_setMask 2 none) ({ frames := 0, cells := 0, slots := 0, locals := 0 }) (va_Pc [.ref a_i, .int p0] (zc_P (dC, dI) [(a_i, .inr (1, [.int (g 13), .int (g 14), .int (g 15), .int (g 16), .int ln, .int se, .int (g 19)]))] [] sz)) (va_Qv (fun (u : (Nat → Int32) × (Nat → Nat) × (Nat → Nat → Int32)) => True) (fun (u : (Nat → Int32) × (Nat → Nat) × (Nat → Nat → Int32)) t9 => zc_B (dC, dI) (va_A [(a_i, .inr (1, [.int (g 13), .int (g 14), .int (g 15), .int (g 16), .int ln, .int se, .int (g 19)]))] sz) [(a_i, .inr (1, [.int (u.1 13), .int (u.1 14), .int (u.1 15), .int (u.1 16), .int ln, .int se, .int (u.1 19)]))] [] t9) (va_A [(a_i, .inr (1, [.int (g 13), .int (g 14), .int (g 15), .int (g 16), .int ln, .int se, .int (g 19)]))] sz)) 0 0 (va_A [(a_i, .inr (1, [.int (g 13), .int (g 14), .int (g 15), .int (g 16), .int ln, .int se, .int (g 19)]))] sz) := by
  refine Met.ofW (cc := cX1_setMask) (maxL := 2) (ret := none) (by decide) rfl ?_
  intro p e s m args below meth c s₁ B hml hv
  obtain ⟨rfl, hsz, hP, hK, hD0, hN⟩ := hv
  have hx := B.exec
  have hb := B.bytes
  have hr := B.returns
  have hts : ∀ w ∈ zw, w.before _ s = true := fun w h => atoms_spec (ws := (zq yX1_setMask cX1_setMask 2 none)) B.pre w (List.mem_cons_of_mem _ h)
  have hown : s.vm.findClass RX1 = some m.cls := findClass_of_methodNamed B.named
  have hlocks := B.notSynchronized
  subst hsz
  have hD := hD0.self (sz := s.heap.size)
  generalize hAe : va_A [(a_i, .inr (1, [.int (g 13), .int (g 14), .int (g 15), .int (g 16), .int ln, .int se, .int (g 19)]))] s.heap.size = A at hD ⊢
  have hA : ∀ q : Nat, s.heap.size ≤ q → A q := fun q h => by rw [← hAe]; exact Or.inr h
  have hS : va_S A s.heap s.heap [] := va_S.rf
  have hP : va_P (dC, dI) vwCl [(a_i, .inr (1, [.int (g 13), .int (g 14), .int (g 15), .int (g 16), .int ln, .int se, .int (g 19)]))] s.heap := hP
  have hl := lv_entry ([.ref a_i, .int p0]) (n := 2) (Nat.le_of_ble_eq_true rfl)
  rw [lg_entry_eq]
  generalize (lg_sl ([.ref a_i, .int p0]) ++ List.replicate (2 - (lg_sl ([.ref a_i, .int p0])).length) Slot.unset).toArray = ls at hl ⊢
  have hl : lv_has ls 2 [(0, .ref a_i), (1, .int p0)] := hl
  refine lv_iload_n hx hb dX1_setMask_0 rfl (lv_at hl 1 rfl) ?_
  refine lv_bipush (v := 8) hx hb dX1_setMask_1 (by decide) ?_
  refine lv_iand hx hb dX1_setMask_3 ?_
  refine lv_topi (fun v_1 ev_1 => ?_)
  have join_5 : ∀ (x_4 : Int32) (H : Heap) (locs : List Loc) (ls : Array Slot), va_P (dC, dI) vwCl [(a_i, .inr (1, [.int (g 13), .int (g 14), .int x_4, .int (g 16), .int ln, .int se, .int (g 19)]))] H → va_D A [(a_i, .inr (1, [.int (g 13), .int (g 14), .int x_4, .int (g 16), .int ln, .int se, .int (g 19)]))] → va_S A s.heap H locs → lv_has ls 2 [(0, .ref a_i), (1, .int p0)] → W p l e (headSpec (zq yX1_setMask cX1_setMask 2 none) ({ frames := 0, cells := 0, slots := 0, locals := 0 })).room s m ([.ref a_i, .int p0] : List Value).toArray below meth c H locs 0 0 (MQ below (va_Qv (fun (u : (Nat → Int32) × (Nat → Nat) × (Nat → Nat → Int32)) => True) (fun (u : (Nat → Int32) × (Nat → Nat) × (Nat → Nat → Int32)) t9 => zc_B (dC, dI) A [(a_i, .inr (1, [.int (u.1 13), .int (u.1 14), .int (u.1 15), .int (u.1 16), .int ln, .int se, .int (u.1 19)]))] [] t9) A) ([.ref a_i, .int p0] : List Value).toArray s 0 0 A) (F0 m 15 ls []) := by
    intro x_4 H locs ls hP hD hS hl
    refine lv_iload_n hx hb dX1_setMask_15 rfl (lv_at hl 1 rfl) ?_
    refine lv_bipush (v := 16) hx hb dX1_setMask_16 (by decide) ?_
    refine lv_iand hx hb dX1_setMask_18 ?_
    refine lv_topi (fun v_6 ev_6 => ?_)
    have join_9 : ∀ (x_8 : Int32) (H : Heap) (locs : List Loc) (ls : Array Slot), va_P (dC, dI) vwCl [(a_i, .inr (1, [.int (g 13), .int (g 14), .int x_4, .int x_8, .int ln, .int se, .int (g 19)]))] H → va_D A [(a_i, .inr (1, [.int (g 13), .int (g 14), .int x_4, .int x_8, .int ln, .int se, .int (g 19)]))] → va_S A s.heap H locs → lv_has ls 2 [(0, .ref a_i), (1, .int p0)] → W p l e (headSpec (zq yX1_setMask cX1_setMask 2 none) ({ frames := 0, cells := 0, slots := 0, locals := 0 })).room s m ([.ref a_i, .int p0] : List Value).toArray below meth c H locs 0 0 (MQ below (va_Qv (fun (u : (Nat → Int32) × (Nat → Nat) × (Nat → Nat → Int32)) => True) (fun (u : (Nat → Int32) × (Nat → Nat) × (Nat → Nat → Int32)) t9 => zc_B (dC, dI) A [(a_i, .inr (1, [.int (u.1 13), .int (u.1 14), .int (u.1 15), .int (u.1 16), .int ln, .int se, .int (u.1 19)]))] [] t9) A) ([.ref a_i, .int p0] : List Value).toArray s 0 0 A) (F0 m 27 ls []) := by
      intro x_8 H locs ls hP hD hS hl
      refine lv_iload_n hx hb dX1_setMask_27 rfl (lv_at hl 1 rfl) ?_
      refine lv_bipush (v := 64) hx hb dX1_setMask_28 (by decide) ?_
      refine lv_iand hx hb dX1_setMask_30 ?_
      refine lv_topi (fun v_10 ev_10 => ?_)
      have join_17 : ∀ (x_16 : Int32) (H : Heap) (locs : List Loc) (ls : Array Slot), va_P (dC, dI) vwCl [(a_i, .inr (1, [.int (g 13), .int (g 14), .int x_4, .int x_8, .int ln, .int se, .int x_16]))] H → va_D A [(a_i, .inr (1, [.int (g 13), .int (g 14), .int x_4, .int x_8, .int ln, .int se, .int x_16]))] → va_S A s.heap H locs → lv_has ls 2 [(0, .ref a_i), (1, .int p0)] → W p l e (headSpec (zq yX1_setMask cX1_setMask 2 none) ({ frames := 0, cells := 0, slots := 0, locals := 0 })).room s m ([.ref a_i, .int p0] : List Value).toArray below meth c H locs 0 0 (MQ below (va_Qv (fun (u : (Nat → Int32) × (Nat → Nat) × (Nat → Nat → Int32)) => True) (fun (u : (Nat → Int32) × (Nat → Nat) × (Nat → Nat → Int32)) t9 => zc_B (dC, dI) A [(a_i, .inr (1, [.int (u.1 13), .int (u.1 14), .int (u.1 15), .int (u.1 16), .int ln, .int se, .int (u.1 19)]))] [] t9) A) ([.ref a_i, .int p0] : List Value).toArray s 0 0 A) (F0 m 51 ls []) := by
        intro x_16 H locs ls hP hD hS hl
        have hP9 := hP.sub (ws' := [(a_i, .inr (1, [.int (g 13), .int (g 14), .int x_4, .int x_8, .int ln, .int se, .int x_16]))]) [0] rfl
        have hD9 := hD.sub (ws' := [(a_i, .inr (1, [.int (g 13), .int (g 14), .int x_4, .int x_8, .int ln, .int se, .int x_16]))]) [0] (by decide) rfl
        have hK9 := hK.sub (tys' := []) [] rfl
        exact W.vret hx hb hr (fun t9 ht hW => ⟨⟨((fun k9 => match k9 with | 13 => g 13 | 14 => g 14 | 15 => x_4 | 16 => x_8 | _ => x_16), (fun _ => 0), (fun _ _ => 0)), rfl, trivial, by rw [ht]; exact hP9, va_K.moved hW.alike hK9, hD9⟩, hS.F ht⟩) hS.2.2 dX1_setMask_51
      refine lv_if_eq (tgt := 51) hx hb dX1_setMask_31 (by decide) (fun c_11 => ?_) (fun c_11 => ?_)
      · exact join_17 (g 19) _ _ _ (hP.sub [0] rfl) (hD.sub [0] (by decide) rfl) hS (lv_sub hl [0, 1] rfl)
      · refine lv_aload_n hx hb dX1_setMask_34 rfl (lv_at hl 0 rfl) ?_
        refine lv_iload_n hx hb dX1_setMask_35 rfl (lv_at hl 1 rfl) ?_
        refine lv_sipush (v := 128) hx hb dX1_setMask_36 (by decide) ?_
        refine lv_iand hx hb dX1_setMask_39 ?_
        refine lv_topi (fun v_18 ev_18 => ?_)
        have join_21 : ∀ (x_20 : Nat) (hx_20 : x_20 < 2) (H : Heap) (locs : List Loc) (ls : Array Slot), va_P (dC, dI) vwCl [(a_i, .inr (1, [.int (g 13), .int (g 14), .int x_4, .int x_8, .int ln, .int se, .int (g 19)]))] H → va_D A [(a_i, .inr (1, [.int (g 13), .int (g 14), .int x_4, .int x_8, .int ln, .int se, .int (g 19)]))] → va_S A s.heap H locs → lv_has ls 2 [(0, .ref a_i), (1, .int p0)] → W p l e (headSpec (zq yX1_setMask cX1_setMask 2 none) ({ frames := 0, cells := 0, slots := 0, locals := 0 })).room s m ([.ref a_i, .int p0] : List Value).toArray below meth c H locs 0 0 (MQ below (va_Qv (fun (u : (Nat → Int32) × (Nat → Nat) × (Nat → Nat → Int32)) => True) (fun (u : (Nat → Int32) × (Nat → Nat) × (Nat → Nat → Int32)) t9 => zc_B (dC, dI) A [(a_i, .inr (1, [.int (u.1 13), .int (u.1 14), .int (u.1 15), .int (u.1 16), .int ln, .int se, .int (u.1 19)]))] [] t9) A) ([.ref a_i, .int p0] : List Value).toArray s 0 0 A) (F0 m 48 ls [.int (nI x_20), .ref a_i]) := by
          intro x_20 hx_20 H locs ls hP hD hS hl
          refine va_put (D := (dC, dI)) (ci := 1) (v := .int (nI x_20)) (ty := .boolean) (C := RX1) (T := TX1) (N := 7) hx hb hts zx_1 tyX1 tyX1_ok nmX1 hown hK hP hD hS 0 rfl rfl 6 (by decide) (hts (.fieldLink RX1 30 "KeyboardKit$Interrupts" "serialOut" "Z") zw_201) (fun _ h9 => h9) rfl (by decide +kernel) (zn_b (show x_20 < 2 by omega)).1 (zn_b (show x_20 < 2 by omega)).2 (Nat.le_of_ble_eq_true rfl) dX1_setMask_48 (fun H locs hP hD hS => ?_)
          have hP : va_P (dC, dI) vwCl [(a_i, .inr (1, [.int (g 13), .int (g 14), .int x_4, .int x_8, .int ln, .int se, .int (nI x_20)]))] H := hP
          have hD : va_D A [(a_i, .inr (1, [.int (g 13), .int (g 14), .int x_4, .int x_8, .int ln, .int se, .int (nI x_20)]))] := hD
          exact join_17 (nI x_20) _ _ _ (hP.sub [0] rfl) (hD.sub [0] (by decide) rfl) hS (lv_sub hl [0, 1] rfl)
        refine lv_if_eq (tgt := 47) hx hb dX1_setMask_40 (by decide) (fun c_19 => ?_) (fun c_19 => ?_)
        · refine lv_iconst (v := 0) hx hb dX1_setMask_47 (by decide) ?_
          exact join_21 0 (by omega) _ _ _ (hP.sub [0] rfl) (hD.sub [0] (by decide) rfl) hS (lv_sub hl [0, 1] rfl)
        · refine lv_iconst (v := 1) hx hb dX1_setMask_43 (by decide) ?_
          refine lv_goto (tgt := 48) hx hb dX1_setMask_44 (by decide) ?_
          exact join_21 1 (by omega) _ _ _ (hP.sub [0] rfl) (hD.sub [0] (by decide) rfl) hS (lv_sub hl [0, 1] rfl)
    refine lv_if_eq (tgt := 27) hx hb dX1_setMask_19 (by decide) (fun c_7 => ?_) (fun c_7 => ?_)
    · exact join_9 (g 16) _ _ _ (hP.sub [0] rfl) (hD.sub [0] (by decide) rfl) hS (lv_sub hl [0, 1] rfl)
    · refine lv_aload_n hx hb dX1_setMask_22 rfl (lv_at hl 0 rfl) ?_
      refine lv_iconst (v := 0) hx hb dX1_setMask_23 (by decide) ?_
      refine va_put (D := (dC, dI)) (ci := 1) (v := .int 0) (ty := .boolean) (C := RX1) (T := TX1) (N := 7) hx hb hts zx_1 tyX1 tyX1_ok nmX1 hown hK hP hD hS 0 rfl rfl 3 (by decide) (hts (.fieldLink RX1 23 "KeyboardKit$Interrupts" "timerEnded" "Z") zw_196) (fun _ h9 => h9) rfl (by decide +kernel) rfl rfl (Nat.le_of_ble_eq_true rfl) dX1_setMask_24 (fun H locs hP hD hS => ?_)
      have hP : va_P (dC, dI) vwCl [(a_i, .inr (1, [.int (g 13), .int (g 14), .int x_4, .int 0, .int ln, .int se, .int (g 19)]))] H := hP
      have hD : va_D A [(a_i, .inr (1, [.int (g 13), .int (g 14), .int x_4, .int 0, .int ln, .int se, .int (g 19)]))] := hD
      exact join_9 0 _ _ _ (hP.sub [0] rfl) (hD.sub [0] (by decide) rfl) hS (lv_sub hl [0, 1] rfl)
  refine lv_if_eq (tgt := 15) hx hb dX1_setMask_4 (by decide) (fun c_2 => ?_) (fun c_2 => ?_)
  · exact join_5 (g 15) _ _ _ (hP.sub [0] rfl) (hD.sub [0] (by decide) rfl) hS (lv_sub hl [0, 1] rfl)
  · refine lv_aload_n hx hb dX1_setMask_7 rfl (lv_at hl 0 rfl) ?_
    refine lv_iload_n hx hb dX1_setMask_8 rfl (lv_at hl 1 rfl) ?_
    refine lv_bipush (v := 7) hx hb dX1_setMask_9 (by decide) ?_
    refine lv_iand hx hb dX1_setMask_11 ?_
    refine lv_topi (fun v_22 ev_22 => ?_)
    obtain ⟨j_22, hj_22, ej_22⟩ := pk_andE p0 (m := 7) 3 (by decide)
    obtain rfl : v_22 = nI j_22 := ev_22.trans ej_22
    have hj_22 : j_22 < 8 := hj_22
    refine va_put (D := (dC, dI)) (ci := 1) (v := .int (nI j_22)) (ty := .int) (C := RX1) (T := TX1) (N := 7) hx hb hts zx_1 tyX1 tyX1_ok nmX1 hown hK hP hD hS 0 rfl rfl 2 (by decide) (hts (.fieldLink RX1 9 "KeyboardKit$Interrupts" "masks" "I") zw_193) (fun _ h9 => h9) rfl (by decide +kernel) rfl rfl (Nat.le_of_ble_eq_true rfl) dX1_setMask_12 (fun H locs hP hD hS => ?_)
    have hP : va_P (dC, dI) vwCl [(a_i, .inr (1, [.int (g 13), .int (g 14), .int (nI j_22), .int (g 16), .int ln, .int se, .int (g 19)]))] H := hP
    have hD : va_D A [(a_i, .inr (1, [.int (g 13), .int (g 14), .int (nI j_22), .int (g 16), .int ln, .int se, .int (g 19)]))] := hD
    exact join_5 (nI j_22) _ _ _ (hP.sub [0] rfl) (hD.sub [0] (by decide) rfl) hS (lv_sub hl [0, 1] rfl)
set_option maxHeartbeats 4000000 in
set_option maxRecDepth 100000 in
theorem g_X1_readMask (l : Launch) (dC : Nat → ClassId) (dI : Nat → Nat → Nat) (a_i : Nat) (ln : Int32) (se : Int32) (g : Nat → Int32) (n : Nat → Nat) (f : Nat → Nat → Int32) (p0 : Int32) (sz : Nat) : Met l yX1_readMask (zq yX1_readMask cX1_readMask 2 (some .int)) ({ frames := 1, cells := 0, slots := 0, locals := 21 }) (va_Pc [.ref a_i, .int p0] (zc_P (dC, dI) [(a_i, .inr (1, [.int (g 13), .int (g 14), .int (g 15), .int (g 16), .int ln, .int se, .int (g 19)]))] [] sz)) (va_Qi (fun (r : Int32) (u : (Nat → Int32) × (Nat → Nat) × (Nat → Nat → Int32)) => True) (fun (u : (Nat → Int32) × (Nat → Nat) × (Nat → Nat → Int32)) t9 => zc_B (dC, dI) (va_A [(a_i, .inr (1, [.int (g 13), .int (g 14), .int (g 15), .int (g 16), .int ln, .int se, .int (g 19)]))] sz) [(a_i, .inr (1, [.int (u.1 13), .int (u.1 14), .int (u.1 15), .int (u.1 16), .int ln, .int se, .int (u.1 19)]))] [] t9) (va_A [(a_i, .inr (1, [.int (g 13), .int (g 14), .int (g 15), .int (g 16), .int ln, .int se, .int (g 19)]))] sz)) 0 0 (va_A [(a_i, .inr (1, [.int (g 13), .int (g 14), .int (g 15), .int (g 16), .int ln, .int se, .int (g 19)]))] sz) := by
  refine Met.ofW (cc := cX1_readMask) (maxL := 2) (ret := (some .int)) (by decide) rfl ?_
  intro p e s m args below meth c s₁ B hml hv
  obtain ⟨rfl, hsz, hP, hK, hD0, hN⟩ := hv
  have hx := B.exec
  have hb := B.bytes
  have hr := B.returns
  have hts : ∀ w ∈ zw, w.before _ s = true := fun w h => atoms_spec (ws := (zq yX1_readMask cX1_readMask 2 (some .int))) B.pre w (List.mem_cons_of_mem _ h)
  have hown : s.vm.findClass RX1 = some m.cls := findClass_of_methodNamed B.named
  have hlocks := B.notSynchronized
  subst hsz
  have hD := hD0.self (sz := s.heap.size)
  generalize hAe : va_A [(a_i, .inr (1, [.int (g 13), .int (g 14), .int (g 15), .int (g 16), .int ln, .int se, .int (g 19)]))] s.heap.size = A at hD ⊢
  have hA : ∀ q : Nat, s.heap.size ≤ q → A q := fun q h => by rw [← hAe]; exact Or.inr h
  have hS : va_S A s.heap s.heap [] := va_S.rf
  have hP : va_P (dC, dI) vwCl [(a_i, .inr (1, [.int (g 13), .int (g 14), .int (g 15), .int (g 16), .int ln, .int se, .int (g 19)]))] s.heap := hP
  have hl := lv_entry ([.ref a_i, .int p0]) (n := 2) (Nat.le_of_ble_eq_true rfl)
  rw [lg_entry_eq]
  generalize (lg_sl ([.ref a_i, .int p0]) ++ List.replicate (2 - (lg_sl ([.ref a_i, .int p0])).length) Slot.unset).toArray = ls at hl ⊢
  have hl : lv_has ls 2 [(0, .ref a_i), (1, .int p0)] := hl
  refine lv_aload_n hx hb dX1_readMask_0 rfl (lv_at hl 0 rfl) ?_
  refine va_get (D := (dC, dI)) (ci := 1) (v := .int (g 15)) (C := RX1) (T := TX1) (N := 7) hx hb hts zx_1 hown hK hP 0 rfl rfl 2 (by decide) (hts (.fieldLink RX1 9 "KeyboardKit$Interrupts" "masks" "I") zw_193) (fun _ h9 => h9) rfl dX1_readMask_1 ?_
  refine lv_aload_n hx hb dX1_readMask_4 rfl (lv_at hl 0 rfl) ?_
  refine va_get (D := (dC, dI)) (ci := 1) (v := .int (g 13)) (C := RX1) (T := TX1) (N := 7) hx hb hts zx_1 hown hK hP 0 rfl rfl 0 (by decide) (hts (.fieldLink RX1 13 "KeyboardKit$Interrupts" "on" "Z") zw_188) (fun _ h9 => h9) rfl dX1_readMask_5 ?_
  have join_3 : ∀ (x_2 : Nat) (hx_2 : x_2 < 9) (H : Heap) (locs : List Loc) (ls : Array Slot), va_P (dC, dI) vwCl [(a_i, .inr (1, [.int (g 13), .int (g 14), .int (g 15), .int (g 16), .int ln, .int se, .int (g 19)]))] H → va_D A [(a_i, .inr (1, [.int (g 13), .int (g 14), .int (g 15), .int (g 16), .int ln, .int se, .int (g 19)]))] → va_S A s.heap H locs → lv_has ls 2 [(0, .ref a_i), (1, .int p0)] → W p l e (headSpec (zq yX1_readMask cX1_readMask 2 (some .int)) ({ frames := 1, cells := 0, slots := 0, locals := 21 })).room s m ([.ref a_i, .int p0] : List Value).toArray below meth c H locs 0 0 (MQ below (va_Qi (fun (r : Int32) (u : (Nat → Int32) × (Nat → Nat) × (Nat → Nat → Int32)) => True) (fun (u : (Nat → Int32) × (Nat → Nat) × (Nat → Nat → Int32)) t9 => zc_B (dC, dI) A [(a_i, .inr (1, [.int (u.1 13), .int (u.1 14), .int (u.1 15), .int (u.1 16), .int ln, .int se, .int (u.1 19)]))] [] t9) A) ([.ref a_i, .int p0] : List Value).toArray s 0 0 A) (F0 m 17 ls [.int (nI x_2), .int (g 15)]) := by
    intro x_2 hx_2 H locs ls hP hD hS hl
    refine lv_ior hx hb dX1_readMask_17 ?_
    refine lv_topi (fun v_4 ev_4 => ?_)
    refine lv_aload_n hx hb dX1_readMask_18 rfl (lv_at hl 0 rfl) ?_
    refine lv_iload_n hx hb dX1_readMask_19 rfl (lv_at hl 1 rfl) ?_
    refine zc_i (wr := []) hP hD hS hA [0] [] rfl rfl (by decide) (by decide) (va_runV (As := [.int p0]) (rest := [.int v_4]) ⟨hx, hb, hml, hown, hts⟩ (g_X1_wanted l dC dI a_i ln se g (fun _ => 0) (fun _ _ => 0) p0 _) (cwV 1 hts (zg_V zw_324 zw_326 zw_0 zw_86 zw_327) rfl rfl rfl (by decide +kernel) ⟨Nat.le_of_ble_eq_true rfl, Nat.le_of_ble_eq_true rfl⟩) ⟨zc_blind, va_recv hK hP (ci := 1) (q0 := 0) rfl rfl, zc_start hP hD hK hN [0] [] rfl (by decide) rfl⟩ rfl rfl hl.1 rfl (lv_room (Nat.le_of_ble_eq_true rfl)) dX1_readMask_20 ⟨Nat.le_of_ble_eq_true rfl, Nat.le_of_ble_eq_true rfl⟩) (fun r_5 u_5 H locs hw hK1 hP hD hS => ?_)
    have hP : va_P (dC, dI) vwCl [(a_i, .inr (1, [.int (u_5.1 13), .int (u_5.1 14), .int (u_5.1 15), .int (u_5.1 16), .int ln, .int se, .int (u_5.1 19)]))] H := hP
    have hD : va_D A [(a_i, .inr (1, [.int (u_5.1 13), .int (u_5.1 14), .int (u_5.1 15), .int (u_5.1 16), .int ln, .int se, .int (u_5.1 19)]))] := hD
    refine lv_iconst (v := 4) hx hb dX1_readMask_23 (by decide) ?_
    refine lv_ishl hx hb dX1_readMask_24 ?_
    refine lv_topi (fun v_6 ev_6 => ?_)
    refine lv_ior hx hb dX1_readMask_25 ?_
    refine lv_topi (fun v_7 ev_7 => ?_)
    refine lv_aload_n hx hb dX1_readMask_26 rfl (lv_at hl 0 rfl) ?_
    refine va_get (D := (dC, dI)) (ci := 1) (v := .int se) (C := RX1) (T := TX1) (N := 7) hx hb hts zx_1 hown hK hP 0 rfl rfl 5 (by decide) (hts (.fieldLink RX1 33 "KeyboardKit$Interrupts" "serialIn" "Z") zw_199) (fun _ h9 => h9) rfl dX1_readMask_27 ?_
    have join_10 : ∀ (x_9 : Nat) (hx_9 : x_9 < 129) (H : Heap) (locs : List Loc) (ls : Array Slot), va_P (dC, dI) vwCl [(a_i, .inr (1, [.int (u_5.1 13), .int (u_5.1 14), .int (u_5.1 15), .int (u_5.1 16), .int ln, .int se, .int (u_5.1 19)]))] H → va_D A [(a_i, .inr (1, [.int (u_5.1 13), .int (u_5.1 14), .int (u_5.1 15), .int (u_5.1 16), .int ln, .int se, .int (u_5.1 19)]))] → va_S A s.heap H locs → lv_has ls 2 [(0, .ref a_i), (1, .int p0)] → W p l e (headSpec (zq yX1_readMask cX1_readMask 2 (some .int)) ({ frames := 1, cells := 0, slots := 0, locals := 21 })).room s m ([.ref a_i, .int p0] : List Value).toArray below meth c H locs 0 0 (MQ below (va_Qi (fun (r : Int32) (u : (Nat → Int32) × (Nat → Nat) × (Nat → Nat → Int32)) => True) (fun (u : (Nat → Int32) × (Nat → Nat) × (Nat → Nat → Int32)) t9 => zc_B (dC, dI) A [(a_i, .inr (1, [.int (u.1 13), .int (u.1 14), .int (u.1 15), .int (u.1 16), .int ln, .int se, .int (u.1 19)]))] [] t9) A) ([.ref a_i, .int p0] : List Value).toArray s 0 0 A) (F0 m 40 ls [.int (nI x_9), .int v_7]) := by
      intro x_9 hx_9 H locs ls hP hD hS hl
      refine lv_ior hx hb dX1_readMask_40 ?_
      refine lv_topi (fun v_11 ev_11 => ?_)
      have hP9 := hP.sub (ws' := [(a_i, .inr (1, [.int (u_5.1 13), .int (u_5.1 14), .int (u_5.1 15), .int (u_5.1 16), .int ln, .int se, .int (u_5.1 19)]))]) [0] rfl
      have hD9 := hD.sub (ws' := [(a_i, .inr (1, [.int (u_5.1 13), .int (u_5.1 14), .int (u_5.1 15), .int (u_5.1 16), .int ln, .int se, .int (u_5.1 19)]))]) [0] (by decide) rfl
      have hK9 := hK.sub (tys' := []) [] rfl
      exact W.iret (v := v_11) hx hb hr (fun t9 ht hW => ⟨⟨v_11, ((u_5.1), (fun _ => 0), (fun _ _ => 0)), rfl, trivial, by rw [ht]; exact hP9, va_K.moved hW.alike hK9, hD9⟩, hS.F ht⟩) hS.2.2 dX1_readMask_41
    refine lv_if_eq (tgt := 39) hx hb dX1_readMask_30 (by decide) (fun c_8 => ?_) (fun c_8 => ?_)
    · refine lv_iconst (v := 0) hx hb dX1_readMask_39 (by decide) ?_
      exact join_10 0 (by omega) _ _ _ (hP.sub [0] rfl) (hD.sub [0] (by decide) rfl) hS (lv_sub hl [0, 1] rfl)
    · refine lv_sipush (v := 128) hx hb dX1_readMask_33 (by decide) ?_
      refine lv_goto (tgt := 40) hx hb dX1_readMask_36 (by decide) ?_
      exact join_10 128 (by omega) _ _ _ (hP.sub [0] rfl) (hD.sub [0] (by decide) rfl) hS (lv_sub hl [0, 1] rfl)
  refine lv_if_eq (tgt := 16) hx hb dX1_readMask_8 (by decide) (fun c_1 => ?_) (fun c_1 => ?_)
  · refine lv_iconst (v := 0) hx hb dX1_readMask_16 (by decide) ?_
    exact join_3 0 (by omega) _ _ _ (hP.sub [0] rfl) (hD.sub [0] (by decide) rfl) hS (lv_sub hl [0, 1] rfl)
  · refine lv_bipush (v := 8) hx hb dX1_readMask_11 (by decide) ?_
    refine lv_goto (tgt := 17) hx hb dX1_readMask_13 (by decide) ?_
    exact join_3 8 (by omega) _ _ _ (hP.sub [0] rfl) (hD.sub [0] (by decide) rfl) hS (lv_sub hl [0, 1] rfl)
