theorem dX2_clear_0 : decode cX2_clear 0 = .ok (.aload_n 0, 1) := by decide +kernel
theorem dX2_clear_1 : decode cX2_clear 1 = .ok (.iconst 0, 1) := by decide +kernel
theorem dX2_clear_10 : decode cX2_clear 10 = .ok (.aload_n 0, 1) := by decide +kernel
theorem dX2_clear_11 : decode cX2_clear 11 = .ok (.iconst 0, 1) := by decide +kernel
theorem dX2_clear_12 : decode cX2_clear 12 = .ok (.putfield 48, 3) := by decide +kernel
theorem dX2_clear_15 : decode cX2_clear 15 = .ok (.iconst 0, 1) := by decide +kernel
theorem dX2_clear_16 : decode cX2_clear 16 = .ok (.istore_n 1, 1) := by decide +kernel
theorem dX2_clear_17 : decode cX2_clear 17 = .ok (.iload_n 1, 1) := by decide +kernel
theorem dX2_clear_18 : decode cX2_clear 18 = .ok (.bipush 16, 2) := by decide +kernel
theorem dX2_clear_2 : decode cX2_clear 2 = .ok (.putfield 32, 3) := by decide +kernel
theorem dX2_clear_20 : decode cX2_clear 20 = .ok (.if_icmp .ge 32, 3) := by decide +kernel
theorem dX2_clear_23 : decode cX2_clear 23 = .ok (.aload_n 0, 1) := by decide +kernel
theorem dX2_clear_24 : decode cX2_clear 24 = .ok (.getfield 9, 3) := by decide +kernel
theorem dX2_clear_27 : decode cX2_clear 27 = .ok (.iload_n 1, 1) := by decide +kernel
theorem dX2_clear_28 : decode cX2_clear 28 = .ok (.baload, 1) := by decide +kernel
theorem dX2_clear_29 : decode cX2_clear 29 = .ok (.ifCond .eq 17, 3) := by decide +kernel
theorem dX2_clear_32 : decode cX2_clear 32 = .ok (.aload_n 0, 1) := by decide +kernel
theorem dX2_clear_33 : decode cX2_clear 33 = .ok (.getfield 15, 3) := by decide +kernel
theorem dX2_clear_36 : decode cX2_clear 36 = .ok (.iload_n 1, 1) := by decide +kernel
theorem dX2_clear_37 : decode cX2_clear 37 = .ok (.iconst 0, 1) := by decide +kernel
theorem dX2_clear_38 : decode cX2_clear 38 = .ok (.bastore, 1) := by decide +kernel
theorem dX2_clear_39 : decode cX2_clear 39 = .ok (.aload_n 0, 1) := by decide +kernel
theorem dX2_clear_40 : decode cX2_clear 40 = .ok (.getfield 18, 3) := by decide +kernel
theorem dX2_clear_43 : decode cX2_clear 43 = .ok (.iload_n 1, 1) := by decide +kernel
theorem dX2_clear_44 : decode cX2_clear 44 = .ok (.iconst 0, 1) := by decide +kernel
theorem dX2_clear_45 : decode cX2_clear 45 = .ok (.bastore, 1) := by decide +kernel
theorem dX2_clear_46 : decode cX2_clear 46 = .ok (.iinc 1 1, 3) := by decide +kernel
theorem dX2_clear_49 : decode cX2_clear 49 = .ok (.goto (-32), 3) := by decide +kernel
theorem dX2_clear_5 : decode cX2_clear 5 = .ok (.aload_n 0, 1) := by decide +kernel
theorem dX2_clear_52 : decode cX2_clear 52 = .ok (.return_, 1) := by decide +kernel
theorem dX2_clear_6 : decode cX2_clear 6 = .ok (.iconst 0, 1) := by decide +kernel
theorem dX2_clear_7 : decode cX2_clear 7 = .ok (.putfield 35, 3) := by decide +kernel
theorem dX2_command_0 : decode cX2_command 0 = .ok (.iload_n 1, 1) := by decide +kernel
theorem dX2_command_1 : decode cX2_command 1 = .ok (.iconst 5, 1) := by decide +kernel
theorem dX2_command_12 : decode cX2_command 12 = .ok (.aload_n 0, 1) := by decide +kernel
theorem dX2_command_13 : decode cX2_command 13 = .ok (.iload_n 1, 1) := by decide +kernel
theorem dX2_command_14 : decode cX2_command 14 = .ok (.bipush 15, 2) := by decide +kernel
theorem dX2_command_16 : decode cX2_command 16 = .ok (.iand, 1) := by decide +kernel
theorem dX2_command_17 : decode cX2_command 17 = .ok (.putfield 42, 3) := by decide +kernel
theorem dX2_command_2 : decode cX2_command 2 = .ok (.ishr, 1) := by decide +kernel
theorem dX2_command_20 : decode cX2_command 20 = .ok (.goto 13, 3) := by decide +kernel
theorem dX2_command_23 : decode cX2_command 23 = .ok (.iload_n 2, 1) := by decide +kernel
theorem dX2_command_24 : decode cX2_command 24 = .ok (.bipush 6, 2) := by decide +kernel
theorem dX2_command_26 : decode cX2_command 26 = .ok (.if_icmp .ne 7, 3) := by decide +kernel
theorem dX2_command_29 : decode cX2_command 29 = .ok (.aload_n 0, 1) := by decide +kernel
theorem dX2_command_3 : decode cX2_command 3 = .ok (.bipush 7, 2) := by decide +kernel
theorem dX2_command_30 : decode cX2_command 30 = .ok (.invokevirtual 45, 3) := by decide +kernel
theorem dX2_command_33 : decode cX2_command 33 = .ok (.return_, 1) := by decide +kernel
theorem dX2_command_5 : decode cX2_command 5 = .ok (.iand, 1) := by decide +kernel
theorem dX2_command_6 : decode cX2_command 6 = .ok (.istore_n 2, 1) := by decide +kernel
theorem dX2_command_7 : decode cX2_command 7 = .ok (.iload_n 2, 1) := by decide +kernel
theorem dX2_command_8 : decode cX2_command 8 = .ok (.iconst 4, 1) := by decide +kernel
theorem dX2_command_9 : decode cX2_command 9 = .ok (.if_icmp .ne 14, 3) := by decide +kernel
theorem dX2_tick_0 : decode cX2_tick 0 = .ok (.aload_n 0, 1) := by decide +kernel
theorem dX2_tick_1 : decode cX2_tick 1 = .ok (.dup, 1) := by decide +kernel
theorem dX2_tick_10 : decode cX2_tick 10 = .ok (.aload_n 0, 1) := by decide +kernel
theorem dX2_tick_11 : decode cX2_tick 11 = .ok (.getfield 28, 3) := by decide +kernel
theorem dX2_tick_14 : decode cX2_tick 14 = .ok (.ifCond .ne 28, 3) := by decide +kernel
theorem dX2_tick_17 : decode cX2_tick 17 = .ok (.aload_n 0, 1) := by decide +kernel
theorem dX2_tick_18 : decode cX2_tick 18 = .ok (.bipush 64, 2) := by decide +kernel
theorem dX2_tick_2 : decode cX2_tick 2 = .ok (.getfield 28, 3) := by decide +kernel
theorem dX2_tick_20 : decode cX2_tick 20 = .ok (.putfield 28, 3) := by decide +kernel
theorem dX2_tick_23 : decode cX2_tick 23 = .ok (.iconst 0, 1) := by decide +kernel
theorem dX2_tick_24 : decode cX2_tick 24 = .ok (.istore_n 1, 1) := by decide +kernel
theorem dX2_tick_25 : decode cX2_tick 25 = .ok (.iload_n 1, 1) := by decide +kernel
theorem dX2_tick_26 : decode cX2_tick 26 = .ok (.bipush 16, 2) := by decide +kernel
theorem dX2_tick_28 : decode cX2_tick 28 = .ok (.if_icmp .ge 14, 3) := by decide +kernel
theorem dX2_tick_31 : decode cX2_tick 31 = .ok (.aload_n 0, 1) := by decide +kernel
theorem dX2_tick_32 : decode cX2_tick 32 = .ok (.iload_n 1, 1) := by decide +kernel
theorem dX2_tick_33 : decode cX2_tick 33 = .ok (.invokevirtual 51, 3) := by decide +kernel
theorem dX2_tick_36 : decode cX2_tick 36 = .ok (.iinc 1 1, 3) := by decide +kernel
theorem dX2_tick_39 : decode cX2_tick 39 = .ok (.goto (-14), 3) := by decide +kernel
theorem dX2_tick_42 : decode cX2_tick 42 = .ok (.return_, 1) := by decide +kernel
theorem dX2_tick_5 : decode cX2_tick 5 = .ok (.iconst 1, 1) := by decide +kernel
theorem dX2_tick_6 : decode cX2_tick 6 = .ok (.isub, 1) := by decide +kernel
theorem dX2_tick_7 : decode cX2_tick 7 = .ok (.putfield 28, 3) := by decide +kernel
set_option maxHeartbeats 4000000 in
set_option maxRecDepth 100000 in
theorem g_X2_clear (l : Launch) (dC : Nat → ClassId) (dI : Nat → Nat → Nat) (a_u : Nat) (a_d : Nat) (a_b : Nat) (a_c : Nat) (a_q : Nat) (a_s : Nat) (k_d : ClassId) (k_b : ClassId) (k_c : ClassId) (k_q : ClassId) (k_s : ClassId) (fd : Nat → Int32) (g : Nat → Int32) (n : Nat → Nat) (f : Nat → Nat → Int32) (hI : n 0 < 8 ∧ n 1 < 9 ∧ n 2 < 16) (sz : Nat) : Met l yX2_clear (zq yX2_clear cX2_clear 2 none) ({ frames := 0, cells := 0, slots := 0, locals := 0 }) (va_Pc [.ref a_u] (zc_P (dC, dI) [(a_u, .inr (2, [.ref a_d, .ref a_b, .ref a_c, .ref a_q, .int (nI (n 0)), .int (nI (n 1)), .int (g 9), .int (g 10), .ref a_s, .int (nI (n 2)), .int (g 12)])), (a_d, .inl (k_d, 16, .inl fd)), (a_b, .inl (k_b, 16, .inl (f 2))), (a_c, .inl (k_c, 16, .inl (f 3))), (a_q, .inl (k_q, 8, .inl (f 4))), (a_s, .inl (k_s, 16, .inl (f 5)))] [(k_d, .boolean), (k_b, .boolean), (k_c, .boolean), (k_q, .int), (k_s, .int)] sz)) (va_Qv (fun (u : (Nat → Int32) × (Nat → Nat) × (Nat → Nat → Int32)) => u.2.1 0 < 8 ∧ u.2.1 1 < 9 ∧ u.2.1 2 < 16) (fun (u : (Nat → Int32) × (Nat → Nat) × (Nat → Nat → Int32)) t9 => zc_B (dC, dI) (va_A [(a_u, .inr (2, [.ref a_d, .ref a_b, .ref a_c, .ref a_q, .int (nI (n 0)), .int (nI (n 1)), .int (g 9), .int (g 10), .ref a_s, .int (nI (n 2)), .int (g 12)])), (a_d, .inl (k_d, 16, .inl fd)), (a_b, .inl (k_b, 16, .inl (f 2))), (a_c, .inl (k_c, 16, .inl (f 3))), (a_q, .inl (k_q, 8, .inl (f 4))), (a_s, .inl (k_s, 16, .inl (f 5)))] sz) [(a_u, .inr (2, [.ref a_d, .ref a_b, .ref a_c, .ref a_q, .int (nI (u.2.1 0)), .int (nI (u.2.1 1)), .int (u.1 9), .int (u.1 10), .ref a_s, .int (nI (u.2.1 2)), .int (u.1 12)])), (a_d, .inl (k_d, 16, .inl fd)), (a_b, .inl (k_b, 16, .inl (u.2.2 2))), (a_c, .inl (k_c, 16, .inl (u.2.2 3))), (a_q, .inl (k_q, 8, .inl (u.2.2 4))), (a_s, .inl (k_s, 16, .inl (u.2.2 5)))] [(k_d, .boolean), (k_b, .boolean), (k_c, .boolean), (k_q, .int), (k_s, .int)] t9) (va_A [(a_u, .inr (2, [.ref a_d, .ref a_b, .ref a_c, .ref a_q, .int (nI (n 0)), .int (nI (n 1)), .int (g 9), .int (g 10), .ref a_s, .int (nI (n 2)), .int (g 12)])), (a_d, .inl (k_d, 16, .inl fd)), (a_b, .inl (k_b, 16, .inl (f 2))), (a_c, .inl (k_c, 16, .inl (f 3))), (a_q, .inl (k_q, 8, .inl (f 4))), (a_s, .inl (k_s, 16, .inl (f 5)))] sz)) 0 0 (va_A [(a_u, .inr (2, [.ref a_d, .ref a_b, .ref a_c, .ref a_q, .int (nI (n 0)), .int (nI (n 1)), .int (g 9), .int (g 10), .ref a_s, .int (nI (n 2)), .int (g 12)])), (a_d, .inl (k_d, 16, .inl fd)), (a_b, .inl (k_b, 16, .inl (f 2))), (a_c, .inl (k_c, 16, .inl (f 3))), (a_q, .inl (k_q, 8, .inl (f 4))), (a_s, .inl (k_s, 16, .inl (f 5)))] sz) := by
  refine Met.ofW (cc := cX2_clear) (maxL := 2) (ret := none) (by decide) rfl ?_
  intro p e s m args below meth c s₁ B hml hv
  obtain ⟨rfl, hsz, hP, hK, hD0, hN⟩ := hv
  have hx := B.exec
  have hb := B.bytes
  have hr := B.returns
  have hts : ∀ w ∈ zw, w.before _ s = true := fun w h => atoms_spec (ws := (zq yX2_clear cX2_clear 2 none)) B.pre w (List.mem_cons_of_mem _ h)
  have hown : s.vm.findClass RX2 = some m.cls := findClass_of_methodNamed B.named
  have hlocks := B.notSynchronized
  subst hsz
  have hD := hD0.self (sz := s.heap.size)
  generalize hAe : va_A [(a_u, .inr (2, [.ref a_d, .ref a_b, .ref a_c, .ref a_q, .int (nI (n 0)), .int (nI (n 1)), .int (g 9), .int (g 10), .ref a_s, .int (nI (n 2)), .int (g 12)])), (a_d, .inl (k_d, 16, .inl fd)), (a_b, .inl (k_b, 16, .inl (f 2))), (a_c, .inl (k_c, 16, .inl (f 3))), (a_q, .inl (k_q, 8, .inl (f 4))), (a_s, .inl (k_s, 16, .inl (f 5)))] s.heap.size = A at hD ⊢
  have hA : ∀ q : Nat, s.heap.size ≤ q → A q := fun q h => by rw [← hAe]; exact Or.inr h
  have hS : va_S A s.heap s.heap [] := va_S.rf
  have hP : va_P (dC, dI) vwCl [(a_u, .inr (2, [.ref a_d, .ref a_b, .ref a_c, .ref a_q, .int (nI (n 0)), .int (nI (n 1)), .int (g 9), .int (g 10), .ref a_s, .int (nI (n 2)), .int (g 12)])), (a_d, .inl (k_d, 16, .inl fd)), (a_b, .inl (k_b, 16, .inl (f 2))), (a_c, .inl (k_c, 16, .inl (f 3))), (a_q, .inl (k_q, 8, .inl (f 4))), (a_s, .inl (k_s, 16, .inl (f 5)))] s.heap := hP
  have hl := lv_entry ([.ref a_u]) (n := 2) (Nat.le_of_ble_eq_true rfl)
  rw [lg_entry_eq]
  generalize (lg_sl ([.ref a_u]) ++ List.replicate (2 - (lg_sl ([.ref a_u])).length) Slot.unset).toArray = ls at hl ⊢
  have hl : lv_has ls 2 [(0, .ref a_u)] := hl
  refine lv_aload_n hx hb dX2_clear_0 rfl (lv_at hl 0 rfl) ?_
  refine lv_iconst (v := 0) hx hb dX2_clear_1 (by decide) ?_
  refine va_put (D := (dC, dI)) (ci := 2) (v := .int 0) (ty := .int) (C := RX2) (T := TX2) (N := 11) hx hb hts zx_2 tyX2 tyX2_ok nmX2 hown hK hP hD hS 0 rfl rfl 5 (by decide) (hts (.fieldLink RX2 32 "KeyboardKit$KeyUnit" "queued" "I") zw_150) (fun _ h9 => h9) rfl (by decide +kernel) rfl rfl (Nat.le_of_ble_eq_true rfl) dX2_clear_2 (fun H locs hP hD hS => ?_)
  have hP : va_P (dC, dI) vwCl [(a_u, .inr (2, [.ref a_d, .ref a_b, .ref a_c, .ref a_q, .int (nI (n 0)), .int 0, .int (g 9), .int (g 10), .ref a_s, .int (nI (n 2)), .int (g 12)])), (a_d, .inl (k_d, 16, .inl fd)), (a_b, .inl (k_b, 16, .inl (f 2))), (a_c, .inl (k_c, 16, .inl (f 3))), (a_q, .inl (k_q, 8, .inl (f 4))), (a_s, .inl (k_s, 16, .inl (f 5)))] H := hP
  have hD : va_D A [(a_u, .inr (2, [.ref a_d, .ref a_b, .ref a_c, .ref a_q, .int (nI (n 0)), .int 0, .int (g 9), .int (g 10), .ref a_s, .int (nI (n 2)), .int (g 12)])), (a_d, .inl (k_d, 16, .inl fd)), (a_b, .inl (k_b, 16, .inl (f 2))), (a_c, .inl (k_c, 16, .inl (f 3))), (a_q, .inl (k_q, 8, .inl (f 4))), (a_s, .inl (k_s, 16, .inl (f 5)))] := hD
  refine lv_aload_n hx hb dX2_clear_5 rfl (lv_at hl 0 rfl) ?_
  refine lv_iconst (v := 0) hx hb dX2_clear_6 (by decide) ?_
  refine va_put (D := (dC, dI)) (ci := 2) (v := .int 0) (ty := .boolean) (C := RX2) (T := TX2) (N := 11) hx hb hts zx_2 tyX2 tyX2_ok nmX2 hown hK hP hD hS 0 rfl rfl 6 (by decide) (hts (.fieldLink RX2 35 "KeyboardKit$KeyUnit" "underrun" "Z") zw_152) (fun _ h9 => h9) rfl (by decide +kernel) rfl rfl (Nat.le_of_ble_eq_true rfl) dX2_clear_7 (fun H locs hP hD hS => ?_)
  have hP : va_P (dC, dI) vwCl [(a_u, .inr (2, [.ref a_d, .ref a_b, .ref a_c, .ref a_q, .int (nI (n 0)), .int 0, .int 0, .int (g 10), .ref a_s, .int (nI (n 2)), .int (g 12)])), (a_d, .inl (k_d, 16, .inl fd)), (a_b, .inl (k_b, 16, .inl (f 2))), (a_c, .inl (k_c, 16, .inl (f 3))), (a_q, .inl (k_q, 8, .inl (f 4))), (a_s, .inl (k_s, 16, .inl (f 5)))] H := hP
  have hD : va_D A [(a_u, .inr (2, [.ref a_d, .ref a_b, .ref a_c, .ref a_q, .int (nI (n 0)), .int 0, .int 0, .int (g 10), .ref a_s, .int (nI (n 2)), .int (g 12)])), (a_d, .inl (k_d, 16, .inl fd)), (a_b, .inl (k_b, 16, .inl (f 2))), (a_c, .inl (k_c, 16, .inl (f 3))), (a_q, .inl (k_q, 8, .inl (f 4))), (a_s, .inl (k_s, 16, .inl (f 5)))] := hD
  refine lv_aload_n hx hb dX2_clear_10 rfl (lv_at hl 0 rfl) ?_
  refine lv_iconst (v := 0) hx hb dX2_clear_11 (by decide) ?_
  refine va_put (D := (dC, dI)) (ci := 2) (v := .int 0) (ty := .boolean) (C := RX2) (T := TX2) (N := 11) hx hb hts zx_2 tyX2 tyX2_ok nmX2 hown hK hP hD hS 0 rfl rfl 7 (by decide) (hts (.fieldLink RX2 48 "KeyboardKit$KeyUnit" "overrun" "Z") zw_153) (fun _ h9 => h9) rfl (by decide +kernel) rfl rfl (Nat.le_of_ble_eq_true rfl) dX2_clear_12 (fun H locs hP hD hS => ?_)
  have hP : va_P (dC, dI) vwCl [(a_u, .inr (2, [.ref a_d, .ref a_b, .ref a_c, .ref a_q, .int (nI (n 0)), .int 0, .int 0, .int 0, .ref a_s, .int (nI (n 2)), .int (g 12)])), (a_d, .inl (k_d, 16, .inl fd)), (a_b, .inl (k_b, 16, .inl (f 2))), (a_c, .inl (k_c, 16, .inl (f 3))), (a_q, .inl (k_q, 8, .inl (f 4))), (a_s, .inl (k_s, 16, .inl (f 5)))] H := hP
  have hD : va_D A [(a_u, .inr (2, [.ref a_d, .ref a_b, .ref a_c, .ref a_q, .int (nI (n 0)), .int 0, .int 0, .int 0, .ref a_s, .int (nI (n 2)), .int (g 12)])), (a_d, .inl (k_d, 16, .inl fd)), (a_b, .inl (k_b, 16, .inl (f 2))), (a_c, .inl (k_c, 16, .inl (f 3))), (a_q, .inl (k_q, 8, .inl (f 4))), (a_s, .inl (k_s, 16, .inl (f 5)))] := hD
  refine lv_iconst (v := 0) hx hb dX2_clear_15 (by decide) ?_
  refine lv_istore_n (lv' := [(1, .int 0), (0, .ref a_u)]) hx hb dX2_clear_16 rfl hl (by decide) rfl (fun ls hl => ?_)
  have loop : ∀ (n_ j : Nat), 16 + 1 ≤ j + n_ → j ≤ 16 → ∀ (gl : Nat → Int32) (nl : Nat → Nat) (ff : Nat → Nat → Int32) (hIl : nl 0 < 8 ∧ nl 1 < 9 ∧ nl 2 < 16) (H : Heap) (locs : List Loc) (ls : Array Slot), va_P (dC, dI) vwCl [(a_u, .inr (2, [.ref a_d, .ref a_b, .ref a_c, .ref a_q, .int (nI (nl 0)), .int (nI (nl 1)), .int (gl 9), .int (gl 10), .ref a_s, .int (nI (nl 2)), .int (gl 12)])), (a_d, .inl (k_d, 16, .inl fd)), (a_b, .inl (k_b, 16, .inl (ff 2))), (a_c, .inl (k_c, 16, .inl (ff 3))), (a_q, .inl (k_q, 8, .inl (ff 4))), (a_s, .inl (k_s, 16, .inl (ff 5)))] H → va_D A [(a_u, .inr (2, [.ref a_d, .ref a_b, .ref a_c, .ref a_q, .int (nI (nl 0)), .int (nI (nl 1)), .int (gl 9), .int (gl 10), .ref a_s, .int (nI (nl 2)), .int (gl 12)])), (a_d, .inl (k_d, 16, .inl fd)), (a_b, .inl (k_b, 16, .inl (ff 2))), (a_c, .inl (k_c, 16, .inl (ff 3))), (a_q, .inl (k_q, 8, .inl (ff 4))), (a_s, .inl (k_s, 16, .inl (ff 5)))] → va_S A s.heap H locs → lv_has ls 2 [(1, .int (nI j)), (0, .ref a_u)] → W p l e (headSpec (zq yX2_clear cX2_clear 2 none) ({ frames := 0, cells := 0, slots := 0, locals := 0 })).room s m ([.ref a_u] : List Value).toArray below meth c H locs 0 0 (MQ below (va_Qv (fun (u : (Nat → Int32) × (Nat → Nat) × (Nat → Nat → Int32)) => u.2.1 0 < 8 ∧ u.2.1 1 < 9 ∧ u.2.1 2 < 16) (fun (u : (Nat → Int32) × (Nat → Nat) × (Nat → Nat → Int32)) t9 => zc_B (dC, dI) A [(a_u, .inr (2, [.ref a_d, .ref a_b, .ref a_c, .ref a_q, .int (nI (u.2.1 0)), .int (nI (u.2.1 1)), .int (u.1 9), .int (u.1 10), .ref a_s, .int (nI (u.2.1 2)), .int (u.1 12)])), (a_d, .inl (k_d, 16, .inl fd)), (a_b, .inl (k_b, 16, .inl (u.2.2 2))), (a_c, .inl (k_c, 16, .inl (u.2.2 3))), (a_q, .inl (k_q, 8, .inl (u.2.2 4))), (a_s, .inl (k_s, 16, .inl (u.2.2 5)))] [(k_d, .boolean), (k_b, .boolean), (k_c, .boolean), (k_q, .int), (k_s, .int)] t9) A) ([.ref a_u] : List Value).toArray s 0 0 A) (F0 m 17 ls []) := by
    intro n_
    induction n_ with
    | zero => intro j h1 h2; exact absurd h1 (by omega)
    | succ n_ ih =>
      intro j hj1 hj2 gl nl ff hIl H locs ls hP hD hS hl
      refine lv_iload_n hx hb dX2_clear_17 rfl (lv_at hl 0 rfl) ?_
      refine lv_bipush (v := 16) hx hb dX2_clear_18 (by decide) ?_
      by_cases h_1 : 16 ≤ j
      · refine lv_icmp_ge (tgt := 52) hx hb dX2_clear_20 (by decide) (fun c_1 => ?_) (fun c_1 => absurd (show nI 16 ≤ nI j from (nI_leI (a := 16) (b := j) (by omega) (by omega)).mpr h_1) c_1)
        have hP9 := hP.sub (ws' := [(a_u, .inr (2, [.ref a_d, .ref a_b, .ref a_c, .ref a_q, .int (nI (nl 0)), .int (nI (nl 1)), .int (gl 9), .int (gl 10), .ref a_s, .int (nI (nl 2)), .int (gl 12)])), (a_d, .inl (k_d, 16, .inl fd)), (a_b, .inl (k_b, 16, .inl (ff 2))), (a_c, .inl (k_c, 16, .inl (ff 3))), (a_q, .inl (k_q, 8, .inl (ff 4))), (a_s, .inl (k_s, 16, .inl (ff 5)))]) [0, 1, 2, 3, 4, 5] rfl
        have hD9 := hD.sub (ws' := [(a_u, .inr (2, [.ref a_d, .ref a_b, .ref a_c, .ref a_q, .int (nI (nl 0)), .int (nI (nl 1)), .int (gl 9), .int (gl 10), .ref a_s, .int (nI (nl 2)), .int (gl 12)])), (a_d, .inl (k_d, 16, .inl fd)), (a_b, .inl (k_b, 16, .inl (ff 2))), (a_c, .inl (k_c, 16, .inl (ff 3))), (a_q, .inl (k_q, 8, .inl (ff 4))), (a_s, .inl (k_s, 16, .inl (ff 5)))]) [0, 1, 2, 3, 4, 5] (by decide) rfl
        have hK9 := hK.sub (tys' := [(k_d, .boolean), (k_b, .boolean), (k_c, .boolean), (k_q, .int), (k_s, .int)]) [0, 1, 2, 3, 4] rfl
        exact W.vret hx hb hr (fun t9 ht hW => ⟨⟨((gl), (nl), (ff)), rfl, ⟨(show nl 0 < 8 by omega), (show nl 1 < 9 by omega), (show nl 2 < 16 by omega)⟩, by rw [ht]; exact hP9, va_K.moved hW.alike hK9, hD9⟩, hS.F ht⟩) hS.2.2 dX2_clear_52
      · refine lv_icmp_ge (tgt := 52) hx hb dX2_clear_20 (by decide) (fun c_1 => absurd c_1 (show ¬ nI 16 ≤ nI j from fun q => h_1 ((nI_leI (a := 16) (b := j) (by omega) (by omega)).mp q))) (fun c_1 => ?_)
        refine lv_aload_n hx hb dX2_clear_23 rfl (lv_at hl 1 rfl) ?_
        refine va_get (D := (dC, dI)) (ci := 2) (v := .ref a_d) (C := RX2) (T := TX2) (N := 11) hx hb hts zx_2 hown hK hP 0 rfl rfl 0 (by decide) (hts (.fieldLink RX2 9 "KeyboardKit$KeyUnit" "down" "[Z") zw_144) (fun _ h9 => h9) rfl dX2_clear_24 ?_
        refine lv_iload_n hx hb dX2_clear_27 rfl (lv_at hl 0 rfl) ?_
        refine va_zald hx hb hK hP 1 0 rfl rfl (vp_in_nI (show j < 16 by omega) (by decide)) dX2_clear_28 ?_
        refine lv_topi (fun v_7 ev_7 => ?_)
        have join_11 : ∀ (f_9 : Nat → Int32) (f_10 : Nat → Int32) (H : Heap) (locs : List Loc) (ls : Array Slot), va_P (dC, dI) vwCl [(a_u, .inr (2, [.ref a_d, .ref a_b, .ref a_c, .ref a_q, .int (nI (nl 0)), .int (nI (nl 1)), .int (gl 9), .int (gl 10), .ref a_s, .int (nI (nl 2)), .int (gl 12)])), (a_d, .inl (k_d, 16, .inl fd)), (a_b, .inl (k_b, 16, .inl f_9)), (a_c, .inl (k_c, 16, .inl f_10)), (a_q, .inl (k_q, 8, .inl (ff 4))), (a_s, .inl (k_s, 16, .inl (ff 5)))] H → va_D A [(a_u, .inr (2, [.ref a_d, .ref a_b, .ref a_c, .ref a_q, .int (nI (nl 0)), .int (nI (nl 1)), .int (gl 9), .int (gl 10), .ref a_s, .int (nI (nl 2)), .int (gl 12)])), (a_d, .inl (k_d, 16, .inl fd)), (a_b, .inl (k_b, 16, .inl f_9)), (a_c, .inl (k_c, 16, .inl f_10)), (a_q, .inl (k_q, 8, .inl (ff 4))), (a_s, .inl (k_s, 16, .inl (ff 5)))] → va_S A s.heap H locs → lv_has ls 2 [(1, .int (nI j)), (0, .ref a_u)] → W p l e (headSpec (zq yX2_clear cX2_clear 2 none) ({ frames := 0, cells := 0, slots := 0, locals := 0 })).room s m ([.ref a_u] : List Value).toArray below meth c H locs 0 0 (MQ below (va_Qv (fun (u : (Nat → Int32) × (Nat → Nat) × (Nat → Nat → Int32)) => u.2.1 0 < 8 ∧ u.2.1 1 < 9 ∧ u.2.1 2 < 16) (fun (u : (Nat → Int32) × (Nat → Nat) × (Nat → Nat → Int32)) t9 => zc_B (dC, dI) A [(a_u, .inr (2, [.ref a_d, .ref a_b, .ref a_c, .ref a_q, .int (nI (u.2.1 0)), .int (nI (u.2.1 1)), .int (u.1 9), .int (u.1 10), .ref a_s, .int (nI (u.2.1 2)), .int (u.1 12)])), (a_d, .inl (k_d, 16, .inl fd)), (a_b, .inl (k_b, 16, .inl (u.2.2 2))), (a_c, .inl (k_c, 16, .inl (u.2.2 3))), (a_q, .inl (k_q, 8, .inl (u.2.2 4))), (a_s, .inl (k_s, 16, .inl (u.2.2 5)))] [(k_d, .boolean), (k_b, .boolean), (k_c, .boolean), (k_q, .int), (k_s, .int)] t9) A) ([.ref a_u] : List Value).toArray s 0 0 A) (F0 m 46 ls []) := by
          intro f_9 f_10 H locs ls hP hD hS hl
          refine lv_iinc (v := (nI (j + 1))) (lv' := [(1, .int (nI (j + 1))), (0, .ref a_u)]) hx hb dX2_clear_46 hl (k := 0) rfl (nI_1 j) (by decide) rfl (fun ls hl => ?_)
          refine lv_goto (tgt := 17) hx hb dX2_clear_49 (by decide) ?_
          exact ih (j + 1) (by omega) (by omega) gl nl (fun k9 => match k9 with | 2 => f_9 | 3 => f_10 | 4 => ff 4 | _ => ff 5) ⟨(show nl 0 < 8 by omega), (show nl 1 < 9 by omega), (show nl 2 < 16 by omega)⟩ _ _ _ (hP.sub [0, 1, 2, 3, 4, 5] rfl) (hD.sub [0, 1, 2, 3, 4, 5] (by decide) rfl) hS (lv_sub hl [0, 1] rfl)
        refine lv_if_eq (tgt := 46) hx hb dX2_clear_29 (by decide) (fun c_8 => ?_) (fun c_8 => ?_)
        · exact join_11 (ff 2) (ff 3) _ _ _ (hP.sub [0, 1, 2, 3, 4, 5] rfl) (hD.sub [0, 1, 2, 3, 4, 5] (by decide) rfl) hS (lv_sub hl [0, 1] rfl)
        · refine lv_aload_n hx hb dX2_clear_32 rfl (lv_at hl 1 rfl) ?_
          refine va_get (D := (dC, dI)) (ci := 2) (v := .ref a_b) (C := RX2) (T := TX2) (N := 11) hx hb hts zx_2 hown hK hP 0 rfl rfl 1 (by decide) (hts (.fieldLink RX2 15 "KeyboardKit$KeyUnit" "downBefore" "[Z") zw_146) (fun _ h9 => h9) rfl dX2_clear_33 ?_
          refine lv_iload_n hx hb dX2_clear_36 rfl (lv_at hl 0 rfl) ?_
          refine lv_iconst (v := 0) hx hb dX2_clear_37 (by decide) ?_
          refine va_zast hx hb hK hP hD hS 2 1 rfl rfl (vp_in_nI (show j < 16 by omega) (by decide)) dX2_clear_38 (fun H locs hP hD hS => ?_)
          have hP : va_P (dC, dI) vwCl [(a_u, .inr (2, [.ref a_d, .ref a_b, .ref a_c, .ref a_q, .int (nI (nl 0)), .int (nI (nl 1)), .int (gl 9), .int (gl 10), .ref a_s, .int (nI (nl 2)), .int (gl 12)])), (a_d, .inl (k_d, 16, .inl fd)), (a_b, .inl (k_b, 16, .inl (upd (ff 2) (nI j : Int32).toNatClampNeg (vp_nar .boolean 0)))), (a_c, .inl (k_c, 16, .inl (ff 3))), (a_q, .inl (k_q, 8, .inl (ff 4))), (a_s, .inl (k_s, 16, .inl (ff 5)))] H := hP
          have hD : va_D A [(a_u, .inr (2, [.ref a_d, .ref a_b, .ref a_c, .ref a_q, .int (nI (nl 0)), .int (nI (nl 1)), .int (gl 9), .int (gl 10), .ref a_s, .int (nI (nl 2)), .int (gl 12)])), (a_d, .inl (k_d, 16, .inl fd)), (a_b, .inl (k_b, 16, .inl (upd (ff 2) (nI j : Int32).toNatClampNeg (vp_nar .boolean 0)))), (a_c, .inl (k_c, 16, .inl (ff 3))), (a_q, .inl (k_q, 8, .inl (ff 4))), (a_s, .inl (k_s, 16, .inl (ff 5)))] := hD
          refine lv_aload_n hx hb dX2_clear_39 rfl (lv_at hl 1 rfl) ?_
          refine va_get (D := (dC, dI)) (ci := 2) (v := .ref a_c) (C := RX2) (T := TX2) (N := 11) hx hb hts zx_2 hown hK hP 0 rfl rfl 2 (by decide) (hts (.fieldLink RX2 18 "KeyboardKit$KeyUnit" "counted" "[Z") zw_147) (fun _ h9 => h9) rfl dX2_clear_40 ?_
          refine lv_iload_n hx hb dX2_clear_43 rfl (lv_at hl 0 rfl) ?_
          refine lv_iconst (v := 0) hx hb dX2_clear_44 (by decide) ?_
          refine va_zast hx hb hK hP hD hS 3 2 rfl rfl (vp_in_nI (show j < 16 by omega) (by decide)) dX2_clear_45 (fun H locs hP hD hS => ?_)
          have hP : va_P (dC, dI) vwCl [(a_u, .inr (2, [.ref a_d, .ref a_b, .ref a_c, .ref a_q, .int (nI (nl 0)), .int (nI (nl 1)), .int (gl 9), .int (gl 10), .ref a_s, .int (nI (nl 2)), .int (gl 12)])), (a_d, .inl (k_d, 16, .inl fd)), (a_b, .inl (k_b, 16, .inl (upd (ff 2) (nI j : Int32).toNatClampNeg (vp_nar .boolean 0)))), (a_c, .inl (k_c, 16, .inl (upd (ff 3) (nI j : Int32).toNatClampNeg (vp_nar .boolean 0)))), (a_q, .inl (k_q, 8, .inl (ff 4))), (a_s, .inl (k_s, 16, .inl (ff 5)))] H := hP
          have hD : va_D A [(a_u, .inr (2, [.ref a_d, .ref a_b, .ref a_c, .ref a_q, .int (nI (nl 0)), .int (nI (nl 1)), .int (gl 9), .int (gl 10), .ref a_s, .int (nI (nl 2)), .int (gl 12)])), (a_d, .inl (k_d, 16, .inl fd)), (a_b, .inl (k_b, 16, .inl (upd (ff 2) (nI j : Int32).toNatClampNeg (vp_nar .boolean 0)))), (a_c, .inl (k_c, 16, .inl (upd (ff 3) (nI j : Int32).toNatClampNeg (vp_nar .boolean 0)))), (a_q, .inl (k_q, 8, .inl (ff 4))), (a_s, .inl (k_s, 16, .inl (ff 5)))] := hD
          exact join_11 (upd (ff 2) (nI j : Int32).toNatClampNeg (vp_nar .boolean 0)) (upd (ff 3) (nI j : Int32).toNatClampNeg (vp_nar .boolean 0)) _ _ _ (hP.sub [0, 1, 2, 3, 4, 5] rfl) (hD.sub [0, 1, 2, 3, 4, 5] (by decide) rfl) hS (lv_sub hl [0, 1] rfl)
  exact loop (16 + 1) 0 (by omega) (by omega) (fun k9 => match k9 with | 9 => 0 | 10 => 0 | _ => g 12) (fun k9 => match k9 with | 0 => n 0 | 1 => 0 | _ => n 2) f ⟨(show n 0 < 8 by omega), (show 0 < 9 by omega), (show n 2 < 16 by omega)⟩ _ _ _ hP hD hS (lv_sub hl [0, 1] (by first | rfl | (rw [nI_0]; rfl)))
set_option maxHeartbeats 4000000 in
set_option maxRecDepth 100000 in
theorem g_X2_command (l : Launch) (dC : Nat → ClassId) (dI : Nat → Nat → Nat) (a_u : Nat) (a_d : Nat) (a_b : Nat) (a_c : Nat) (a_q : Nat) (a_s : Nat) (k_d : ClassId) (k_b : ClassId) (k_c : ClassId) (k_q : ClassId) (k_s : ClassId) (fd : Nat → Int32) (g : Nat → Int32) (n : Nat → Nat) (f : Nat → Nat → Int32) (p0 : Int32) (hI : n 0 < 8 ∧ n 1 < 9 ∧ n 2 < 16) (sz : Nat) : Met l yX2_command (zq yX2_command cX2_command 3 none) ({ frames := 1, cells := 0, slots := 0, locals := 21 }) (va_Pc [.ref a_u, .int p0] (zc_P (dC, dI) [(a_u, .inr (2, [.ref a_d, .ref a_b, .ref a_c, .ref a_q, .int (nI (n 0)), .int (nI (n 1)), .int (g 9), .int (g 10), .ref a_s, .int (nI (n 2)), .int (g 12)])), (a_d, .inl (k_d, 16, .inl fd)), (a_b, .inl (k_b, 16, .inl (f 2))), (a_c, .inl (k_c, 16, .inl (f 3))), (a_q, .inl (k_q, 8, .inl (f 4))), (a_s, .inl (k_s, 16, .inl (f 5)))] [(k_d, .boolean), (k_b, .boolean), (k_c, .boolean), (k_q, .int), (k_s, .int)] sz)) (va_Qv (fun (u : (Nat → Int32) × (Nat → Nat) × (Nat → Nat → Int32)) => u.2.1 0 < 8 ∧ u.2.1 1 < 9 ∧ u.2.1 2 < 16) (fun (u : (Nat → Int32) × (Nat → Nat) × (Nat → Nat → Int32)) t9 => zc_B (dC, dI) (va_A [(a_u, .inr (2, [.ref a_d, .ref a_b, .ref a_c, .ref a_q, .int (nI (n 0)), .int (nI (n 1)), .int (g 9), .int (g 10), .ref a_s, .int (nI (n 2)), .int (g 12)])), (a_d, .inl (k_d, 16, .inl fd)), (a_b, .inl (k_b, 16, .inl (f 2))), (a_c, .inl (k_c, 16, .inl (f 3))), (a_q, .inl (k_q, 8, .inl (f 4))), (a_s, .inl (k_s, 16, .inl (f 5)))] sz) [(a_u, .inr (2, [.ref a_d, .ref a_b, .ref a_c, .ref a_q, .int (nI (u.2.1 0)), .int (nI (u.2.1 1)), .int (u.1 9), .int (u.1 10), .ref a_s, .int (nI (u.2.1 2)), .int (u.1 12)])), (a_d, .inl (k_d, 16, .inl fd)), (a_b, .inl (k_b, 16, .inl (u.2.2 2))), (a_c, .inl (k_c, 16, .inl (u.2.2 3))), (a_q, .inl (k_q, 8, .inl (u.2.2 4))), (a_s, .inl (k_s, 16, .inl (u.2.2 5)))] [(k_d, .boolean), (k_b, .boolean), (k_c, .boolean), (k_q, .int), (k_s, .int)] t9) (va_A [(a_u, .inr (2, [.ref a_d, .ref a_b, .ref a_c, .ref a_q, .int (nI (n 0)), .int (nI (n 1)), .int (g 9), .int (g 10), .ref a_s, .int (nI (n 2)), .int (g 12)])), (a_d, .inl (k_d, 16, .inl fd)), (a_b, .inl (k_b, 16, .inl (f 2))), (a_c, .inl (k_c, 16, .inl (f 3))), (a_q, .inl (k_q, 8, .inl (f 4))), (a_s, .inl (k_s, 16, .inl (f 5)))] sz)) 0 0 (va_A [(a_u, .inr (2, [.ref a_d, .ref a_b, .ref a_c, .ref a_q, .int (nI (n 0)), .int (nI (n 1)), .int (g 9), .int (g 10), .ref a_s, .int (nI (n 2)), .int (g 12)])), (a_d, .inl (k_d, 16, .inl fd)), (a_b, .inl (k_b, 16, .inl (f 2))), (a_c, .inl (k_c, 16, .inl (f 3))), (a_q, .inl (k_q, 8, .inl (f 4))), (a_s, .inl (k_s, 16, .inl (f 5)))] sz) := by
  refine Met.ofW (cc := cX2_command) (maxL := 3) (ret := none) (by decide) rfl ?_
  intro p e s m args below meth c s₁ B hml hv
  obtain ⟨rfl, hsz, hP, hK, hD0, hN⟩ := hv
  have hx := B.exec
  have hb := B.bytes
  have hr := B.returns
  have hts : ∀ w ∈ zw, w.before _ s = true := fun w h => atoms_spec (ws := (zq yX2_command cX2_command 3 none)) B.pre w (List.mem_cons_of_mem _ h)
  have hown : s.vm.findClass RX2 = some m.cls := findClass_of_methodNamed B.named
  have hlocks := B.notSynchronized
  subst hsz
  have hD := hD0.self (sz := s.heap.size)
  generalize hAe : va_A [(a_u, .inr (2, [.ref a_d, .ref a_b, .ref a_c, .ref a_q, .int (nI (n 0)), .int (nI (n 1)), .int (g 9), .int (g 10), .ref a_s, .int (nI (n 2)), .int (g 12)])), (a_d, .inl (k_d, 16, .inl fd)), (a_b, .inl (k_b, 16, .inl (f 2))), (a_c, .inl (k_c, 16, .inl (f 3))), (a_q, .inl (k_q, 8, .inl (f 4))), (a_s, .inl (k_s, 16, .inl (f 5)))] s.heap.size = A at hD ⊢
  have hA : ∀ q : Nat, s.heap.size ≤ q → A q := fun q h => by rw [← hAe]; exact Or.inr h
  have hS : va_S A s.heap s.heap [] := va_S.rf
  have hP : va_P (dC, dI) vwCl [(a_u, .inr (2, [.ref a_d, .ref a_b, .ref a_c, .ref a_q, .int (nI (n 0)), .int (nI (n 1)), .int (g 9), .int (g 10), .ref a_s, .int (nI (n 2)), .int (g 12)])), (a_d, .inl (k_d, 16, .inl fd)), (a_b, .inl (k_b, 16, .inl (f 2))), (a_c, .inl (k_c, 16, .inl (f 3))), (a_q, .inl (k_q, 8, .inl (f 4))), (a_s, .inl (k_s, 16, .inl (f 5)))] s.heap := hP
  have hl := lv_entry ([.ref a_u, .int p0]) (n := 3) (Nat.le_of_ble_eq_true rfl)
  rw [lg_entry_eq]
  generalize (lg_sl ([.ref a_u, .int p0]) ++ List.replicate (3 - (lg_sl ([.ref a_u, .int p0])).length) Slot.unset).toArray = ls at hl ⊢
  have hl : lv_has ls 3 [(0, .ref a_u), (1, .int p0)] := hl
  refine lv_iload_n hx hb dX2_command_0 rfl (lv_at hl 1 rfl) ?_
  refine lv_iconst (v := 5) hx hb dX2_command_1 (by decide) ?_
  refine lv_ishr hx hb dX2_command_2 ?_
  refine lv_topi (fun v_1 ev_1 => ?_)
  refine lv_bipush (v := 7) hx hb dX2_command_3 (by decide) ?_
  refine lv_iand hx hb dX2_command_5 ?_
  refine lv_topi (fun v_2 ev_2 => ?_)
  obtain ⟨j_2, hj_2, ej_2⟩ := pk_andE v_1 (m := 7) 3 (by decide)
  obtain rfl : v_2 = nI j_2 := ev_2.trans ej_2
  have hj_2 : j_2 < 8 := hj_2
  refine lv_istore_n (lv' := [(2, .int (nI j_2)), (0, .ref a_u), (1, .int p0)]) hx hb dX2_command_6 rfl hl (by decide) rfl (fun ls hl => ?_)
  refine lv_iload_n hx hb dX2_command_7 rfl (lv_at hl 0 rfl) ?_
  refine lv_iconst (v := 4) hx hb dX2_command_8 (by decide) ?_
  have join_17 : ∀ (x_7 : Nat) (hx_7 : x_7 < 8) (x_8 : Nat) (hx_8 : x_8 < 9) (x_9 : Int32) (x_10 : Int32) (x_11 : Nat) (hx_11 : x_11 < 16) (x_12 : Int32) (f_13 : Nat → Int32) (f_14 : Nat → Int32) (f_15 : Nat → Int32) (f_16 : Nat → Int32) (H : Heap) (locs : List Loc) (ls : Array Slot), va_P (dC, dI) vwCl [(a_u, .inr (2, [.ref a_d, .ref a_b, .ref a_c, .ref a_q, .int (nI x_7), .int (nI x_8), .int x_9, .int x_10, .ref a_s, .int (nI x_11), .int x_12])), (a_d, .inl (k_d, 16, .inl fd)), (a_b, .inl (k_b, 16, .inl f_13)), (a_c, .inl (k_c, 16, .inl f_14)), (a_q, .inl (k_q, 8, .inl f_15)), (a_s, .inl (k_s, 16, .inl f_16))] H → va_D A [(a_u, .inr (2, [.ref a_d, .ref a_b, .ref a_c, .ref a_q, .int (nI x_7), .int (nI x_8), .int x_9, .int x_10, .ref a_s, .int (nI x_11), .int x_12])), (a_d, .inl (k_d, 16, .inl fd)), (a_b, .inl (k_b, 16, .inl f_13)), (a_c, .inl (k_c, 16, .inl f_14)), (a_q, .inl (k_q, 8, .inl f_15)), (a_s, .inl (k_s, 16, .inl f_16))] → va_S A s.heap H locs → lv_has ls 3 [(2, .int (nI j_2)), (0, .ref a_u), (1, .int p0)] → W p l e (headSpec (zq yX2_command cX2_command 3 none) ({ frames := 1, cells := 0, slots := 0, locals := 21 })).room s m ([.ref a_u, .int p0] : List Value).toArray below meth c H locs 0 0 (MQ below (va_Qv (fun (u : (Nat → Int32) × (Nat → Nat) × (Nat → Nat → Int32)) => u.2.1 0 < 8 ∧ u.2.1 1 < 9 ∧ u.2.1 2 < 16) (fun (u : (Nat → Int32) × (Nat → Nat) × (Nat → Nat → Int32)) t9 => zc_B (dC, dI) A [(a_u, .inr (2, [.ref a_d, .ref a_b, .ref a_c, .ref a_q, .int (nI (u.2.1 0)), .int (nI (u.2.1 1)), .int (u.1 9), .int (u.1 10), .ref a_s, .int (nI (u.2.1 2)), .int (u.1 12)])), (a_d, .inl (k_d, 16, .inl fd)), (a_b, .inl (k_b, 16, .inl (u.2.2 2))), (a_c, .inl (k_c, 16, .inl (u.2.2 3))), (a_q, .inl (k_q, 8, .inl (u.2.2 4))), (a_s, .inl (k_s, 16, .inl (u.2.2 5)))] [(k_d, .boolean), (k_b, .boolean), (k_c, .boolean), (k_q, .int), (k_s, .int)] t9) A) ([.ref a_u, .int p0] : List Value).toArray s 0 0 A) (F0 m 33 ls []) := by
    intro x_7 hx_7 x_8 hx_8 x_9 x_10 x_11 hx_11 x_12 f_13 f_14 f_15 f_16 H locs ls hP hD hS hl
    have hP9 := hP.sub (ws' := [(a_u, .inr (2, [.ref a_d, .ref a_b, .ref a_c, .ref a_q, .int (nI x_7), .int (nI x_8), .int x_9, .int x_10, .ref a_s, .int (nI x_11), .int x_12])), (a_d, .inl (k_d, 16, .inl fd)), (a_b, .inl (k_b, 16, .inl f_13)), (a_c, .inl (k_c, 16, .inl f_14)), (a_q, .inl (k_q, 8, .inl f_15)), (a_s, .inl (k_s, 16, .inl f_16))]) [0, 1, 2, 3, 4, 5] rfl
    have hD9 := hD.sub (ws' := [(a_u, .inr (2, [.ref a_d, .ref a_b, .ref a_c, .ref a_q, .int (nI x_7), .int (nI x_8), .int x_9, .int x_10, .ref a_s, .int (nI x_11), .int x_12])), (a_d, .inl (k_d, 16, .inl fd)), (a_b, .inl (k_b, 16, .inl f_13)), (a_c, .inl (k_c, 16, .inl f_14)), (a_q, .inl (k_q, 8, .inl f_15)), (a_s, .inl (k_s, 16, .inl f_16))]) [0, 1, 2, 3, 4, 5] (by decide) rfl
    have hK9 := hK.sub (tys' := [(k_d, .boolean), (k_b, .boolean), (k_c, .boolean), (k_q, .int), (k_s, .int)]) [0, 1, 2, 3, 4] rfl
    exact W.vret hx hb hr (fun t9 ht hW => ⟨⟨((fun k9 => match k9 with | 9 => x_9 | 10 => x_10 | _ => x_12), (fun k9 => match k9 with | 0 => x_7 | 1 => x_8 | _ => x_11), (fun k9 => match k9 with | 2 => f_13 | 3 => f_14 | 4 => f_15 | _ => f_16)), rfl, ⟨(show x_7 < 8 by omega), (show x_8 < 9 by omega), (show x_11 < 16 by omega)⟩, by rw [ht]; exact hP9, va_K.moved hW.alike hK9, hD9⟩, hS.F ht⟩) hS.2.2 dX2_command_33
  by_cases h_3 : j_2 = 4
  · refine lv_icmp_ne (tgt := 23) hx hb dX2_command_9 (by decide) (fun c_3 => absurd (show nI j_2 = nI 4 from (nI_eq (a := j_2) (b := 4) (by omega) (by omega)).mpr h_3) c_3) (fun c_3 => ?_)
    refine lv_aload_n hx hb dX2_command_12 rfl (lv_at hl 1 rfl) ?_
    refine lv_iload_n hx hb dX2_command_13 rfl (lv_at hl 2 rfl) ?_
    refine lv_bipush (v := 15) hx hb dX2_command_14 (by decide) ?_
    refine lv_iand hx hb dX2_command_16 ?_
    refine lv_topi (fun v_18 ev_18 => ?_)
    obtain ⟨j_18, hj_18, ej_18⟩ := pk_andE p0 (m := 15) 4 (by decide)
    obtain rfl : v_18 = nI j_18 := ev_18.trans ej_18
    have hj_18 : j_18 < 16 := hj_18
    refine va_put (D := (dC, dI)) (ci := 2) (v := .int (nI j_18)) (ty := .int) (C := RX2) (T := TX2) (N := 11) hx hb hts zx_2 tyX2 tyX2_ok nmX2 hown hK hP hD hS 0 rfl rfl 9 (by decide) (hts (.fieldLink RX2 42 "KeyboardKit$KeyUnit" "place" "I") zw_156) (fun _ h9 => h9) rfl (by decide +kernel) rfl rfl (Nat.le_of_ble_eq_true rfl) dX2_command_17 (fun H locs hP hD hS => ?_)
    have hP : va_P (dC, dI) vwCl [(a_u, .inr (2, [.ref a_d, .ref a_b, .ref a_c, .ref a_q, .int (nI (n 0)), .int (nI (n 1)), .int (g 9), .int (g 10), .ref a_s, .int (nI j_18), .int (g 12)])), (a_d, .inl (k_d, 16, .inl fd)), (a_b, .inl (k_b, 16, .inl (f 2))), (a_c, .inl (k_c, 16, .inl (f 3))), (a_q, .inl (k_q, 8, .inl (f 4))), (a_s, .inl (k_s, 16, .inl (f 5)))] H := hP
    have hD : va_D A [(a_u, .inr (2, [.ref a_d, .ref a_b, .ref a_c, .ref a_q, .int (nI (n 0)), .int (nI (n 1)), .int (g 9), .int (g 10), .ref a_s, .int (nI j_18), .int (g 12)])), (a_d, .inl (k_d, 16, .inl fd)), (a_b, .inl (k_b, 16, .inl (f 2))), (a_c, .inl (k_c, 16, .inl (f 3))), (a_q, .inl (k_q, 8, .inl (f 4))), (a_s, .inl (k_s, 16, .inl (f 5)))] := hD
    refine lv_goto (tgt := 33) hx hb dX2_command_20 (by decide) ?_
    exact join_17 (n 0) (by omega) (n 1) (by omega) (g 9) (g 10) j_18 (by omega) (g 12) (f 2) (f 3) (f 4) (f 5) _ _ _ (hP.sub [0, 1, 2, 3, 4, 5] rfl) (hD.sub [0, 1, 2, 3, 4, 5] (by decide) rfl) hS (lv_sub hl [0, 1, 2] rfl)
  · refine lv_icmp_ne (tgt := 23) hx hb dX2_command_9 (by decide) (fun c_3 => ?_) (fun c_3 => absurd c_3 (show ¬ nI j_2 = nI 4 from fun q => h_3 ((nI_eq (a := j_2) (b := 4) (by omega) (by omega)).mp q)))
    refine lv_iload_n hx hb dX2_command_23 rfl (lv_at hl 0 rfl) ?_
    refine lv_bipush (v := 6) hx hb dX2_command_24 (by decide) ?_
    by_cases h_19 : j_2 = 6
    · refine lv_icmp_ne (tgt := 33) hx hb dX2_command_26 (by decide) (fun c_19 => absurd (show nI j_2 = nI 6 from (nI_eq (a := j_2) (b := 6) (by omega) (by omega)).mpr h_19) c_19) (fun c_19 => ?_)
      refine lv_aload_n hx hb dX2_command_29 rfl (lv_at hl 1 rfl) ?_
      refine zc_v (wr := []) hP hD hS hA [0, 1, 2, 3, 4, 5] [] rfl rfl (by decide) (by decide) (va_runV (As := []) (rest := []) ⟨hx, hb, hml, hown, hts⟩ (g_X2_clear l dC dI a_u a_d a_b a_c a_q a_s k_d k_b k_c k_q k_s fd g n f ⟨(show n 0 < 8 by omega), (show n 1 < 9 by omega), (show n 2 < 16 by omega)⟩ _) (cwV 0 hts (zg_V zw_521 zw_523 zw_32 zw_85 zw_524) rfl rfl rfl (by decide +kernel) ⟨Nat.le_of_ble_eq_true rfl, Nat.le_of_ble_eq_true rfl⟩) ⟨zc_blind, va_recv hK hP (ci := 2) (q0 := 0) rfl rfl, zc_start hP hD hK hN [0, 1, 2, 3, 4, 5] [0, 1, 2, 3, 4] rfl (by decide) rfl⟩ rfl rfl hl.1 rfl (lv_room (Nat.le_of_ble_eq_true rfl)) dX2_command_30 ⟨Nat.le_of_ble_eq_true rfl, Nat.le_of_ble_eq_true rfl⟩) (fun u_20 H locs hw hK1 hP hD hS => ?_)
      have hP : va_P (dC, dI) vwCl [(a_u, .inr (2, [.ref a_d, .ref a_b, .ref a_c, .ref a_q, .int (nI (u_20.2.1 0)), .int (nI (u_20.2.1 1)), .int (u_20.1 9), .int (u_20.1 10), .ref a_s, .int (nI (u_20.2.1 2)), .int (u_20.1 12)])), (a_d, .inl (k_d, 16, .inl fd)), (a_b, .inl (k_b, 16, .inl (u_20.2.2 2))), (a_c, .inl (k_c, 16, .inl (u_20.2.2 3))), (a_q, .inl (k_q, 8, .inl (u_20.2.2 4))), (a_s, .inl (k_s, 16, .inl (u_20.2.2 5)))] H := hP
      have hD : va_D A [(a_u, .inr (2, [.ref a_d, .ref a_b, .ref a_c, .ref a_q, .int (nI (u_20.2.1 0)), .int (nI (u_20.2.1 1)), .int (u_20.1 9), .int (u_20.1 10), .ref a_s, .int (nI (u_20.2.1 2)), .int (u_20.1 12)])), (a_d, .inl (k_d, 16, .inl fd)), (a_b, .inl (k_b, 16, .inl (u_20.2.2 2))), (a_c, .inl (k_c, 16, .inl (u_20.2.2 3))), (a_q, .inl (k_q, 8, .inl (u_20.2.2 4))), (a_s, .inl (k_s, 16, .inl (u_20.2.2 5)))] := hD
      obtain ⟨hi_20_0, hi_20_1, hi_20_2⟩ := hw
      exact join_17 (u_20.2.1 0) (by omega) (u_20.2.1 1) (by omega) (u_20.1 9) (u_20.1 10) (u_20.2.1 2) (by omega) (u_20.1 12) (u_20.2.2 2) (u_20.2.2 3) (u_20.2.2 4) (u_20.2.2 5) _ _ _ (hP.sub [0, 1, 2, 3, 4, 5] rfl) (hD.sub [0, 1, 2, 3, 4, 5] (by decide) rfl) hS (lv_sub hl [0, 1, 2] rfl)
    · refine lv_icmp_ne (tgt := 33) hx hb dX2_command_26 (by decide) (fun c_19 => ?_) (fun c_19 => absurd c_19 (show ¬ nI j_2 = nI 6 from fun q => h_19 ((nI_eq (a := j_2) (b := 6) (by omega) (by omega)).mp q)))
      exact join_17 (n 0) (by omega) (n 1) (by omega) (g 9) (g 10) (n 2) (by omega) (g 12) (f 2) (f 3) (f 4) (f 5) _ _ _ (hP.sub [0, 1, 2, 3, 4, 5] rfl) (hD.sub [0, 1, 2, 3, 4, 5] (by decide) rfl) hS (lv_sub hl [0, 1, 2] rfl)
set_option maxHeartbeats 4000000 in
set_option maxRecDepth 100000 in
theorem g_X2_tick (l : Launch) (dC : Nat → ClassId) (dI : Nat → Nat → Nat) (a_u : Nat) (a_d : Nat) (a_b : Nat) (a_c : Nat) (a_q : Nat) (a_s : Nat) (k_d : ClassId) (k_b : ClassId) (k_c : ClassId) (k_q : ClassId) (k_s : ClassId) (fd : Nat → Int32) (g : Nat → Int32) (n : Nat → Nat) (f : Nat → Nat → Int32) (hI : n 0 < 8 ∧ n 1 < 9 ∧ n 2 < 16) (sz : Nat) : Met l yX2_tick (zq yX2_tick cX2_tick 2 none) ({ frames := 2, cells := 0, slots := 0, locals := 42 }) (va_Pc [.ref a_u] (zc_P (dC, dI) [(a_u, .inr (2, [.ref a_d, .ref a_b, .ref a_c, .ref a_q, .int (nI (n 0)), .int (nI (n 1)), .int (g 9), .int (g 10), .ref a_s, .int (nI (n 2)), .int (g 12)])), (a_d, .inl (k_d, 16, .inl fd)), (a_b, .inl (k_b, 16, .inl (f 2))), (a_c, .inl (k_c, 16, .inl (f 3))), (a_q, .inl (k_q, 8, .inl (f 4))), (a_s, .inl (k_s, 16, .inl (f 5)))] [(k_d, .boolean), (k_b, .boolean), (k_c, .boolean), (k_q, .int), (k_s, .int)] sz)) (va_Qv (fun (u : (Nat → Int32) × (Nat → Nat) × (Nat → Nat → Int32)) => u.2.1 0 < 8 ∧ u.2.1 1 < 9 ∧ u.2.1 2 < 16) (fun (u : (Nat → Int32) × (Nat → Nat) × (Nat → Nat → Int32)) t9 => zc_B (dC, dI) (va_A [(a_u, .inr (2, [.ref a_d, .ref a_b, .ref a_c, .ref a_q, .int (nI (n 0)), .int (nI (n 1)), .int (g 9), .int (g 10), .ref a_s, .int (nI (n 2)), .int (g 12)])), (a_d, .inl (k_d, 16, .inl fd)), (a_b, .inl (k_b, 16, .inl (f 2))), (a_c, .inl (k_c, 16, .inl (f 3))), (a_q, .inl (k_q, 8, .inl (f 4))), (a_s, .inl (k_s, 16, .inl (f 5)))] sz) [(a_u, .inr (2, [.ref a_d, .ref a_b, .ref a_c, .ref a_q, .int (nI (u.2.1 0)), .int (nI (u.2.1 1)), .int (u.1 9), .int (u.1 10), .ref a_s, .int (nI (u.2.1 2)), .int (u.1 12)])), (a_d, .inl (k_d, 16, .inl fd)), (a_b, .inl (k_b, 16, .inl (u.2.2 2))), (a_c, .inl (k_c, 16, .inl (u.2.2 3))), (a_q, .inl (k_q, 8, .inl (u.2.2 4))), (a_s, .inl (k_s, 16, .inl (u.2.2 5)))] [(k_d, .boolean), (k_b, .boolean), (k_c, .boolean), (k_q, .int), (k_s, .int)] t9) (va_A [(a_u, .inr (2, [.ref a_d, .ref a_b, .ref a_c, .ref a_q, .int (nI (n 0)), .int (nI (n 1)), .int (g 9), .int (g 10), .ref a_s, .int (nI (n 2)), .int (g 12)])), (a_d, .inl (k_d, 16, .inl fd)), (a_b, .inl (k_b, 16, .inl (f 2))), (a_c, .inl (k_c, 16, .inl (f 3))), (a_q, .inl (k_q, 8, .inl (f 4))), (a_s, .inl (k_s, 16, .inl (f 5)))] sz)) 0 0 (va_A [(a_u, .inr (2, [.ref a_d, .ref a_b, .ref a_c, .ref a_q, .int (nI (n 0)), .int (nI (n 1)), .int (g 9), .int (g 10), .ref a_s, .int (nI (n 2)), .int (g 12)])), (a_d, .inl (k_d, 16, .inl fd)), (a_b, .inl (k_b, 16, .inl (f 2))), (a_c, .inl (k_c, 16, .inl (f 3))), (a_q, .inl (k_q, 8, .inl (f 4))), (a_s, .inl (k_s, 16, .inl (f 5)))] sz) := by
  refine Met.ofW (cc := cX2_tick) (maxL := 2) (ret := none) (by decide) rfl ?_
  intro p e s m args below meth c s₁ B hml hv
  obtain ⟨rfl, hsz, hP, hK, hD0, hN⟩ := hv
  have hx := B.exec
  have hb := B.bytes
  have hr := B.returns
  have hts : ∀ w ∈ zw, w.before _ s = true := fun w h => atoms_spec (ws := (zq yX2_tick cX2_tick 2 none)) B.pre w (List.mem_cons_of_mem _ h)
  have hown : s.vm.findClass RX2 = some m.cls := findClass_of_methodNamed B.named
  have hlocks := B.notSynchronized
  subst hsz
  have hD := hD0.self (sz := s.heap.size)
  generalize hAe : va_A [(a_u, .inr (2, [.ref a_d, .ref a_b, .ref a_c, .ref a_q, .int (nI (n 0)), .int (nI (n 1)), .int (g 9), .int (g 10), .ref a_s, .int (nI (n 2)), .int (g 12)])), (a_d, .inl (k_d, 16, .inl fd)), (a_b, .inl (k_b, 16, .inl (f 2))), (a_c, .inl (k_c, 16, .inl (f 3))), (a_q, .inl (k_q, 8, .inl (f 4))), (a_s, .inl (k_s, 16, .inl (f 5)))] s.heap.size = A at hD ⊢
  have hA : ∀ q : Nat, s.heap.size ≤ q → A q := fun q h => by rw [← hAe]; exact Or.inr h
  have hS : va_S A s.heap s.heap [] := va_S.rf
  have hP : va_P (dC, dI) vwCl [(a_u, .inr (2, [.ref a_d, .ref a_b, .ref a_c, .ref a_q, .int (nI (n 0)), .int (nI (n 1)), .int (g 9), .int (g 10), .ref a_s, .int (nI (n 2)), .int (g 12)])), (a_d, .inl (k_d, 16, .inl fd)), (a_b, .inl (k_b, 16, .inl (f 2))), (a_c, .inl (k_c, 16, .inl (f 3))), (a_q, .inl (k_q, 8, .inl (f 4))), (a_s, .inl (k_s, 16, .inl (f 5)))] s.heap := hP
  have hl := lv_entry ([.ref a_u]) (n := 2) (Nat.le_of_ble_eq_true rfl)
  rw [lg_entry_eq]
  generalize (lg_sl ([.ref a_u]) ++ List.replicate (2 - (lg_sl ([.ref a_u])).length) Slot.unset).toArray = ls at hl ⊢
  have hl : lv_has ls 2 [(0, .ref a_u)] := hl
  refine lv_aload_n hx hb dX2_tick_0 rfl (lv_at hl 0 rfl) ?_
  refine lv_dup hx hb dX2_tick_1 rfl ?_
  refine va_get (D := (dC, dI)) (ci := 2) (v := .int (g 12)) (C := RX2) (T := TX2) (N := 11) hx hb hts zx_2 hown hK hP 0 rfl rfl 10 (by decide) (hts (.fieldLink RX2 28 "KeyboardKit$KeyUnit" "ticksToScan" "I") zw_157) (fun _ h9 => h9) rfl dX2_tick_2 ?_
  refine lv_iconst (v := 1) hx hb dX2_tick_5 (by decide) ?_
  refine lv_isub hx hb dX2_tick_6 ?_
  refine lv_topi (fun v_1 ev_1 => ?_)
  refine va_put (D := (dC, dI)) (ci := 2) (v := .int v_1) (ty := .int) (C := RX2) (T := TX2) (N := 11) hx hb hts zx_2 tyX2 tyX2_ok nmX2 hown hK hP hD hS 0 rfl rfl 10 (by decide) (hts (.fieldLink RX2 28 "KeyboardKit$KeyUnit" "ticksToScan" "I") zw_157) (fun _ h9 => h9) rfl (by decide +kernel) rfl rfl (Nat.le_of_ble_eq_true rfl) dX2_tick_7 (fun H locs hP hD hS => ?_)
  have hP : va_P (dC, dI) vwCl [(a_u, .inr (2, [.ref a_d, .ref a_b, .ref a_c, .ref a_q, .int (nI (n 0)), .int (nI (n 1)), .int (g 9), .int (g 10), .ref a_s, .int (nI (n 2)), .int v_1])), (a_d, .inl (k_d, 16, .inl fd)), (a_b, .inl (k_b, 16, .inl (f 2))), (a_c, .inl (k_c, 16, .inl (f 3))), (a_q, .inl (k_q, 8, .inl (f 4))), (a_s, .inl (k_s, 16, .inl (f 5)))] H := hP
  have hD : va_D A [(a_u, .inr (2, [.ref a_d, .ref a_b, .ref a_c, .ref a_q, .int (nI (n 0)), .int (nI (n 1)), .int (g 9), .int (g 10), .ref a_s, .int (nI (n 2)), .int v_1])), (a_d, .inl (k_d, 16, .inl fd)), (a_b, .inl (k_b, 16, .inl (f 2))), (a_c, .inl (k_c, 16, .inl (f 3))), (a_q, .inl (k_q, 8, .inl (f 4))), (a_s, .inl (k_s, 16, .inl (f 5)))] := hD
  refine lv_aload_n hx hb dX2_tick_10 rfl (lv_at hl 0 rfl) ?_
  refine va_get (D := (dC, dI)) (ci := 2) (v := .int v_1) (C := RX2) (T := TX2) (N := 11) hx hb hts zx_2 hown hK hP 0 rfl rfl 10 (by decide) (hts (.fieldLink RX2 28 "KeyboardKit$KeyUnit" "ticksToScan" "I") zw_157) (fun _ h9 => h9) rfl dX2_tick_11 ?_
  refine lv_if_ne (tgt := 42) hx hb dX2_tick_14 (by decide) (fun c_2 => ?_) (fun c_2 => ?_)
  · have hP9 := hP.sub (ws' := [(a_u, .inr (2, [.ref a_d, .ref a_b, .ref a_c, .ref a_q, .int (nI (n 0)), .int (nI (n 1)), .int (g 9), .int (g 10), .ref a_s, .int (nI (n 2)), .int v_1])), (a_d, .inl (k_d, 16, .inl fd)), (a_b, .inl (k_b, 16, .inl (f 2))), (a_c, .inl (k_c, 16, .inl (f 3))), (a_q, .inl (k_q, 8, .inl (f 4))), (a_s, .inl (k_s, 16, .inl (f 5)))]) [0, 1, 2, 3, 4, 5] rfl
    have hD9 := hD.sub (ws' := [(a_u, .inr (2, [.ref a_d, .ref a_b, .ref a_c, .ref a_q, .int (nI (n 0)), .int (nI (n 1)), .int (g 9), .int (g 10), .ref a_s, .int (nI (n 2)), .int v_1])), (a_d, .inl (k_d, 16, .inl fd)), (a_b, .inl (k_b, 16, .inl (f 2))), (a_c, .inl (k_c, 16, .inl (f 3))), (a_q, .inl (k_q, 8, .inl (f 4))), (a_s, .inl (k_s, 16, .inl (f 5)))]) [0, 1, 2, 3, 4, 5] (by decide) rfl
    have hK9 := hK.sub (tys' := [(k_d, .boolean), (k_b, .boolean), (k_c, .boolean), (k_q, .int), (k_s, .int)]) [0, 1, 2, 3, 4] rfl
    exact W.vret hx hb hr (fun t9 ht hW => ⟨⟨((fun k9 => match k9 with | 9 => g 9 | 10 => g 10 | _ => v_1), (n), (f)), rfl, ⟨(show n 0 < 8 by omega), (show n 1 < 9 by omega), (show n 2 < 16 by omega)⟩, by rw [ht]; exact hP9, va_K.moved hW.alike hK9, hD9⟩, hS.F ht⟩) hS.2.2 dX2_tick_42
  · refine lv_aload_n hx hb dX2_tick_17 rfl (lv_at hl 0 rfl) ?_
    refine lv_bipush (v := 64) hx hb dX2_tick_18 (by decide) ?_
    refine va_put (D := (dC, dI)) (ci := 2) (v := .int 64) (ty := .int) (C := RX2) (T := TX2) (N := 11) hx hb hts zx_2 tyX2 tyX2_ok nmX2 hown hK hP hD hS 0 rfl rfl 10 (by decide) (hts (.fieldLink RX2 28 "KeyboardKit$KeyUnit" "ticksToScan" "I") zw_157) (fun _ h9 => h9) rfl (by decide +kernel) rfl rfl (Nat.le_of_ble_eq_true rfl) dX2_tick_20 (fun H locs hP hD hS => ?_)
    have hP : va_P (dC, dI) vwCl [(a_u, .inr (2, [.ref a_d, .ref a_b, .ref a_c, .ref a_q, .int (nI (n 0)), .int (nI (n 1)), .int (g 9), .int (g 10), .ref a_s, .int (nI (n 2)), .int 64])), (a_d, .inl (k_d, 16, .inl fd)), (a_b, .inl (k_b, 16, .inl (f 2))), (a_c, .inl (k_c, 16, .inl (f 3))), (a_q, .inl (k_q, 8, .inl (f 4))), (a_s, .inl (k_s, 16, .inl (f 5)))] H := hP
    have hD : va_D A [(a_u, .inr (2, [.ref a_d, .ref a_b, .ref a_c, .ref a_q, .int (nI (n 0)), .int (nI (n 1)), .int (g 9), .int (g 10), .ref a_s, .int (nI (n 2)), .int 64])), (a_d, .inl (k_d, 16, .inl fd)), (a_b, .inl (k_b, 16, .inl (f 2))), (a_c, .inl (k_c, 16, .inl (f 3))), (a_q, .inl (k_q, 8, .inl (f 4))), (a_s, .inl (k_s, 16, .inl (f 5)))] := hD
    refine lv_iconst (v := 0) hx hb dX2_tick_23 (by decide) ?_
    refine lv_istore_n (lv' := [(1, .int 0), (0, .ref a_u)]) hx hb dX2_tick_24 rfl hl (by decide) rfl (fun ls hl => ?_)
    have loop : ∀ (n_ j : Nat), 16 + 1 ≤ j + n_ → j ≤ 16 → ∀ (gl : Nat → Int32) (nl : Nat → Nat) (ff : Nat → Nat → Int32) (hIl : nl 0 < 8 ∧ nl 1 < 9 ∧ nl 2 < 16) (H : Heap) (locs : List Loc) (ls : Array Slot), va_P (dC, dI) vwCl [(a_u, .inr (2, [.ref a_d, .ref a_b, .ref a_c, .ref a_q, .int (nI (nl 0)), .int (nI (nl 1)), .int (gl 9), .int (gl 10), .ref a_s, .int (nI (nl 2)), .int (gl 12)])), (a_d, .inl (k_d, 16, .inl fd)), (a_b, .inl (k_b, 16, .inl (ff 2))), (a_c, .inl (k_c, 16, .inl (ff 3))), (a_q, .inl (k_q, 8, .inl (ff 4))), (a_s, .inl (k_s, 16, .inl (ff 5)))] H → va_D A [(a_u, .inr (2, [.ref a_d, .ref a_b, .ref a_c, .ref a_q, .int (nI (nl 0)), .int (nI (nl 1)), .int (gl 9), .int (gl 10), .ref a_s, .int (nI (nl 2)), .int (gl 12)])), (a_d, .inl (k_d, 16, .inl fd)), (a_b, .inl (k_b, 16, .inl (ff 2))), (a_c, .inl (k_c, 16, .inl (ff 3))), (a_q, .inl (k_q, 8, .inl (ff 4))), (a_s, .inl (k_s, 16, .inl (ff 5)))] → va_S A s.heap H locs → lv_has ls 2 [(1, .int (nI j)), (0, .ref a_u)] → W p l e (headSpec (zq yX2_tick cX2_tick 2 none) ({ frames := 2, cells := 0, slots := 0, locals := 42 })).room s m ([.ref a_u] : List Value).toArray below meth c H locs 0 0 (MQ below (va_Qv (fun (u : (Nat → Int32) × (Nat → Nat) × (Nat → Nat → Int32)) => u.2.1 0 < 8 ∧ u.2.1 1 < 9 ∧ u.2.1 2 < 16) (fun (u : (Nat → Int32) × (Nat → Nat) × (Nat → Nat → Int32)) t9 => zc_B (dC, dI) A [(a_u, .inr (2, [.ref a_d, .ref a_b, .ref a_c, .ref a_q, .int (nI (u.2.1 0)), .int (nI (u.2.1 1)), .int (u.1 9), .int (u.1 10), .ref a_s, .int (nI (u.2.1 2)), .int (u.1 12)])), (a_d, .inl (k_d, 16, .inl fd)), (a_b, .inl (k_b, 16, .inl (u.2.2 2))), (a_c, .inl (k_c, 16, .inl (u.2.2 3))), (a_q, .inl (k_q, 8, .inl (u.2.2 4))), (a_s, .inl (k_s, 16, .inl (u.2.2 5)))] [(k_d, .boolean), (k_b, .boolean), (k_c, .boolean), (k_q, .int), (k_s, .int)] t9) A) ([.ref a_u] : List Value).toArray s 0 0 A) (F0 m 25 ls []) := by
      intro n_
      induction n_ with
      | zero => intro j h1 h2; exact absurd h1 (by omega)
      | succ n_ ih =>
        intro j hj1 hj2 gl nl ff hIl H locs ls hP hD hS hl
        refine lv_iload_n hx hb dX2_tick_25 rfl (lv_at hl 0 rfl) ?_
        refine lv_bipush (v := 16) hx hb dX2_tick_26 (by decide) ?_
        by_cases h_6 : 16 ≤ j
        · refine lv_icmp_ge (tgt := 42) hx hb dX2_tick_28 (by decide) (fun c_6 => ?_) (fun c_6 => absurd (show nI 16 ≤ nI j from (nI_leI (a := 16) (b := j) (by omega) (by omega)).mpr h_6) c_6)
          have hP9 := hP.sub (ws' := [(a_u, .inr (2, [.ref a_d, .ref a_b, .ref a_c, .ref a_q, .int (nI (nl 0)), .int (nI (nl 1)), .int (gl 9), .int (gl 10), .ref a_s, .int (nI (nl 2)), .int (gl 12)])), (a_d, .inl (k_d, 16, .inl fd)), (a_b, .inl (k_b, 16, .inl (ff 2))), (a_c, .inl (k_c, 16, .inl (ff 3))), (a_q, .inl (k_q, 8, .inl (ff 4))), (a_s, .inl (k_s, 16, .inl (ff 5)))]) [0, 1, 2, 3, 4, 5] rfl
          have hD9 := hD.sub (ws' := [(a_u, .inr (2, [.ref a_d, .ref a_b, .ref a_c, .ref a_q, .int (nI (nl 0)), .int (nI (nl 1)), .int (gl 9), .int (gl 10), .ref a_s, .int (nI (nl 2)), .int (gl 12)])), (a_d, .inl (k_d, 16, .inl fd)), (a_b, .inl (k_b, 16, .inl (ff 2))), (a_c, .inl (k_c, 16, .inl (ff 3))), (a_q, .inl (k_q, 8, .inl (ff 4))), (a_s, .inl (k_s, 16, .inl (ff 5)))]) [0, 1, 2, 3, 4, 5] (by decide) rfl
          have hK9 := hK.sub (tys' := [(k_d, .boolean), (k_b, .boolean), (k_c, .boolean), (k_q, .int), (k_s, .int)]) [0, 1, 2, 3, 4] rfl
          exact W.vret hx hb hr (fun t9 ht hW => ⟨⟨((gl), (nl), (ff)), rfl, ⟨(show nl 0 < 8 by omega), (show nl 1 < 9 by omega), (show nl 2 < 16 by omega)⟩, by rw [ht]; exact hP9, va_K.moved hW.alike hK9, hD9⟩, hS.F ht⟩) hS.2.2 dX2_tick_42
        · refine lv_icmp_ge (tgt := 42) hx hb dX2_tick_28 (by decide) (fun c_6 => absurd c_6 (show ¬ nI 16 ≤ nI j from fun q => h_6 ((nI_leI (a := 16) (b := j) (by omega) (by omega)).mp q))) (fun c_6 => ?_)
          refine lv_aload_n hx hb dX2_tick_31 rfl (lv_at hl 1 rfl) ?_
          refine lv_iload_n hx hb dX2_tick_32 rfl (lv_at hl 0 rfl) ?_
          refine zc_v (wr := []) hP hD hS hA [0, 1, 2, 3, 4, 5] [] rfl rfl (by decide) (by decide) (va_runV (As := [.int (nI j)]) (rest := []) ⟨hx, hb, hml, hown, hts⟩ (g_X2_scan l dC dI a_u a_d a_b a_c a_q a_s k_d k_b k_c k_q k_s fd gl nl ff j ⟨(show nl 0 < 8 by omega), (show nl 1 < 9 by omega), (show nl 2 < 16 by omega)⟩ (by omega) _) (cwV 1 hts (zg_V zw_573 zw_575 zw_38 zw_85 zw_576) rfl rfl rfl (by decide +kernel) ⟨Nat.le_of_ble_eq_true rfl, Nat.le_of_ble_eq_true rfl⟩) ⟨zc_blind, va_recv hK hP (ci := 2) (q0 := 0) rfl rfl, zc_start hP hD hK hN [0, 1, 2, 3, 4, 5] [0, 1, 2, 3, 4] rfl (by decide) rfl⟩ rfl rfl hl.1 rfl (lv_room (Nat.le_of_ble_eq_true rfl)) dX2_tick_33 ⟨Nat.le_of_ble_eq_true rfl, Nat.le_of_ble_eq_true rfl⟩) (fun u_8 H locs hw hK1 hP hD hS => ?_)
          have hP : va_P (dC, dI) vwCl [(a_u, .inr (2, [.ref a_d, .ref a_b, .ref a_c, .ref a_q, .int (nI (u_8.2.1 0)), .int (nI (u_8.2.1 1)), .int (u_8.1 9), .int (u_8.1 10), .ref a_s, .int (nI (u_8.2.1 2)), .int (u_8.1 12)])), (a_d, .inl (k_d, 16, .inl fd)), (a_b, .inl (k_b, 16, .inl (u_8.2.2 2))), (a_c, .inl (k_c, 16, .inl (u_8.2.2 3))), (a_q, .inl (k_q, 8, .inl (u_8.2.2 4))), (a_s, .inl (k_s, 16, .inl (u_8.2.2 5)))] H := hP
          have hD : va_D A [(a_u, .inr (2, [.ref a_d, .ref a_b, .ref a_c, .ref a_q, .int (nI (u_8.2.1 0)), .int (nI (u_8.2.1 1)), .int (u_8.1 9), .int (u_8.1 10), .ref a_s, .int (nI (u_8.2.1 2)), .int (u_8.1 12)])), (a_d, .inl (k_d, 16, .inl fd)), (a_b, .inl (k_b, 16, .inl (u_8.2.2 2))), (a_c, .inl (k_c, 16, .inl (u_8.2.2 3))), (a_q, .inl (k_q, 8, .inl (u_8.2.2 4))), (a_s, .inl (k_s, 16, .inl (u_8.2.2 5)))] := hD
          obtain ⟨hi_8_0, hi_8_1, hi_8_2⟩ := hw
          refine lv_iinc (v := (nI (j + 1))) (lv' := [(1, .int (nI (j + 1))), (0, .ref a_u)]) hx hb dX2_tick_36 hl (k := 0) rfl (nI_1 j) (by decide) rfl (fun ls hl => ?_)
          refine lv_goto (tgt := 25) hx hb dX2_tick_39 (by decide) ?_
          exact ih (j + 1) (by omega) (by omega) u_8.1 u_8.2.1 u_8.2.2 ⟨(show u_8.2.1 0 < 8 by omega), (show u_8.2.1 1 < 9 by omega), (show u_8.2.1 2 < 16 by omega)⟩ _ _ _ (hP.sub [0, 1, 2, 3, 4, 5] rfl) (hD.sub [0, 1, 2, 3, 4, 5] (by decide) rfl) hS (lv_sub hl [0, 1] rfl)
    exact loop (16 + 1) 0 (by omega) (by omega) (fun k9 => match k9 with | 9 => g 9 | 10 => g 10 | _ => 64) n f ⟨(show n 0 < 8 by omega), (show n 1 < 9 by omega), (show n 2 < 16 by omega)⟩ _ _ _ hP hD hS (lv_sub hl [0, 1] (by first | rfl | (rw [nI_0]; rfl)))
