theorem dX2_enqueue_0 : decode cX2_enqueue 0 = .ok (.aload_n 0, 1) := by decide +kernel
theorem dX2_enqueue_1 : decode cX2_enqueue 1 = .ok (.getfield 32, 3) := by decide +kernel
theorem dX2_enqueue_10 : decode cX2_enqueue 10 = .ok (.getfield 21, 3) := by decide +kernel
theorem dX2_enqueue_13 : decode cX2_enqueue 13 = .ok (.aload_n 0, 1) := by decide +kernel
theorem dX2_enqueue_14 : decode cX2_enqueue 14 = .ok (.getfield 39, 3) := by decide +kernel
theorem dX2_enqueue_17 : decode cX2_enqueue 17 = .ok (.aload_n 0, 1) := by decide +kernel
theorem dX2_enqueue_18 : decode cX2_enqueue 18 = .ok (.getfield 32, 3) := by decide +kernel
theorem dX2_enqueue_21 : decode cX2_enqueue 21 = .ok (.iadd, 1) := by decide +kernel
theorem dX2_enqueue_22 : decode cX2_enqueue 22 = .ok (.bipush 8, 2) := by decide +kernel
theorem dX2_enqueue_24 : decode cX2_enqueue 24 = .ok (.irem, 1) := by decide +kernel
theorem dX2_enqueue_25 : decode cX2_enqueue 25 = .ok (.iload_n 1, 1) := by decide +kernel
theorem dX2_enqueue_26 : decode cX2_enqueue 26 = .ok (.iastore, 1) := by decide +kernel
theorem dX2_enqueue_27 : decode cX2_enqueue 27 = .ok (.aload_n 0, 1) := by decide +kernel
theorem dX2_enqueue_28 : decode cX2_enqueue 28 = .ok (.dup, 1) := by decide +kernel
theorem dX2_enqueue_29 : decode cX2_enqueue 29 = .ok (.getfield 32, 3) := by decide +kernel
theorem dX2_enqueue_32 : decode cX2_enqueue 32 = .ok (.iconst 1, 1) := by decide +kernel
theorem dX2_enqueue_33 : decode cX2_enqueue 33 = .ok (.iadd, 1) := by decide +kernel
theorem dX2_enqueue_34 : decode cX2_enqueue 34 = .ok (.putfield 32, 3) := by decide +kernel
theorem dX2_enqueue_37 : decode cX2_enqueue 37 = .ok (.goto 8, 3) := by decide +kernel
theorem dX2_enqueue_4 : decode cX2_enqueue 4 = .ok (.bipush 8, 2) := by decide +kernel
theorem dX2_enqueue_40 : decode cX2_enqueue 40 = .ok (.aload_n 0, 1) := by decide +kernel
theorem dX2_enqueue_41 : decode cX2_enqueue 41 = .ok (.iconst 1, 1) := by decide +kernel
theorem dX2_enqueue_42 : decode cX2_enqueue 42 = .ok (.putfield 48, 3) := by decide +kernel
theorem dX2_enqueue_45 : decode cX2_enqueue 45 = .ok (.return_, 1) := by decide +kernel
theorem dX2_enqueue_6 : decode cX2_enqueue 6 = .ok (.if_icmp .ge 34, 3) := by decide +kernel
theorem dX2_enqueue_9 : decode cX2_enqueue 9 = .ok (.aload_n 0, 1) := by decide +kernel
theorem dX2_scan_0 : decode cX2_scan 0 = .ok (.aload_n 0, 1) := by decide +kernel
theorem dX2_scan_1 : decode cX2_scan 1 = .ok (.getfield 9, 3) := by decide +kernel
theorem dX2_scan_10 : decode cX2_scan 10 = .ok (.getfield 18, 3) := by decide +kernel
theorem dX2_scan_13 : decode cX2_scan 13 = .ok (.iload_n 1, 1) := by decide +kernel
theorem dX2_scan_14 : decode cX2_scan 14 = .ok (.iconst 0, 1) := by decide +kernel
theorem dX2_scan_15 : decode cX2_scan 15 = .ok (.bastore, 1) := by decide +kernel
theorem dX2_scan_16 : decode cX2_scan 16 = .ok (.goto 33, 3) := by decide +kernel
theorem dX2_scan_19 : decode cX2_scan 19 = .ok (.aload_n 0, 1) := by decide +kernel
theorem dX2_scan_20 : decode cX2_scan 20 = .ok (.getfield 15, 3) := by decide +kernel
theorem dX2_scan_23 : decode cX2_scan 23 = .ok (.iload_n 1, 1) := by decide +kernel
theorem dX2_scan_24 : decode cX2_scan 24 = .ok (.baload, 1) := by decide +kernel
theorem dX2_scan_25 : decode cX2_scan 25 = .ok (.ifCond .eq 24, 3) := by decide +kernel
theorem dX2_scan_28 : decode cX2_scan 28 = .ok (.aload_n 0, 1) := by decide +kernel
theorem dX2_scan_29 : decode cX2_scan 29 = .ok (.getfield 18, 3) := by decide +kernel
theorem dX2_scan_32 : decode cX2_scan 32 = .ok (.iload_n 1, 1) := by decide +kernel
theorem dX2_scan_33 : decode cX2_scan 33 = .ok (.baload, 1) := by decide +kernel
theorem dX2_scan_34 : decode cX2_scan 34 = .ok (.ifCond .ne 15, 3) := by decide +kernel
theorem dX2_scan_37 : decode cX2_scan 37 = .ok (.aload_n 0, 1) := by decide +kernel
theorem dX2_scan_38 : decode cX2_scan 38 = .ok (.getfield 18, 3) := by decide +kernel
theorem dX2_scan_4 : decode cX2_scan 4 = .ok (.iload_n 1, 1) := by decide +kernel
theorem dX2_scan_41 : decode cX2_scan 41 = .ok (.iload_n 1, 1) := by decide +kernel
theorem dX2_scan_42 : decode cX2_scan 42 = .ok (.iconst 1, 1) := by decide +kernel
theorem dX2_scan_43 : decode cX2_scan 43 = .ok (.bastore, 1) := by decide +kernel
theorem dX2_scan_44 : decode cX2_scan 44 = .ok (.aload_n 0, 1) := by decide +kernel
theorem dX2_scan_45 : decode cX2_scan 45 = .ok (.iload_n 1, 1) := by decide +kernel
theorem dX2_scan_46 : decode cX2_scan 46 = .ok (.invokevirtual 55, 3) := by decide +kernel
theorem dX2_scan_49 : decode cX2_scan 49 = .ok (.aload_n 0, 1) := by decide +kernel
theorem dX2_scan_5 : decode cX2_scan 5 = .ok (.baload, 1) := by decide +kernel
theorem dX2_scan_50 : decode cX2_scan 50 = .ok (.getfield 15, 3) := by decide +kernel
theorem dX2_scan_53 : decode cX2_scan 53 = .ok (.iload_n 1, 1) := by decide +kernel
theorem dX2_scan_54 : decode cX2_scan 54 = .ok (.aload_n 0, 1) := by decide +kernel
theorem dX2_scan_55 : decode cX2_scan 55 = .ok (.getfield 9, 3) := by decide +kernel
theorem dX2_scan_58 : decode cX2_scan 58 = .ok (.iload_n 1, 1) := by decide +kernel
theorem dX2_scan_59 : decode cX2_scan 59 = .ok (.baload, 1) := by decide +kernel
theorem dX2_scan_6 : decode cX2_scan 6 = .ok (.ifCond .ne 13, 3) := by decide +kernel
theorem dX2_scan_60 : decode cX2_scan 60 = .ok (.bastore, 1) := by decide +kernel
theorem dX2_scan_61 : decode cX2_scan 61 = .ok (.return_, 1) := by decide +kernel
theorem dX2_scan_9 : decode cX2_scan 9 = .ok (.aload_n 0, 1) := by decide +kernel
theorem dX2_show_0 : decode cX2_show 0 = .ok (.aload_n 0, 1) := by decide +kernel
theorem dX2_show_1 : decode cX2_show 1 = .ok (.getfield 25, 3) := by decide +kernel
theorem dX2_show_10 : decode cX2_show 10 = .ok (.aload_n 0, 1) := by decide +kernel
theorem dX2_show_11 : decode cX2_show 11 = .ok (.aload_n 0, 1) := by decide +kernel
theorem dX2_show_12 : decode cX2_show 12 = .ok (.getfield 42, 3) := by decide +kernel
theorem dX2_show_15 : decode cX2_show 15 = .ok (.iconst 1, 1) := by decide +kernel
theorem dX2_show_16 : decode cX2_show 16 = .ok (.iadd, 1) := by decide +kernel
theorem dX2_show_17 : decode cX2_show 17 = .ok (.bipush 16, 2) := by decide +kernel
theorem dX2_show_19 : decode cX2_show 19 = .ok (.irem, 1) := by decide +kernel
theorem dX2_show_20 : decode cX2_show 20 = .ok (.putfield 42, 3) := by decide +kernel
theorem dX2_show_23 : decode cX2_show 23 = .ok (.return_, 1) := by decide +kernel
theorem dX2_show_4 : decode cX2_show 4 = .ok (.aload_n 0, 1) := by decide +kernel
theorem dX2_show_5 : decode cX2_show 5 = .ok (.getfield 42, 3) := by decide +kernel
theorem dX2_show_8 : decode cX2_show 8 = .ok (.iload_n 1, 1) := by decide +kernel
theorem dX2_show_9 : decode cX2_show 9 = .ok (.iastore, 1) := by decide +kernel
theorem dX2_status_0 : decode cX2_status 0 = .ok (.aload_n 0, 1) := by decide +kernel
theorem dX2_status_1 : decode cX2_status 1 = .ok (.getfield 32, 3) := by decide +kernel
theorem dX2_status_11 : decode cX2_status 11 = .ok (.bipush 8, 2) := by decide +kernel
theorem dX2_status_13 : decode cX2_status 13 = .ok (.if_icmp .ne 8, 3) := by decide +kernel
theorem dX2_status_16 : decode cX2_status 16 = .ok (.bipush 8, 2) := by decide +kernel
theorem dX2_status_18 : decode cX2_status 18 = .ok (.goto 4, 3) := by decide +kernel
theorem dX2_status_21 : decode cX2_status 21 = .ok (.iconst 0, 1) := by decide +kernel
theorem dX2_status_22 : decode cX2_status 22 = .ok (.iadd, 1) := by decide +kernel
theorem dX2_status_23 : decode cX2_status 23 = .ok (.aload_n 0, 1) := by decide +kernel
theorem dX2_status_24 : decode cX2_status 24 = .ok (.getfield 35, 3) := by decide +kernel
theorem dX2_status_27 : decode cX2_status 27 = .ok (.ifCond .eq 8, 3) := by decide +kernel
theorem dX2_status_30 : decode cX2_status 30 = .ok (.bipush 16, 2) := by decide +kernel
theorem dX2_status_32 : decode cX2_status 32 = .ok (.goto 4, 3) := by decide +kernel
theorem dX2_status_35 : decode cX2_status 35 = .ok (.iconst 0, 1) := by decide +kernel
theorem dX2_status_36 : decode cX2_status 36 = .ok (.iadd, 1) := by decide +kernel
theorem dX2_status_37 : decode cX2_status 37 = .ok (.aload_n 0, 1) := by decide +kernel
theorem dX2_status_38 : decode cX2_status 38 = .ok (.getfield 48, 3) := by decide +kernel
theorem dX2_status_4 : decode cX2_status 4 = .ok (.bipush 7, 2) := by decide +kernel
theorem dX2_status_41 : decode cX2_status 41 = .ok (.ifCond .eq 8, 3) := by decide +kernel
theorem dX2_status_44 : decode cX2_status 44 = .ok (.bipush 32, 2) := by decide +kernel
theorem dX2_status_46 : decode cX2_status 46 = .ok (.goto 4, 3) := by decide +kernel
theorem dX2_status_49 : decode cX2_status 49 = .ok (.iconst 0, 1) := by decide +kernel
theorem dX2_status_50 : decode cX2_status 50 = .ok (.iadd, 1) := by decide +kernel
theorem dX2_status_51 : decode cX2_status 51 = .ok (.ireturn, 1) := by decide +kernel
theorem dX2_status_6 : decode cX2_status 6 = .ok (.iand, 1) := by decide +kernel
theorem dX2_status_7 : decode cX2_status 7 = .ok (.aload_n 0, 1) := by decide +kernel
theorem dX2_status_8 : decode cX2_status 8 = .ok (.getfield 32, 3) := by decide +kernel
theorem dX2_takeKey_0 : decode cX2_takeKey 0 = .ok (.aload_n 0, 1) := by decide +kernel
theorem dX2_takeKey_1 : decode cX2_takeKey 1 = .ok (.getfield 32, 3) := by decide +kernel
theorem dX2_takeKey_12 : decode cX2_takeKey 12 = .ok (.iconst 0, 1) := by decide +kernel
theorem dX2_takeKey_13 : decode cX2_takeKey 13 = .ok (.ireturn, 1) := by decide +kernel
theorem dX2_takeKey_14 : decode cX2_takeKey 14 = .ok (.aload_n 0, 1) := by decide +kernel
theorem dX2_takeKey_15 : decode cX2_takeKey 15 = .ok (.getfield 21, 3) := by decide +kernel
theorem dX2_takeKey_18 : decode cX2_takeKey 18 = .ok (.aload_n 0, 1) := by decide +kernel
theorem dX2_takeKey_19 : decode cX2_takeKey 19 = .ok (.getfield 39, 3) := by decide +kernel
theorem dX2_takeKey_22 : decode cX2_takeKey 22 = .ok (.iaload, 1) := by decide +kernel
theorem dX2_takeKey_23 : decode cX2_takeKey 23 = .ok (.istore_n 1, 1) := by decide +kernel
theorem dX2_takeKey_24 : decode cX2_takeKey 24 = .ok (.aload_n 0, 1) := by decide +kernel
theorem dX2_takeKey_25 : decode cX2_takeKey 25 = .ok (.aload_n 0, 1) := by decide +kernel
theorem dX2_takeKey_26 : decode cX2_takeKey 26 = .ok (.getfield 39, 3) := by decide +kernel
theorem dX2_takeKey_29 : decode cX2_takeKey 29 = .ok (.iconst 1, 1) := by decide +kernel
theorem dX2_takeKey_30 : decode cX2_takeKey 30 = .ok (.iadd, 1) := by decide +kernel
theorem dX2_takeKey_31 : decode cX2_takeKey 31 = .ok (.bipush 8, 2) := by decide +kernel
theorem dX2_takeKey_33 : decode cX2_takeKey 33 = .ok (.irem, 1) := by decide +kernel
theorem dX2_takeKey_34 : decode cX2_takeKey 34 = .ok (.putfield 39, 3) := by decide +kernel
theorem dX2_takeKey_37 : decode cX2_takeKey 37 = .ok (.aload_n 0, 1) := by decide +kernel
theorem dX2_takeKey_38 : decode cX2_takeKey 38 = .ok (.dup, 1) := by decide +kernel
theorem dX2_takeKey_39 : decode cX2_takeKey 39 = .ok (.getfield 32, 3) := by decide +kernel
theorem dX2_takeKey_4 : decode cX2_takeKey 4 = .ok (.ifCond .ne 10, 3) := by decide +kernel
theorem dX2_takeKey_42 : decode cX2_takeKey 42 = .ok (.iconst 1, 1) := by decide +kernel
theorem dX2_takeKey_43 : decode cX2_takeKey 43 = .ok (.isub, 1) := by decide +kernel
theorem dX2_takeKey_44 : decode cX2_takeKey 44 = .ok (.putfield 32, 3) := by decide +kernel
theorem dX2_takeKey_47 : decode cX2_takeKey 47 = .ok (.iload_n 1, 1) := by decide +kernel
theorem dX2_takeKey_48 : decode cX2_takeKey 48 = .ok (.ireturn, 1) := by decide +kernel
theorem dX2_takeKey_7 : decode cX2_takeKey 7 = .ok (.aload_n 0, 1) := by decide +kernel
theorem dX2_takeKey_8 : decode cX2_takeKey 8 = .ok (.iconst 1, 1) := by decide +kernel
theorem dX2_takeKey_9 : decode cX2_takeKey 9 = .ok (.putfield 35, 3) := by decide +kernel
set_option maxHeartbeats 4000000 in
set_option maxRecDepth 100000 in
theorem g_X2_takeKey (l : Launch) (dC : Nat → ClassId) (dI : Nat → Nat → Nat) (a_u : Nat) (a_d : Nat) (a_b : Nat) (a_c : Nat) (a_q : Nat) (a_s : Nat) (k_d : ClassId) (k_b : ClassId) (k_c : ClassId) (k_q : ClassId) (k_s : ClassId) (fd : Nat → Int32) (g : Nat → Int32) (n : Nat → Nat) (f : Nat → Nat → Int32) (hI : n 0 < 8 ∧ n 1 < 9 ∧ n 2 < 16) (sz : Nat) : Met l yX2_takeKey (zq yX2_takeKey cX2_takeKey 2 (some .int)) ({ frames := 0, cells := 0, slots := 0, locals := 0 }) (va_Pc [.ref a_u] (zc_P (dC, dI) [(a_u, .inr (2, [.ref a_d, .ref a_b, .ref a_c, .ref a_q, .int (nI (n 0)), .int (nI (n 1)), .int (g 9), .int (g 10), .ref a_s, .int (nI (n 2)), .int (g 12)])), (a_d, .inl (k_d, 16, .inl fd)), (a_b, .inl (k_b, 16, .inl (f 2))), (a_c, .inl (k_c, 16, .inl (f 3))), (a_q, .inl (k_q, 8, .inl (f 4))), (a_s, .inl (k_s, 16, .inl (f 5)))] [(k_d, .boolean), (k_b, .boolean), (k_c, .boolean), (k_q, .int), (k_s, .int)] sz)) (va_Qi (fun (r : Int32) (u : (Nat → Int32) × (Nat → Nat) × (Nat → Nat → Int32)) => u.2.1 0 < 8 ∧ u.2.1 1 < 9 ∧ u.2.1 2 < 16) (fun (u : (Nat → Int32) × (Nat → Nat) × (Nat → Nat → Int32)) t9 => zc_B (dC, dI) (va_A [(a_u, .inr (2, [.ref a_d, .ref a_b, .ref a_c, .ref a_q, .int (nI (n 0)), .int (nI (n 1)), .int (g 9), .int (g 10), .ref a_s, .int (nI (n 2)), .int (g 12)])), (a_d, .inl (k_d, 16, .inl fd)), (a_b, .inl (k_b, 16, .inl (f 2))), (a_c, .inl (k_c, 16, .inl (f 3))), (a_q, .inl (k_q, 8, .inl (f 4))), (a_s, .inl (k_s, 16, .inl (f 5)))] sz) [(a_u, .inr (2, [.ref a_d, .ref a_b, .ref a_c, .ref a_q, .int (nI (u.2.1 0)), .int (nI (u.2.1 1)), .int (u.1 9), .int (u.1 10), .ref a_s, .int (nI (u.2.1 2)), .int (u.1 12)])), (a_d, .inl (k_d, 16, .inl fd)), (a_b, .inl (k_b, 16, .inl (u.2.2 2))), (a_c, .inl (k_c, 16, .inl (u.2.2 3))), (a_q, .inl (k_q, 8, .inl (u.2.2 4))), (a_s, .inl (k_s, 16, .inl (u.2.2 5)))] [(k_d, .boolean), (k_b, .boolean), (k_c, .boolean), (k_q, .int), (k_s, .int)] t9) (va_A [(a_u, .inr (2, [.ref a_d, .ref a_b, .ref a_c, .ref a_q, .int (nI (n 0)), .int (nI (n 1)), .int (g 9), .int (g 10), .ref a_s, .int (nI (n 2)), .int (g 12)])), (a_d, .inl (k_d, 16, .inl fd)), (a_b, .inl (k_b, 16, .inl (f 2))), (a_c, .inl (k_c, 16, .inl (f 3))), (a_q, .inl (k_q, 8, .inl (f 4))), (a_s, .inl (k_s, 16, .inl (f 5)))] sz)) 0 0 (va_A [(a_u, .inr (2, [.ref a_d, .ref a_b, .ref a_c, .ref a_q, .int (nI (n 0)), .int (nI (n 1)), .int (g 9), .int (g 10), .ref a_s, .int (nI (n 2)), .int (g 12)])), (a_d, .inl (k_d, 16, .inl fd)), (a_b, .inl (k_b, 16, .inl (f 2))), (a_c, .inl (k_c, 16, .inl (f 3))), (a_q, .inl (k_q, 8, .inl (f 4))), (a_s, .inl (k_s, 16, .inl (f 5)))] sz) := by
  refine Met.ofW (cc := cX2_takeKey) (maxL := 2) (ret := (some .int)) (by decide) rfl ?_
  intro p e s m args below meth c s₁ B hml hv
  obtain ⟨rfl, hsz, hP, hK, hD0, hN⟩ := hv
  have hx := B.exec
  have hb := B.bytes
  have hr := B.returns
  have hts : ∀ w ∈ zw, w.before _ s = true := fun w h => atoms_spec (ws := (zq yX2_takeKey cX2_takeKey 2 (some .int))) B.pre w (List.mem_cons_of_mem _ h)
  have hown : s.vm.findClass RX2 = some m.cls := findClass_of_methodNamed B.named
  have hlocks := B.notSynchronized
  subst hsz
  have hD := hD0.self (sz := s.heap.size)
  generalize hAe : va_A [(a_u, .inr (2, [.ref a_d, .ref a_b, .ref a_c, .ref a_q, .int (nI (n 0)), .int (nI (n 1)), .int (g 9), .int (g 10), .ref a_s, .int (nI (n 2)), .int (g 12)])), (a_d, .inl (k_d, 16, .inl fd)), (a_b, .inl (k_b, 16, .inl (f 2))), (a_c, .inl (k_c, 16, .inl (f 3))), (a_q, .inl (k_q, 8, .inl (f 4))), (a_s, .inl (k_s, 16, .inl (f 5)))] s.heap.size = A at hD ⊢
  have hA : ∀ q : Nat, s.heap.size ≤ q → A q := fun q h => by rw [← hAe]; exact Or.inr h
  have hS : va_S A s.heap s.heap [] := va_S.rf
  have hP : va_P (dC, dI) vwCl [(a_u, .inr (2, [.ref a_d, .ref a_b, .ref a_c, .ref a_q, .int (nI (n 0)), .int (nI (n 1)), .int (g 9), .int (g 10), .ref a_s, .int (nI (n 2)), .int (g 12)])), (a_d, .inl (k_d, 16, .inl fd)), (a_b, .inl (k_b, 16, .inl (f 2))), (a_c, .inl (k_c, 16, .inl (f 3))), (a_q, .inl (k_q, 8, .inl (f 4))), (a_s, .inl (k_s, 16, .inl (f 5)))] s.heap := hP
  have hl := lv_entry ([.ref a_u]) (n := 2) (Nat.le_of_ble_eq_true rfl)
  rw [lg_entry_eq]
  generalize (lg_sl ([.ref a_u]) ++ List.replicate (2 - (lg_sl ([.ref a_u])).length) Slot.unset).toArray = ls at hl ⊢
  have hl : lv_has ls 2 [(0, .ref a_u)] := hl
  refine lv_aload_n hx hb dX2_takeKey_0 rfl (lv_at hl 0 rfl) ?_
  refine va_get (D := (dC, dI)) (ci := 2) (v := .int (nI (n 1))) (C := RX2) (T := TX2) (N := 11) hx hb hts zx_2 hown hK hP 0 rfl rfl 5 (by decide) (hts (.fieldLink RX2 32 "KeyboardKit$KeyUnit" "queued" "I") zw_150) (fun _ h9 => h9) rfl dX2_takeKey_1 ?_
  by_cases h_1 : (n 1) = 0
  · refine lv_if_ne (tgt := 14) hx hb dX2_takeKey_4 (by decide) (fun c_1 => absurd (show nI (n 1) = nI 0 from (nI_eq (a := (n 1)) (b := 0) (by omega) (by omega)).mpr h_1) c_1) (fun c_1 => ?_)
    refine lv_aload_n hx hb dX2_takeKey_7 rfl (lv_at hl 0 rfl) ?_
    refine lv_iconst (v := 1) hx hb dX2_takeKey_8 (by decide) ?_
    refine va_put (D := (dC, dI)) (ci := 2) (v := .int 1) (ty := .boolean) (C := RX2) (T := TX2) (N := 11) hx hb hts zx_2 tyX2 tyX2_ok nmX2 hown hK hP hD hS 0 rfl rfl 6 (by decide) (hts (.fieldLink RX2 35 "KeyboardKit$KeyUnit" "underrun" "Z") zw_152) (fun _ h9 => h9) rfl (by decide +kernel) rfl rfl (Nat.le_of_ble_eq_true rfl) dX2_takeKey_9 (fun H locs hP hD hS => ?_)
    have hP : va_P (dC, dI) vwCl [(a_u, .inr (2, [.ref a_d, .ref a_b, .ref a_c, .ref a_q, .int (nI (n 0)), .int (nI (n 1)), .int 1, .int (g 10), .ref a_s, .int (nI (n 2)), .int (g 12)])), (a_d, .inl (k_d, 16, .inl fd)), (a_b, .inl (k_b, 16, .inl (f 2))), (a_c, .inl (k_c, 16, .inl (f 3))), (a_q, .inl (k_q, 8, .inl (f 4))), (a_s, .inl (k_s, 16, .inl (f 5)))] H := hP
    have hD : va_D A [(a_u, .inr (2, [.ref a_d, .ref a_b, .ref a_c, .ref a_q, .int (nI (n 0)), .int (nI (n 1)), .int 1, .int (g 10), .ref a_s, .int (nI (n 2)), .int (g 12)])), (a_d, .inl (k_d, 16, .inl fd)), (a_b, .inl (k_b, 16, .inl (f 2))), (a_c, .inl (k_c, 16, .inl (f 3))), (a_q, .inl (k_q, 8, .inl (f 4))), (a_s, .inl (k_s, 16, .inl (f 5)))] := hD
    refine lv_iconst (v := 0) hx hb dX2_takeKey_12 (by decide) ?_
    have hP9 := hP.sub (ws' := [(a_u, .inr (2, [.ref a_d, .ref a_b, .ref a_c, .ref a_q, .int (nI (n 0)), .int (nI (n 1)), .int 1, .int (g 10), .ref a_s, .int (nI (n 2)), .int (g 12)])), (a_d, .inl (k_d, 16, .inl fd)), (a_b, .inl (k_b, 16, .inl (f 2))), (a_c, .inl (k_c, 16, .inl (f 3))), (a_q, .inl (k_q, 8, .inl (f 4))), (a_s, .inl (k_s, 16, .inl (f 5)))]) [0, 1, 2, 3, 4, 5] rfl
    have hD9 := hD.sub (ws' := [(a_u, .inr (2, [.ref a_d, .ref a_b, .ref a_c, .ref a_q, .int (nI (n 0)), .int (nI (n 1)), .int 1, .int (g 10), .ref a_s, .int (nI (n 2)), .int (g 12)])), (a_d, .inl (k_d, 16, .inl fd)), (a_b, .inl (k_b, 16, .inl (f 2))), (a_c, .inl (k_c, 16, .inl (f 3))), (a_q, .inl (k_q, 8, .inl (f 4))), (a_s, .inl (k_s, 16, .inl (f 5)))]) [0, 1, 2, 3, 4, 5] (by decide) rfl
    have hK9 := hK.sub (tys' := [(k_d, .boolean), (k_b, .boolean), (k_c, .boolean), (k_q, .int), (k_s, .int)]) [0, 1, 2, 3, 4] rfl
    exact W.iret (v := 0) hx hb hr (fun t9 ht hW => ⟨⟨0, ((fun k9 => match k9 with | 9 => 1 | 10 => g 10 | _ => g 12), (n), (f)), rfl, ⟨(show n 0 < 8 by omega), (show n 1 < 9 by omega), (show n 2 < 16 by omega)⟩, by rw [ht]; exact hP9, va_K.moved hW.alike hK9, hD9⟩, hS.F ht⟩) hS.2.2 dX2_takeKey_13
  · refine lv_if_ne (tgt := 14) hx hb dX2_takeKey_4 (by decide) (fun c_1 => ?_) (fun c_1 => absurd c_1 (show ¬ nI (n 1) = nI 0 from fun q => h_1 ((nI_eq (a := (n 1)) (b := 0) (by omega) (by omega)).mp q)))
    refine lv_aload_n hx hb dX2_takeKey_14 rfl (lv_at hl 0 rfl) ?_
    refine va_get (D := (dC, dI)) (ci := 2) (v := .ref a_q) (C := RX2) (T := TX2) (N := 11) hx hb hts zx_2 hown hK hP 0 rfl rfl 3 (by decide) (hts (.fieldLink RX2 21 "KeyboardKit$KeyUnit" "queue" "[I") zw_148) (fun _ h9 => h9) rfl dX2_takeKey_15 ?_
    refine lv_aload_n hx hb dX2_takeKey_18 rfl (lv_at hl 0 rfl) ?_
    refine va_get (D := (dC, dI)) (ci := 2) (v := .int (nI (n 0))) (C := RX2) (T := TX2) (N := 11) hx hb hts zx_2 hown hK hP 0 rfl rfl 4 (by decide) (hts (.fieldLink RX2 39 "KeyboardKit$KeyUnit" "queueStart" "I") zw_149) (fun _ h9 => h9) rfl dX2_takeKey_19 ?_
    refine va_iald hx hb hK hP 4 3 rfl rfl (vp_in_nI (show n 0 < 8 by omega) (by decide)) dX2_takeKey_22 ?_
    refine lv_topi (fun v_2 ev_2 => ?_)
    refine lv_istore_n (lv' := [(1, .int v_2), (0, .ref a_u)]) hx hb dX2_takeKey_23 rfl hl (by decide) rfl (fun ls hl => ?_)
    refine lv_aload_n hx hb dX2_takeKey_24 rfl (lv_at hl 1 rfl) ?_
    refine lv_aload_n hx hb dX2_takeKey_25 rfl (lv_at hl 1 rfl) ?_
    refine va_get (D := (dC, dI)) (ci := 2) (v := .int (nI (n 0))) (C := RX2) (T := TX2) (N := 11) hx hb hts zx_2 hown hK hP 0 rfl rfl 4 (by decide) (hts (.fieldLink RX2 39 "KeyboardKit$KeyUnit" "queueStart" "I") zw_149) (fun _ h9 => h9) rfl dX2_takeKey_26 ?_
    refine lv_iconst (v := 1) hx hb dX2_takeKey_29 (by decide) ?_
    refine lv_iadd hx hb dX2_takeKey_30 ?_
    refine lv_topi (fun v_3 ev_3 => ?_)
    obtain rfl : v_3 = nI ((n 0) + 1) := ev_3.trans (nI_add (n 0) 1)
    refine lv_bipush (v := 8) hx hb dX2_takeKey_31 (by decide) ?_
    refine lv_irem hx hb dX2_takeKey_33 (by decide) ?_
    refine lv_topi (fun v_4 ev_4 => ?_)
    obtain rfl : v_4 = nI (((n 0) + 1) % 8) := ev_4.trans (pk_rem (d := 8) (by omega) (by decide) (by decide))
    refine va_put (D := (dC, dI)) (ci := 2) (v := .int (nI (((n 0) + 1) % 8))) (ty := .int) (C := RX2) (T := TX2) (N := 11) hx hb hts zx_2 tyX2 tyX2_ok nmX2 hown hK hP hD hS 0 rfl rfl 4 (by decide) (hts (.fieldLink RX2 39 "KeyboardKit$KeyUnit" "queueStart" "I") zw_149) (fun _ h9 => h9) rfl (by decide +kernel) rfl rfl (Nat.le_of_ble_eq_true rfl) dX2_takeKey_34 (fun H locs hP hD hS => ?_)
    have hP : va_P (dC, dI) vwCl [(a_u, .inr (2, [.ref a_d, .ref a_b, .ref a_c, .ref a_q, .int (nI (((n 0) + 1) % 8)), .int (nI (n 1)), .int (g 9), .int (g 10), .ref a_s, .int (nI (n 2)), .int (g 12)])), (a_d, .inl (k_d, 16, .inl fd)), (a_b, .inl (k_b, 16, .inl (f 2))), (a_c, .inl (k_c, 16, .inl (f 3))), (a_q, .inl (k_q, 8, .inl (f 4))), (a_s, .inl (k_s, 16, .inl (f 5)))] H := hP
    have hD : va_D A [(a_u, .inr (2, [.ref a_d, .ref a_b, .ref a_c, .ref a_q, .int (nI (((n 0) + 1) % 8)), .int (nI (n 1)), .int (g 9), .int (g 10), .ref a_s, .int (nI (n 2)), .int (g 12)])), (a_d, .inl (k_d, 16, .inl fd)), (a_b, .inl (k_b, 16, .inl (f 2))), (a_c, .inl (k_c, 16, .inl (f 3))), (a_q, .inl (k_q, 8, .inl (f 4))), (a_s, .inl (k_s, 16, .inl (f 5)))] := hD
    refine lv_aload_n hx hb dX2_takeKey_37 rfl (lv_at hl 1 rfl) ?_
    refine lv_dup hx hb dX2_takeKey_38 rfl ?_
    refine va_get (D := (dC, dI)) (ci := 2) (v := .int (nI (n 1))) (C := RX2) (T := TX2) (N := 11) hx hb hts zx_2 hown hK hP 0 rfl rfl 5 (by decide) (hts (.fieldLink RX2 32 "KeyboardKit$KeyUnit" "queued" "I") zw_150) (fun _ h9 => h9) rfl dX2_takeKey_39 ?_
    refine lv_iconst (v := 1) hx hb dX2_takeKey_42 (by decide) ?_
    refine lv_isub hx hb dX2_takeKey_43 ?_
    refine lv_topi (fun v_5 ev_5 => ?_)
    obtain rfl : v_5 = nI ((n 1) - 1) := ev_5.trans (pk_sub (a := (n 1)) (b := 1) (by omega))
    refine va_put (D := (dC, dI)) (ci := 2) (v := .int (nI ((n 1) - 1))) (ty := .int) (C := RX2) (T := TX2) (N := 11) hx hb hts zx_2 tyX2 tyX2_ok nmX2 hown hK hP hD hS 0 rfl rfl 5 (by decide) (hts (.fieldLink RX2 32 "KeyboardKit$KeyUnit" "queued" "I") zw_150) (fun _ h9 => h9) rfl (by decide +kernel) rfl rfl (Nat.le_of_ble_eq_true rfl) dX2_takeKey_44 (fun H locs hP hD hS => ?_)
    have hP : va_P (dC, dI) vwCl [(a_u, .inr (2, [.ref a_d, .ref a_b, .ref a_c, .ref a_q, .int (nI (((n 0) + 1) % 8)), .int (nI ((n 1) - 1)), .int (g 9), .int (g 10), .ref a_s, .int (nI (n 2)), .int (g 12)])), (a_d, .inl (k_d, 16, .inl fd)), (a_b, .inl (k_b, 16, .inl (f 2))), (a_c, .inl (k_c, 16, .inl (f 3))), (a_q, .inl (k_q, 8, .inl (f 4))), (a_s, .inl (k_s, 16, .inl (f 5)))] H := hP
    have hD : va_D A [(a_u, .inr (2, [.ref a_d, .ref a_b, .ref a_c, .ref a_q, .int (nI (((n 0) + 1) % 8)), .int (nI ((n 1) - 1)), .int (g 9), .int (g 10), .ref a_s, .int (nI (n 2)), .int (g 12)])), (a_d, .inl (k_d, 16, .inl fd)), (a_b, .inl (k_b, 16, .inl (f 2))), (a_c, .inl (k_c, 16, .inl (f 3))), (a_q, .inl (k_q, 8, .inl (f 4))), (a_s, .inl (k_s, 16, .inl (f 5)))] := hD
    refine lv_iload_n hx hb dX2_takeKey_47 rfl (lv_at hl 0 rfl) ?_
    have hP9 := hP.sub (ws' := [(a_u, .inr (2, [.ref a_d, .ref a_b, .ref a_c, .ref a_q, .int (nI (((n 0) + 1) % 8)), .int (nI ((n 1) - 1)), .int (g 9), .int (g 10), .ref a_s, .int (nI (n 2)), .int (g 12)])), (a_d, .inl (k_d, 16, .inl fd)), (a_b, .inl (k_b, 16, .inl (f 2))), (a_c, .inl (k_c, 16, .inl (f 3))), (a_q, .inl (k_q, 8, .inl (f 4))), (a_s, .inl (k_s, 16, .inl (f 5)))]) [0, 1, 2, 3, 4, 5] rfl
    have hD9 := hD.sub (ws' := [(a_u, .inr (2, [.ref a_d, .ref a_b, .ref a_c, .ref a_q, .int (nI (((n 0) + 1) % 8)), .int (nI ((n 1) - 1)), .int (g 9), .int (g 10), .ref a_s, .int (nI (n 2)), .int (g 12)])), (a_d, .inl (k_d, 16, .inl fd)), (a_b, .inl (k_b, 16, .inl (f 2))), (a_c, .inl (k_c, 16, .inl (f 3))), (a_q, .inl (k_q, 8, .inl (f 4))), (a_s, .inl (k_s, 16, .inl (f 5)))]) [0, 1, 2, 3, 4, 5] (by decide) rfl
    have hK9 := hK.sub (tys' := [(k_d, .boolean), (k_b, .boolean), (k_c, .boolean), (k_q, .int), (k_s, .int)]) [0, 1, 2, 3, 4] rfl
    exact W.iret (v := v_2) hx hb hr (fun t9 ht hW => ⟨⟨v_2, ((g), (fun k9 => match k9 with | 0 => ((n 0) + 1) % 8 | 1 => (n 1) - 1 | _ => n 2), (f)), rfl, ⟨(show ((n 0) + 1) % 8 < 8 by omega), (show (n 1) - 1 < 9 by omega), (show n 2 < 16 by omega)⟩, by rw [ht]; exact hP9, va_K.moved hW.alike hK9, hD9⟩, hS.F ht⟩) hS.2.2 dX2_takeKey_48
set_option maxHeartbeats 4000000 in
set_option maxRecDepth 100000 in
theorem g_X2_show (l : Launch) (dC : Nat → ClassId) (dI : Nat → Nat → Nat) (a_u : Nat) (a_d : Nat) (a_b : Nat) (a_c : Nat) (a_q : Nat) (a_s : Nat) (k_d : ClassId) (k_b : ClassId) (k_c : ClassId) (k_q : ClassId) (k_s : ClassId) (fd : Nat → Int32) (g : Nat → Int32) (n : Nat → Nat) (f : Nat → Nat → Int32) (p0 : Int32) (hI : n 0 < 8 ∧ n 1 < 9 ∧ n 2 < 16) (sz : Nat) : Met l yX2_show (zq yX2_show cX2_show 2 none) ({ frames := 0, cells := 0, slots := 0, locals := 0 }) (va_Pc [.ref a_u, .int p0] (zc_P (dC, dI) [(a_u, .inr (2, [.ref a_d, .ref a_b, .ref a_c, .ref a_q, .int (nI (n 0)), .int (nI (n 1)), .int (g 9), .int (g 10), .ref a_s, .int (nI (n 2)), .int (g 12)])), (a_d, .inl (k_d, 16, .inl fd)), (a_b, .inl (k_b, 16, .inl (f 2))), (a_c, .inl (k_c, 16, .inl (f 3))), (a_q, .inl (k_q, 8, .inl (f 4))), (a_s, .inl (k_s, 16, .inl (f 5)))] [(k_d, .boolean), (k_b, .boolean), (k_c, .boolean), (k_q, .int), (k_s, .int)] sz)) (va_Qv (fun (u : (Nat → Int32) × (Nat → Nat) × (Nat → Nat → Int32)) => u.2.1 0 < 8 ∧ u.2.1 1 < 9 ∧ u.2.1 2 < 16) (fun (u : (Nat → Int32) × (Nat → Nat) × (Nat → Nat → Int32)) t9 => zc_B (dC, dI) (va_A [(a_u, .inr (2, [.ref a_d, .ref a_b, .ref a_c, .ref a_q, .int (nI (n 0)), .int (nI (n 1)), .int (g 9), .int (g 10), .ref a_s, .int (nI (n 2)), .int (g 12)])), (a_d, .inl (k_d, 16, .inl fd)), (a_b, .inl (k_b, 16, .inl (f 2))), (a_c, .inl (k_c, 16, .inl (f 3))), (a_q, .inl (k_q, 8, .inl (f 4))), (a_s, .inl (k_s, 16, .inl (f 5)))] sz) [(a_u, .inr (2, [.ref a_d, .ref a_b, .ref a_c, .ref a_q, .int (nI (u.2.1 0)), .int (nI (u.2.1 1)), .int (u.1 9), .int (u.1 10), .ref a_s, .int (nI (u.2.1 2)), .int (u.1 12)])), (a_d, .inl (k_d, 16, .inl fd)), (a_b, .inl (k_b, 16, .inl (u.2.2 2))), (a_c, .inl (k_c, 16, .inl (u.2.2 3))), (a_q, .inl (k_q, 8, .inl (u.2.2 4))), (a_s, .inl (k_s, 16, .inl (u.2.2 5)))] [(k_d, .boolean), (k_b, .boolean), (k_c, .boolean), (k_q, .int), (k_s, .int)] t9) (va_A [(a_u, .inr (2, [.ref a_d, .ref a_b, .ref a_c, .ref a_q, .int (nI (n 0)), .int (nI (n 1)), .int (g 9), .int (g 10), .ref a_s, .int (nI (n 2)), .int (g 12)])), (a_d, .inl (k_d, 16, .inl fd)), (a_b, .inl (k_b, 16, .inl (f 2))), (a_c, .inl (k_c, 16, .inl (f 3))), (a_q, .inl (k_q, 8, .inl (f 4))), (a_s, .inl (k_s, 16, .inl (f 5)))] sz)) 0 0 (va_A [(a_u, .inr (2, [.ref a_d, .ref a_b, .ref a_c, .ref a_q, .int (nI (n 0)), .int (nI (n 1)), .int (g 9), .int (g 10), .ref a_s, .int (nI (n 2)), .int (g 12)])), (a_d, .inl (k_d, 16, .inl fd)), (a_b, .inl (k_b, 16, .inl (f 2))), (a_c, .inl (k_c, 16, .inl (f 3))), (a_q, .inl (k_q, 8, .inl (f 4))), (a_s, .inl (k_s, 16, .inl (f 5)))] sz) := by
  refine Met.ofW (cc := cX2_show) (maxL := 2) (ret := none) (by decide) rfl ?_
  intro p e s m args below meth c s₁ B hml hv
  obtain ⟨rfl, hsz, hP, hK, hD0, hN⟩ := hv
  have hx := B.exec
  have hb := B.bytes
  have hr := B.returns
  have hts : ∀ w ∈ zw, w.before _ s = true := fun w h => atoms_spec (ws := (zq yX2_show cX2_show 2 none)) B.pre w (List.mem_cons_of_mem _ h)
  have hown : s.vm.findClass RX2 = some m.cls := findClass_of_methodNamed B.named
  have hlocks := B.notSynchronized
  subst hsz
  have hD := hD0.self (sz := s.heap.size)
  generalize hAe : va_A [(a_u, .inr (2, [.ref a_d, .ref a_b, .ref a_c, .ref a_q, .int (nI (n 0)), .int (nI (n 1)), .int (g 9), .int (g 10), .ref a_s, .int (nI (n 2)), .int (g 12)])), (a_d, .inl (k_d, 16, .inl fd)), (a_b, .inl (k_b, 16, .inl (f 2))), (a_c, .inl (k_c, 16, .inl (f 3))), (a_q, .inl (k_q, 8, .inl (f 4))), (a_s, .inl (k_s, 16, .inl (f 5)))] s.heap.size = A at hD ⊢
  have hA : ∀ q : Nat, s.heap.size ≤ q → A q := fun q h => by rw [← hAe]; exact Or.inr h
  have hS : va_S A s.heap s.heap [] := va_S.rf
  have hP : va_P (dC, dI) vwCl [(a_u, .inr (2, [.ref a_d, .ref a_b, .ref a_c, .ref a_q, .int (nI (n 0)), .int (nI (n 1)), .int (g 9), .int (g 10), .ref a_s, .int (nI (n 2)), .int (g 12)])), (a_d, .inl (k_d, 16, .inl fd)), (a_b, .inl (k_b, 16, .inl (f 2))), (a_c, .inl (k_c, 16, .inl (f 3))), (a_q, .inl (k_q, 8, .inl (f 4))), (a_s, .inl (k_s, 16, .inl (f 5)))] s.heap := hP
  have hl := lv_entry ([.ref a_u, .int p0]) (n := 2) (Nat.le_of_ble_eq_true rfl)
  rw [lg_entry_eq]
  generalize (lg_sl ([.ref a_u, .int p0]) ++ List.replicate (2 - (lg_sl ([.ref a_u, .int p0])).length) Slot.unset).toArray = ls at hl ⊢
  have hl : lv_has ls 2 [(0, .ref a_u), (1, .int p0)] := hl
  refine lv_aload_n hx hb dX2_show_0 rfl (lv_at hl 0 rfl) ?_
  refine va_get (D := (dC, dI)) (ci := 2) (v := .ref a_s) (C := RX2) (T := TX2) (N := 11) hx hb hts zx_2 hown hK hP 0 rfl rfl 8 (by decide) (hts (.fieldLink RX2 25 "KeyboardKit$KeyUnit" "display" "[I") zw_154) (fun _ h9 => h9) rfl dX2_show_1 ?_
  refine lv_aload_n hx hb dX2_show_4 rfl (lv_at hl 0 rfl) ?_
  refine va_get (D := (dC, dI)) (ci := 2) (v := .int (nI (n 2))) (C := RX2) (T := TX2) (N := 11) hx hb hts zx_2 hown hK hP 0 rfl rfl 9 (by decide) (hts (.fieldLink RX2 42 "KeyboardKit$KeyUnit" "place" "I") zw_156) (fun _ h9 => h9) rfl dX2_show_5 ?_
  refine lv_iload_n hx hb dX2_show_8 rfl (lv_at hl 1 rfl) ?_
  refine va_iast hx hb hK hP hD hS 5 4 rfl rfl (vp_in_nI (show n 2 < 16 by omega) (by decide)) dX2_show_9 (fun H locs hP hD hS => ?_)
  have hP : va_P (dC, dI) vwCl [(a_u, .inr (2, [.ref a_d, .ref a_b, .ref a_c, .ref a_q, .int (nI (n 0)), .int (nI (n 1)), .int (g 9), .int (g 10), .ref a_s, .int (nI (n 2)), .int (g 12)])), (a_d, .inl (k_d, 16, .inl fd)), (a_b, .inl (k_b, 16, .inl (f 2))), (a_c, .inl (k_c, 16, .inl (f 3))), (a_q, .inl (k_q, 8, .inl (f 4))), (a_s, .inl (k_s, 16, .inl (upd (f 5) (nI (n 2) : Int32).toNatClampNeg p0)))] H := hP
  have hD : va_D A [(a_u, .inr (2, [.ref a_d, .ref a_b, .ref a_c, .ref a_q, .int (nI (n 0)), .int (nI (n 1)), .int (g 9), .int (g 10), .ref a_s, .int (nI (n 2)), .int (g 12)])), (a_d, .inl (k_d, 16, .inl fd)), (a_b, .inl (k_b, 16, .inl (f 2))), (a_c, .inl (k_c, 16, .inl (f 3))), (a_q, .inl (k_q, 8, .inl (f 4))), (a_s, .inl (k_s, 16, .inl (upd (f 5) (nI (n 2) : Int32).toNatClampNeg p0)))] := hD
  refine lv_aload_n hx hb dX2_show_10 rfl (lv_at hl 0 rfl) ?_
  refine lv_aload_n hx hb dX2_show_11 rfl (lv_at hl 0 rfl) ?_
  refine va_get (D := (dC, dI)) (ci := 2) (v := .int (nI (n 2))) (C := RX2) (T := TX2) (N := 11) hx hb hts zx_2 hown hK hP 0 rfl rfl 9 (by decide) (hts (.fieldLink RX2 42 "KeyboardKit$KeyUnit" "place" "I") zw_156) (fun _ h9 => h9) rfl dX2_show_12 ?_
  refine lv_iconst (v := 1) hx hb dX2_show_15 (by decide) ?_
  refine lv_iadd hx hb dX2_show_16 ?_
  refine lv_topi (fun v_1 ev_1 => ?_)
  obtain rfl : v_1 = nI ((n 2) + 1) := ev_1.trans (nI_add (n 2) 1)
  refine lv_bipush (v := 16) hx hb dX2_show_17 (by decide) ?_
  refine lv_irem hx hb dX2_show_19 (by decide) ?_
  refine lv_topi (fun v_2 ev_2 => ?_)
  obtain rfl : v_2 = nI (((n 2) + 1) % 16) := ev_2.trans (pk_rem (d := 16) (by omega) (by decide) (by decide))
  refine va_put (D := (dC, dI)) (ci := 2) (v := .int (nI (((n 2) + 1) % 16))) (ty := .int) (C := RX2) (T := TX2) (N := 11) hx hb hts zx_2 tyX2 tyX2_ok nmX2 hown hK hP hD hS 0 rfl rfl 9 (by decide) (hts (.fieldLink RX2 42 "KeyboardKit$KeyUnit" "place" "I") zw_156) (fun _ h9 => h9) rfl (by decide +kernel) rfl rfl (Nat.le_of_ble_eq_true rfl) dX2_show_20 (fun H locs hP hD hS => ?_)
  have hP : va_P (dC, dI) vwCl [(a_u, .inr (2, [.ref a_d, .ref a_b, .ref a_c, .ref a_q, .int (nI (n 0)), .int (nI (n 1)), .int (g 9), .int (g 10), .ref a_s, .int (nI (((n 2) + 1) % 16)), .int (g 12)])), (a_d, .inl (k_d, 16, .inl fd)), (a_b, .inl (k_b, 16, .inl (f 2))), (a_c, .inl (k_c, 16, .inl (f 3))), (a_q, .inl (k_q, 8, .inl (f 4))), (a_s, .inl (k_s, 16, .inl (upd (f 5) (nI (n 2) : Int32).toNatClampNeg p0)))] H := hP
  have hD : va_D A [(a_u, .inr (2, [.ref a_d, .ref a_b, .ref a_c, .ref a_q, .int (nI (n 0)), .int (nI (n 1)), .int (g 9), .int (g 10), .ref a_s, .int (nI (((n 2) + 1) % 16)), .int (g 12)])), (a_d, .inl (k_d, 16, .inl fd)), (a_b, .inl (k_b, 16, .inl (f 2))), (a_c, .inl (k_c, 16, .inl (f 3))), (a_q, .inl (k_q, 8, .inl (f 4))), (a_s, .inl (k_s, 16, .inl (upd (f 5) (nI (n 2) : Int32).toNatClampNeg p0)))] := hD
  have hP9 := hP.sub (ws' := [(a_u, .inr (2, [.ref a_d, .ref a_b, .ref a_c, .ref a_q, .int (nI (n 0)), .int (nI (n 1)), .int (g 9), .int (g 10), .ref a_s, .int (nI (((n 2) + 1) % 16)), .int (g 12)])), (a_d, .inl (k_d, 16, .inl fd)), (a_b, .inl (k_b, 16, .inl (f 2))), (a_c, .inl (k_c, 16, .inl (f 3))), (a_q, .inl (k_q, 8, .inl (f 4))), (a_s, .inl (k_s, 16, .inl (upd (f 5) (nI (n 2) : Int32).toNatClampNeg p0)))]) [0, 1, 2, 3, 4, 5] rfl
  have hD9 := hD.sub (ws' := [(a_u, .inr (2, [.ref a_d, .ref a_b, .ref a_c, .ref a_q, .int (nI (n 0)), .int (nI (n 1)), .int (g 9), .int (g 10), .ref a_s, .int (nI (((n 2) + 1) % 16)), .int (g 12)])), (a_d, .inl (k_d, 16, .inl fd)), (a_b, .inl (k_b, 16, .inl (f 2))), (a_c, .inl (k_c, 16, .inl (f 3))), (a_q, .inl (k_q, 8, .inl (f 4))), (a_s, .inl (k_s, 16, .inl (upd (f 5) (nI (n 2) : Int32).toNatClampNeg p0)))]) [0, 1, 2, 3, 4, 5] (by decide) rfl
  have hK9 := hK.sub (tys' := [(k_d, .boolean), (k_b, .boolean), (k_c, .boolean), (k_q, .int), (k_s, .int)]) [0, 1, 2, 3, 4] rfl
  exact W.vret hx hb hr (fun t9 ht hW => ⟨⟨((g), (fun k9 => match k9 with | 0 => n 0 | 1 => n 1 | _ => ((n 2) + 1) % 16), (fun k9 => match k9 with | 2 => f 2 | 3 => f 3 | 4 => f 4 | _ => upd (f 5) (nI (n 2) : Int32).toNatClampNeg p0)), rfl, ⟨(show n 0 < 8 by omega), (show n 1 < 9 by omega), (show ((n 2) + 1) % 16 < 16 by omega)⟩, by rw [ht]; exact hP9, va_K.moved hW.alike hK9, hD9⟩, hS.F ht⟩) hS.2.2 dX2_show_23
set_option maxHeartbeats 4000000 in
set_option maxRecDepth 100000 in
theorem g_X2_status (l : Launch) (dC : Nat → ClassId) (dI : Nat → Nat → Nat) (a_u : Nat) (a_d : Nat) (a_b : Nat) (a_c : Nat) (a_q : Nat) (a_s : Nat) (k_d : ClassId) (k_b : ClassId) (k_c : ClassId) (k_q : ClassId) (k_s : ClassId) (fd : Nat → Int32) (g : Nat → Int32) (n : Nat → Nat) (f : Nat → Nat → Int32) (hI : n 0 < 8 ∧ n 1 < 9 ∧ n 2 < 16) (sz : Nat) : Met l yX2_status (zq yX2_status cX2_status 1 (some .int)) ({ frames := 0, cells := 0, slots := 0, locals := 0 }) (va_Pc [.ref a_u] (zc_P (dC, dI) [(a_u, .inr (2, [.ref a_d, .ref a_b, .ref a_c, .ref a_q, .int (nI (n 0)), .int (nI (n 1)), .int (g 9), .int (g 10), .ref a_s, .int (nI (n 2)), .int (g 12)])), (a_d, .inl (k_d, 16, .inl fd)), (a_b, .inl (k_b, 16, .inl (f 2))), (a_c, .inl (k_c, 16, .inl (f 3))), (a_q, .inl (k_q, 8, .inl (f 4))), (a_s, .inl (k_s, 16, .inl (f 5)))] [(k_d, .boolean), (k_b, .boolean), (k_c, .boolean), (k_q, .int), (k_s, .int)] sz)) (va_Qi (fun (r : Int32) (u : (Nat → Int32) × (Nat → Nat) × (Nat → Nat → Int32)) => u.2.1 0 < 8 ∧ u.2.1 1 < 9 ∧ u.2.1 2 < 16) (fun (u : (Nat → Int32) × (Nat → Nat) × (Nat → Nat → Int32)) t9 => zc_B (dC, dI) (va_A [(a_u, .inr (2, [.ref a_d, .ref a_b, .ref a_c, .ref a_q, .int (nI (n 0)), .int (nI (n 1)), .int (g 9), .int (g 10), .ref a_s, .int (nI (n 2)), .int (g 12)])), (a_d, .inl (k_d, 16, .inl fd)), (a_b, .inl (k_b, 16, .inl (f 2))), (a_c, .inl (k_c, 16, .inl (f 3))), (a_q, .inl (k_q, 8, .inl (f 4))), (a_s, .inl (k_s, 16, .inl (f 5)))] sz) [(a_u, .inr (2, [.ref a_d, .ref a_b, .ref a_c, .ref a_q, .int (nI (u.2.1 0)), .int (nI (u.2.1 1)), .int (u.1 9), .int (u.1 10), .ref a_s, .int (nI (u.2.1 2)), .int (u.1 12)])), (a_d, .inl (k_d, 16, .inl fd)), (a_b, .inl (k_b, 16, .inl (u.2.2 2))), (a_c, .inl (k_c, 16, .inl (u.2.2 3))), (a_q, .inl (k_q, 8, .inl (u.2.2 4))), (a_s, .inl (k_s, 16, .inl (u.2.2 5)))] [(k_d, .boolean), (k_b, .boolean), (k_c, .boolean), (k_q, .int), (k_s, .int)] t9) (va_A [(a_u, .inr (2, [.ref a_d, .ref a_b, .ref a_c, .ref a_q, .int (nI (n 0)), .int (nI (n 1)), .int (g 9), .int (g 10), .ref a_s, .int (nI (n 2)), .int (g 12)])), (a_d, .inl (k_d, 16, .inl fd)), (a_b, .inl (k_b, 16, .inl (f 2))), (a_c, .inl (k_c, 16, .inl (f 3))), (a_q, .inl (k_q, 8, .inl (f 4))), (a_s, .inl (k_s, 16, .inl (f 5)))] sz)) 0 0 (va_A [(a_u, .inr (2, [.ref a_d, .ref a_b, .ref a_c, .ref a_q, .int (nI (n 0)), .int (nI (n 1)), .int (g 9), .int (g 10), .ref a_s, .int (nI (n 2)), .int (g 12)])), (a_d, .inl (k_d, 16, .inl fd)), (a_b, .inl (k_b, 16, .inl (f 2))), (a_c, .inl (k_c, 16, .inl (f 3))), (a_q, .inl (k_q, 8, .inl (f 4))), (a_s, .inl (k_s, 16, .inl (f 5)))] sz) := by
  refine Met.ofW (cc := cX2_status) (maxL := 1) (ret := (some .int)) (by decide) rfl ?_
  intro p e s m args below meth c s₁ B hml hv
  obtain ⟨rfl, hsz, hP, hK, hD0, hN⟩ := hv
  have hx := B.exec
  have hb := B.bytes
  have hr := B.returns
  have hts : ∀ w ∈ zw, w.before _ s = true := fun w h => atoms_spec (ws := (zq yX2_status cX2_status 1 (some .int))) B.pre w (List.mem_cons_of_mem _ h)
  have hown : s.vm.findClass RX2 = some m.cls := findClass_of_methodNamed B.named
  have hlocks := B.notSynchronized
  subst hsz
  have hD := hD0.self (sz := s.heap.size)
  generalize hAe : va_A [(a_u, .inr (2, [.ref a_d, .ref a_b, .ref a_c, .ref a_q, .int (nI (n 0)), .int (nI (n 1)), .int (g 9), .int (g 10), .ref a_s, .int (nI (n 2)), .int (g 12)])), (a_d, .inl (k_d, 16, .inl fd)), (a_b, .inl (k_b, 16, .inl (f 2))), (a_c, .inl (k_c, 16, .inl (f 3))), (a_q, .inl (k_q, 8, .inl (f 4))), (a_s, .inl (k_s, 16, .inl (f 5)))] s.heap.size = A at hD ⊢
  have hA : ∀ q : Nat, s.heap.size ≤ q → A q := fun q h => by rw [← hAe]; exact Or.inr h
  have hS : va_S A s.heap s.heap [] := va_S.rf
  have hP : va_P (dC, dI) vwCl [(a_u, .inr (2, [.ref a_d, .ref a_b, .ref a_c, .ref a_q, .int (nI (n 0)), .int (nI (n 1)), .int (g 9), .int (g 10), .ref a_s, .int (nI (n 2)), .int (g 12)])), (a_d, .inl (k_d, 16, .inl fd)), (a_b, .inl (k_b, 16, .inl (f 2))), (a_c, .inl (k_c, 16, .inl (f 3))), (a_q, .inl (k_q, 8, .inl (f 4))), (a_s, .inl (k_s, 16, .inl (f 5)))] s.heap := hP
  have hl := lv_entry ([.ref a_u]) (n := 1) (Nat.le_of_ble_eq_true rfl)
  rw [lg_entry_eq]
  generalize (lg_sl ([.ref a_u]) ++ List.replicate (1 - (lg_sl ([.ref a_u])).length) Slot.unset).toArray = ls at hl ⊢
  have hl : lv_has ls 1 [(0, .ref a_u)] := hl
  refine lv_aload_n hx hb dX2_status_0 rfl (lv_at hl 0 rfl) ?_
  refine va_get (D := (dC, dI)) (ci := 2) (v := .int (nI (n 1))) (C := RX2) (T := TX2) (N := 11) hx hb hts zx_2 hown hK hP 0 rfl rfl 5 (by decide) (hts (.fieldLink RX2 32 "KeyboardKit$KeyUnit" "queued" "I") zw_150) (fun _ h9 => h9) rfl dX2_status_1 ?_
  refine lv_bipush (v := 7) hx hb dX2_status_4 (by decide) ?_
  refine lv_iand hx hb dX2_status_6 ?_
  refine lv_topi (fun v_1 ev_1 => ?_)
  obtain ⟨j_1, hj_1, ej_1⟩ := pk_andE (nI (n 1)) (m := 7) 3 (by decide)
  obtain rfl : v_1 = nI j_1 := ev_1.trans ej_1
  have hj_1 : j_1 < 8 := hj_1
  refine lv_aload_n hx hb dX2_status_7 rfl (lv_at hl 0 rfl) ?_
  refine va_get (D := (dC, dI)) (ci := 2) (v := .int (nI (n 1))) (C := RX2) (T := TX2) (N := 11) hx hb hts zx_2 hown hK hP 0 rfl rfl 5 (by decide) (hts (.fieldLink RX2 32 "KeyboardKit$KeyUnit" "queued" "I") zw_150) (fun _ h9 => h9) rfl dX2_status_8 ?_
  refine lv_bipush (v := 8) hx hb dX2_status_11 (by decide) ?_
  have join_4 : ∀ (x_3 : Nat) (hx_3 : x_3 < 9) (H : Heap) (locs : List Loc) (ls : Array Slot), va_P (dC, dI) vwCl [(a_u, .inr (2, [.ref a_d, .ref a_b, .ref a_c, .ref a_q, .int (nI (n 0)), .int (nI (n 1)), .int (g 9), .int (g 10), .ref a_s, .int (nI (n 2)), .int (g 12)])), (a_d, .inl (k_d, 16, .inl fd)), (a_b, .inl (k_b, 16, .inl (f 2))), (a_c, .inl (k_c, 16, .inl (f 3))), (a_q, .inl (k_q, 8, .inl (f 4))), (a_s, .inl (k_s, 16, .inl (f 5)))] H → va_D A [(a_u, .inr (2, [.ref a_d, .ref a_b, .ref a_c, .ref a_q, .int (nI (n 0)), .int (nI (n 1)), .int (g 9), .int (g 10), .ref a_s, .int (nI (n 2)), .int (g 12)])), (a_d, .inl (k_d, 16, .inl fd)), (a_b, .inl (k_b, 16, .inl (f 2))), (a_c, .inl (k_c, 16, .inl (f 3))), (a_q, .inl (k_q, 8, .inl (f 4))), (a_s, .inl (k_s, 16, .inl (f 5)))] → va_S A s.heap H locs → lv_has ls 1 [(0, .ref a_u)] → W p l e (headSpec (zq yX2_status cX2_status 1 (some .int)) ({ frames := 0, cells := 0, slots := 0, locals := 0 })).room s m ([.ref a_u] : List Value).toArray below meth c H locs 0 0 (MQ below (va_Qi (fun (r : Int32) (u : (Nat → Int32) × (Nat → Nat) × (Nat → Nat → Int32)) => u.2.1 0 < 8 ∧ u.2.1 1 < 9 ∧ u.2.1 2 < 16) (fun (u : (Nat → Int32) × (Nat → Nat) × (Nat → Nat → Int32)) t9 => zc_B (dC, dI) A [(a_u, .inr (2, [.ref a_d, .ref a_b, .ref a_c, .ref a_q, .int (nI (u.2.1 0)), .int (nI (u.2.1 1)), .int (u.1 9), .int (u.1 10), .ref a_s, .int (nI (u.2.1 2)), .int (u.1 12)])), (a_d, .inl (k_d, 16, .inl fd)), (a_b, .inl (k_b, 16, .inl (u.2.2 2))), (a_c, .inl (k_c, 16, .inl (u.2.2 3))), (a_q, .inl (k_q, 8, .inl (u.2.2 4))), (a_s, .inl (k_s, 16, .inl (u.2.2 5)))] [(k_d, .boolean), (k_b, .boolean), (k_c, .boolean), (k_q, .int), (k_s, .int)] t9) A) ([.ref a_u] : List Value).toArray s 0 0 A) (F0 m 22 ls [.int (nI x_3), .int (nI j_1)]) := by
    intro x_3 hx_3 H locs ls hP hD hS hl
    refine lv_iadd hx hb dX2_status_22 ?_
    refine lv_topi (fun v_5 ev_5 => ?_)
    obtain rfl : v_5 = nI (j_1 + x_3) := ev_5.trans (nI_add j_1 x_3)
    refine lv_aload_n hx hb dX2_status_23 rfl (lv_at hl 0 rfl) ?_
    refine va_get (D := (dC, dI)) (ci := 2) (v := .int (g 9)) (C := RX2) (T := TX2) (N := 11) hx hb hts zx_2 hown hK hP 0 rfl rfl 6 (by decide) (hts (.fieldLink RX2 35 "KeyboardKit$KeyUnit" "underrun" "Z") zw_152) (fun _ h9 => h9) rfl dX2_status_24 ?_
    have join_8 : ∀ (x_7 : Nat) (hx_7 : x_7 < 17) (H : Heap) (locs : List Loc) (ls : Array Slot), va_P (dC, dI) vwCl [(a_u, .inr (2, [.ref a_d, .ref a_b, .ref a_c, .ref a_q, .int (nI (n 0)), .int (nI (n 1)), .int (g 9), .int (g 10), .ref a_s, .int (nI (n 2)), .int (g 12)])), (a_d, .inl (k_d, 16, .inl fd)), (a_b, .inl (k_b, 16, .inl (f 2))), (a_c, .inl (k_c, 16, .inl (f 3))), (a_q, .inl (k_q, 8, .inl (f 4))), (a_s, .inl (k_s, 16, .inl (f 5)))] H → va_D A [(a_u, .inr (2, [.ref a_d, .ref a_b, .ref a_c, .ref a_q, .int (nI (n 0)), .int (nI (n 1)), .int (g 9), .int (g 10), .ref a_s, .int (nI (n 2)), .int (g 12)])), (a_d, .inl (k_d, 16, .inl fd)), (a_b, .inl (k_b, 16, .inl (f 2))), (a_c, .inl (k_c, 16, .inl (f 3))), (a_q, .inl (k_q, 8, .inl (f 4))), (a_s, .inl (k_s, 16, .inl (f 5)))] → va_S A s.heap H locs → lv_has ls 1 [(0, .ref a_u)] → W p l e (headSpec (zq yX2_status cX2_status 1 (some .int)) ({ frames := 0, cells := 0, slots := 0, locals := 0 })).room s m ([.ref a_u] : List Value).toArray below meth c H locs 0 0 (MQ below (va_Qi (fun (r : Int32) (u : (Nat → Int32) × (Nat → Nat) × (Nat → Nat → Int32)) => u.2.1 0 < 8 ∧ u.2.1 1 < 9 ∧ u.2.1 2 < 16) (fun (u : (Nat → Int32) × (Nat → Nat) × (Nat → Nat → Int32)) t9 => zc_B (dC, dI) A [(a_u, .inr (2, [.ref a_d, .ref a_b, .ref a_c, .ref a_q, .int (nI (u.2.1 0)), .int (nI (u.2.1 1)), .int (u.1 9), .int (u.1 10), .ref a_s, .int (nI (u.2.1 2)), .int (u.1 12)])), (a_d, .inl (k_d, 16, .inl fd)), (a_b, .inl (k_b, 16, .inl (u.2.2 2))), (a_c, .inl (k_c, 16, .inl (u.2.2 3))), (a_q, .inl (k_q, 8, .inl (u.2.2 4))), (a_s, .inl (k_s, 16, .inl (u.2.2 5)))] [(k_d, .boolean), (k_b, .boolean), (k_c, .boolean), (k_q, .int), (k_s, .int)] t9) A) ([.ref a_u] : List Value).toArray s 0 0 A) (F0 m 36 ls [.int (nI x_7), .int (nI (j_1 + x_3))]) := by
      intro x_7 hx_7 H locs ls hP hD hS hl
      refine lv_iadd hx hb dX2_status_36 ?_
      refine lv_topi (fun v_9 ev_9 => ?_)
      obtain rfl : v_9 = nI ((j_1 + x_3) + x_7) := ev_9.trans (nI_add (j_1 + x_3) x_7)
      refine lv_aload_n hx hb dX2_status_37 rfl (lv_at hl 0 rfl) ?_
      refine va_get (D := (dC, dI)) (ci := 2) (v := .int (g 10)) (C := RX2) (T := TX2) (N := 11) hx hb hts zx_2 hown hK hP 0 rfl rfl 7 (by decide) (hts (.fieldLink RX2 48 "KeyboardKit$KeyUnit" "overrun" "Z") zw_153) (fun _ h9 => h9) rfl dX2_status_38 ?_
      have join_12 : ∀ (x_11 : Nat) (hx_11 : x_11 < 33) (H : Heap) (locs : List Loc) (ls : Array Slot), va_P (dC, dI) vwCl [(a_u, .inr (2, [.ref a_d, .ref a_b, .ref a_c, .ref a_q, .int (nI (n 0)), .int (nI (n 1)), .int (g 9), .int (g 10), .ref a_s, .int (nI (n 2)), .int (g 12)])), (a_d, .inl (k_d, 16, .inl fd)), (a_b, .inl (k_b, 16, .inl (f 2))), (a_c, .inl (k_c, 16, .inl (f 3))), (a_q, .inl (k_q, 8, .inl (f 4))), (a_s, .inl (k_s, 16, .inl (f 5)))] H → va_D A [(a_u, .inr (2, [.ref a_d, .ref a_b, .ref a_c, .ref a_q, .int (nI (n 0)), .int (nI (n 1)), .int (g 9), .int (g 10), .ref a_s, .int (nI (n 2)), .int (g 12)])), (a_d, .inl (k_d, 16, .inl fd)), (a_b, .inl (k_b, 16, .inl (f 2))), (a_c, .inl (k_c, 16, .inl (f 3))), (a_q, .inl (k_q, 8, .inl (f 4))), (a_s, .inl (k_s, 16, .inl (f 5)))] → va_S A s.heap H locs → lv_has ls 1 [(0, .ref a_u)] → W p l e (headSpec (zq yX2_status cX2_status 1 (some .int)) ({ frames := 0, cells := 0, slots := 0, locals := 0 })).room s m ([.ref a_u] : List Value).toArray below meth c H locs 0 0 (MQ below (va_Qi (fun (r : Int32) (u : (Nat → Int32) × (Nat → Nat) × (Nat → Nat → Int32)) => u.2.1 0 < 8 ∧ u.2.1 1 < 9 ∧ u.2.1 2 < 16) (fun (u : (Nat → Int32) × (Nat → Nat) × (Nat → Nat → Int32)) t9 => zc_B (dC, dI) A [(a_u, .inr (2, [.ref a_d, .ref a_b, .ref a_c, .ref a_q, .int (nI (u.2.1 0)), .int (nI (u.2.1 1)), .int (u.1 9), .int (u.1 10), .ref a_s, .int (nI (u.2.1 2)), .int (u.1 12)])), (a_d, .inl (k_d, 16, .inl fd)), (a_b, .inl (k_b, 16, .inl (u.2.2 2))), (a_c, .inl (k_c, 16, .inl (u.2.2 3))), (a_q, .inl (k_q, 8, .inl (u.2.2 4))), (a_s, .inl (k_s, 16, .inl (u.2.2 5)))] [(k_d, .boolean), (k_b, .boolean), (k_c, .boolean), (k_q, .int), (k_s, .int)] t9) A) ([.ref a_u] : List Value).toArray s 0 0 A) (F0 m 50 ls [.int (nI x_11), .int (nI ((j_1 + x_3) + x_7))]) := by
        intro x_11 hx_11 H locs ls hP hD hS hl
        refine lv_iadd hx hb dX2_status_50 ?_
        refine lv_topi (fun v_13 ev_13 => ?_)
        obtain rfl : v_13 = nI (((j_1 + x_3) + x_7) + x_11) := ev_13.trans (nI_add ((j_1 + x_3) + x_7) x_11)
        have hP9 := hP.sub (ws' := [(a_u, .inr (2, [.ref a_d, .ref a_b, .ref a_c, .ref a_q, .int (nI (n 0)), .int (nI (n 1)), .int (g 9), .int (g 10), .ref a_s, .int (nI (n 2)), .int (g 12)])), (a_d, .inl (k_d, 16, .inl fd)), (a_b, .inl (k_b, 16, .inl (f 2))), (a_c, .inl (k_c, 16, .inl (f 3))), (a_q, .inl (k_q, 8, .inl (f 4))), (a_s, .inl (k_s, 16, .inl (f 5)))]) [0, 1, 2, 3, 4, 5] rfl
        have hD9 := hD.sub (ws' := [(a_u, .inr (2, [.ref a_d, .ref a_b, .ref a_c, .ref a_q, .int (nI (n 0)), .int (nI (n 1)), .int (g 9), .int (g 10), .ref a_s, .int (nI (n 2)), .int (g 12)])), (a_d, .inl (k_d, 16, .inl fd)), (a_b, .inl (k_b, 16, .inl (f 2))), (a_c, .inl (k_c, 16, .inl (f 3))), (a_q, .inl (k_q, 8, .inl (f 4))), (a_s, .inl (k_s, 16, .inl (f 5)))]) [0, 1, 2, 3, 4, 5] (by decide) rfl
        have hK9 := hK.sub (tys' := [(k_d, .boolean), (k_b, .boolean), (k_c, .boolean), (k_q, .int), (k_s, .int)]) [0, 1, 2, 3, 4] rfl
        exact W.iret (v := (nI (((j_1 + x_3) + x_7) + x_11))) hx hb hr (fun t9 ht hW => ⟨⟨(nI (((j_1 + x_3) + x_7) + x_11)), ((g), (n), (f)), rfl, ⟨(show n 0 < 8 by omega), (show n 1 < 9 by omega), (show n 2 < 16 by omega)⟩, by rw [ht]; exact hP9, va_K.moved hW.alike hK9, hD9⟩, hS.F ht⟩) hS.2.2 dX2_status_51
      refine lv_if_eq (tgt := 49) hx hb dX2_status_41 (by decide) (fun c_10 => ?_) (fun c_10 => ?_)
      · refine lv_iconst (v := 0) hx hb dX2_status_49 (by decide) ?_
        exact join_12 0 (by omega) _ _ _ (hP.sub [0, 1, 2, 3, 4, 5] rfl) (hD.sub [0, 1, 2, 3, 4, 5] (by decide) rfl) hS (lv_sub hl [0] rfl)
      · refine lv_bipush (v := 32) hx hb dX2_status_44 (by decide) ?_
        refine lv_goto (tgt := 50) hx hb dX2_status_46 (by decide) ?_
        exact join_12 32 (by omega) _ _ _ (hP.sub [0, 1, 2, 3, 4, 5] rfl) (hD.sub [0, 1, 2, 3, 4, 5] (by decide) rfl) hS (lv_sub hl [0] rfl)
    refine lv_if_eq (tgt := 35) hx hb dX2_status_27 (by decide) (fun c_6 => ?_) (fun c_6 => ?_)
    · refine lv_iconst (v := 0) hx hb dX2_status_35 (by decide) ?_
      exact join_8 0 (by omega) _ _ _ (hP.sub [0, 1, 2, 3, 4, 5] rfl) (hD.sub [0, 1, 2, 3, 4, 5] (by decide) rfl) hS (lv_sub hl [0] rfl)
    · refine lv_bipush (v := 16) hx hb dX2_status_30 (by decide) ?_
      refine lv_goto (tgt := 36) hx hb dX2_status_32 (by decide) ?_
      exact join_8 16 (by omega) _ _ _ (hP.sub [0, 1, 2, 3, 4, 5] rfl) (hD.sub [0, 1, 2, 3, 4, 5] (by decide) rfl) hS (lv_sub hl [0] rfl)
  by_cases h_2 : (n 1) = 8
  · refine lv_icmp_ne (tgt := 21) hx hb dX2_status_13 (by decide) (fun c_2 => absurd (show nI (n 1) = nI 8 from (nI_eq (a := (n 1)) (b := 8) (by omega) (by omega)).mpr h_2) c_2) (fun c_2 => ?_)
    refine lv_bipush (v := 8) hx hb dX2_status_16 (by decide) ?_
    refine lv_goto (tgt := 22) hx hb dX2_status_18 (by decide) ?_
    exact join_4 8 (by omega) _ _ _ (hP.sub [0, 1, 2, 3, 4, 5] rfl) (hD.sub [0, 1, 2, 3, 4, 5] (by decide) rfl) hS (lv_sub hl [0] rfl)
  · refine lv_icmp_ne (tgt := 21) hx hb dX2_status_13 (by decide) (fun c_2 => ?_) (fun c_2 => absurd c_2 (show ¬ nI (n 1) = nI 8 from fun q => h_2 ((nI_eq (a := (n 1)) (b := 8) (by omega) (by omega)).mp q)))
    refine lv_iconst (v := 0) hx hb dX2_status_21 (by decide) ?_
    exact join_4 0 (by omega) _ _ _ (hP.sub [0, 1, 2, 3, 4, 5] rfl) (hD.sub [0, 1, 2, 3, 4, 5] (by decide) rfl) hS (lv_sub hl [0] rfl)
set_option maxHeartbeats 4000000 in
set_option maxRecDepth 100000 in
theorem g_X2_enqueue (l : Launch) (dC : Nat → ClassId) (dI : Nat → Nat → Nat) (a_u : Nat) (a_d : Nat) (a_b : Nat) (a_c : Nat) (a_q : Nat) (a_s : Nat) (k_d : ClassId) (k_b : ClassId) (k_c : ClassId) (k_q : ClassId) (k_s : ClassId) (fd : Nat → Int32) (g : Nat → Int32) (n : Nat → Nat) (f : Nat → Nat → Int32) (k : Nat) (hI : n 0 < 8 ∧ n 1 < 9 ∧ n 2 < 16) (hj : k < 16) (sz : Nat) : Met l yX2_enqueue (zq yX2_enqueue cX2_enqueue 2 none) ({ frames := 0, cells := 0, slots := 0, locals := 0 }) (va_Pc [.ref a_u, .int (nI k)] (zc_P (dC, dI) [(a_u, .inr (2, [.ref a_d, .ref a_b, .ref a_c, .ref a_q, .int (nI (n 0)), .int (nI (n 1)), .int (g 9), .int (g 10), .ref a_s, .int (nI (n 2)), .int (g 12)])), (a_d, .inl (k_d, 16, .inl fd)), (a_b, .inl (k_b, 16, .inl (f 2))), (a_c, .inl (k_c, 16, .inl (f 3))), (a_q, .inl (k_q, 8, .inl (f 4))), (a_s, .inl (k_s, 16, .inl (f 5)))] [(k_d, .boolean), (k_b, .boolean), (k_c, .boolean), (k_q, .int), (k_s, .int)] sz)) (va_Qv (fun (u : (Nat → Int32) × (Nat → Nat) × (Nat → Nat → Int32)) => u.2.1 0 < 8 ∧ u.2.1 1 < 9 ∧ u.2.1 2 < 16) (fun (u : (Nat → Int32) × (Nat → Nat) × (Nat → Nat → Int32)) t9 => zc_B (dC, dI) (va_A [(a_u, .inr (2, [.ref a_d, .ref a_b, .ref a_c, .ref a_q, .int (nI (n 0)), .int (nI (n 1)), .int (g 9), .int (g 10), .ref a_s, .int (nI (n 2)), .int (g 12)])), (a_d, .inl (k_d, 16, .inl fd)), (a_b, .inl (k_b, 16, .inl (f 2))), (a_c, .inl (k_c, 16, .inl (f 3))), (a_q, .inl (k_q, 8, .inl (f 4))), (a_s, .inl (k_s, 16, .inl (f 5)))] sz) [(a_u, .inr (2, [.ref a_d, .ref a_b, .ref a_c, .ref a_q, .int (nI (u.2.1 0)), .int (nI (u.2.1 1)), .int (u.1 9), .int (u.1 10), .ref a_s, .int (nI (u.2.1 2)), .int (u.1 12)])), (a_d, .inl (k_d, 16, .inl fd)), (a_b, .inl (k_b, 16, .inl (u.2.2 2))), (a_c, .inl (k_c, 16, .inl (u.2.2 3))), (a_q, .inl (k_q, 8, .inl (u.2.2 4))), (a_s, .inl (k_s, 16, .inl (u.2.2 5)))] [(k_d, .boolean), (k_b, .boolean), (k_c, .boolean), (k_q, .int), (k_s, .int)] t9) (va_A [(a_u, .inr (2, [.ref a_d, .ref a_b, .ref a_c, .ref a_q, .int (nI (n 0)), .int (nI (n 1)), .int (g 9), .int (g 10), .ref a_s, .int (nI (n 2)), .int (g 12)])), (a_d, .inl (k_d, 16, .inl fd)), (a_b, .inl (k_b, 16, .inl (f 2))), (a_c, .inl (k_c, 16, .inl (f 3))), (a_q, .inl (k_q, 8, .inl (f 4))), (a_s, .inl (k_s, 16, .inl (f 5)))] sz)) 0 0 (va_A [(a_u, .inr (2, [.ref a_d, .ref a_b, .ref a_c, .ref a_q, .int (nI (n 0)), .int (nI (n 1)), .int (g 9), .int (g 10), .ref a_s, .int (nI (n 2)), .int (g 12)])), (a_d, .inl (k_d, 16, .inl fd)), (a_b, .inl (k_b, 16, .inl (f 2))), (a_c, .inl (k_c, 16, .inl (f 3))), (a_q, .inl (k_q, 8, .inl (f 4))), (a_s, .inl (k_s, 16, .inl (f 5)))] sz) := by
  refine Met.ofW (cc := cX2_enqueue) (maxL := 2) (ret := none) (by decide) rfl ?_
  intro p e s m args below meth c s₁ B hml hv
  obtain ⟨rfl, hsz, hP, hK, hD0, hN⟩ := hv
  have hx := B.exec
  have hb := B.bytes
  have hr := B.returns
  have hts : ∀ w ∈ zw, w.before _ s = true := fun w h => atoms_spec (ws := (zq yX2_enqueue cX2_enqueue 2 none)) B.pre w (List.mem_cons_of_mem _ h)
  have hown : s.vm.findClass RX2 = some m.cls := findClass_of_methodNamed B.named
  have hlocks := B.notSynchronized
  subst hsz
  have hD := hD0.self (sz := s.heap.size)
  generalize hAe : va_A [(a_u, .inr (2, [.ref a_d, .ref a_b, .ref a_c, .ref a_q, .int (nI (n 0)), .int (nI (n 1)), .int (g 9), .int (g 10), .ref a_s, .int (nI (n 2)), .int (g 12)])), (a_d, .inl (k_d, 16, .inl fd)), (a_b, .inl (k_b, 16, .inl (f 2))), (a_c, .inl (k_c, 16, .inl (f 3))), (a_q, .inl (k_q, 8, .inl (f 4))), (a_s, .inl (k_s, 16, .inl (f 5)))] s.heap.size = A at hD ⊢
  have hA : ∀ q : Nat, s.heap.size ≤ q → A q := fun q h => by rw [← hAe]; exact Or.inr h
  have hS : va_S A s.heap s.heap [] := va_S.rf
  have hP : va_P (dC, dI) vwCl [(a_u, .inr (2, [.ref a_d, .ref a_b, .ref a_c, .ref a_q, .int (nI (n 0)), .int (nI (n 1)), .int (g 9), .int (g 10), .ref a_s, .int (nI (n 2)), .int (g 12)])), (a_d, .inl (k_d, 16, .inl fd)), (a_b, .inl (k_b, 16, .inl (f 2))), (a_c, .inl (k_c, 16, .inl (f 3))), (a_q, .inl (k_q, 8, .inl (f 4))), (a_s, .inl (k_s, 16, .inl (f 5)))] s.heap := hP
  have hl := lv_entry ([.ref a_u, .int (nI k)]) (n := 2) (Nat.le_of_ble_eq_true rfl)
  rw [lg_entry_eq]
  generalize (lg_sl ([.ref a_u, .int (nI k)]) ++ List.replicate (2 - (lg_sl ([.ref a_u, .int (nI k)])).length) Slot.unset).toArray = ls at hl ⊢
  have hl : lv_has ls 2 [(0, .ref a_u), (1, .int (nI k))] := hl
  refine lv_aload_n hx hb dX2_enqueue_0 rfl (lv_at hl 0 rfl) ?_
  refine va_get (D := (dC, dI)) (ci := 2) (v := .int (nI (n 1))) (C := RX2) (T := TX2) (N := 11) hx hb hts zx_2 hown hK hP 0 rfl rfl 5 (by decide) (hts (.fieldLink RX2 32 "KeyboardKit$KeyUnit" "queued" "I") zw_150) (fun _ h9 => h9) rfl dX2_enqueue_1 ?_
  refine lv_bipush (v := 8) hx hb dX2_enqueue_4 (by decide) ?_
  have join_8 : ∀ (x_5 : Nat) (hx_5 : x_5 < 9) (x_6 : Int32) (f_7 : Nat → Int32) (H : Heap) (locs : List Loc) (ls : Array Slot), va_P (dC, dI) vwCl [(a_u, .inr (2, [.ref a_d, .ref a_b, .ref a_c, .ref a_q, .int (nI (n 0)), .int (nI x_5), .int (g 9), .int x_6, .ref a_s, .int (nI (n 2)), .int (g 12)])), (a_d, .inl (k_d, 16, .inl fd)), (a_b, .inl (k_b, 16, .inl (f 2))), (a_c, .inl (k_c, 16, .inl (f 3))), (a_q, .inl (k_q, 8, .inl f_7)), (a_s, .inl (k_s, 16, .inl (f 5)))] H → va_D A [(a_u, .inr (2, [.ref a_d, .ref a_b, .ref a_c, .ref a_q, .int (nI (n 0)), .int (nI x_5), .int (g 9), .int x_6, .ref a_s, .int (nI (n 2)), .int (g 12)])), (a_d, .inl (k_d, 16, .inl fd)), (a_b, .inl (k_b, 16, .inl (f 2))), (a_c, .inl (k_c, 16, .inl (f 3))), (a_q, .inl (k_q, 8, .inl f_7)), (a_s, .inl (k_s, 16, .inl (f 5)))] → va_S A s.heap H locs → lv_has ls 2 [(0, .ref a_u), (1, .int (nI k))] → W p l e (headSpec (zq yX2_enqueue cX2_enqueue 2 none) ({ frames := 0, cells := 0, slots := 0, locals := 0 })).room s m ([.ref a_u, .int (nI k)] : List Value).toArray below meth c H locs 0 0 (MQ below (va_Qv (fun (u : (Nat → Int32) × (Nat → Nat) × (Nat → Nat → Int32)) => u.2.1 0 < 8 ∧ u.2.1 1 < 9 ∧ u.2.1 2 < 16) (fun (u : (Nat → Int32) × (Nat → Nat) × (Nat → Nat → Int32)) t9 => zc_B (dC, dI) A [(a_u, .inr (2, [.ref a_d, .ref a_b, .ref a_c, .ref a_q, .int (nI (u.2.1 0)), .int (nI (u.2.1 1)), .int (u.1 9), .int (u.1 10), .ref a_s, .int (nI (u.2.1 2)), .int (u.1 12)])), (a_d, .inl (k_d, 16, .inl fd)), (a_b, .inl (k_b, 16, .inl (u.2.2 2))), (a_c, .inl (k_c, 16, .inl (u.2.2 3))), (a_q, .inl (k_q, 8, .inl (u.2.2 4))), (a_s, .inl (k_s, 16, .inl (u.2.2 5)))] [(k_d, .boolean), (k_b, .boolean), (k_c, .boolean), (k_q, .int), (k_s, .int)] t9) A) ([.ref a_u, .int (nI k)] : List Value).toArray s 0 0 A) (F0 m 45 ls []) := by
    intro x_5 hx_5 x_6 f_7 H locs ls hP hD hS hl
    have hP9 := hP.sub (ws' := [(a_u, .inr (2, [.ref a_d, .ref a_b, .ref a_c, .ref a_q, .int (nI (n 0)), .int (nI x_5), .int (g 9), .int x_6, .ref a_s, .int (nI (n 2)), .int (g 12)])), (a_d, .inl (k_d, 16, .inl fd)), (a_b, .inl (k_b, 16, .inl (f 2))), (a_c, .inl (k_c, 16, .inl (f 3))), (a_q, .inl (k_q, 8, .inl f_7)), (a_s, .inl (k_s, 16, .inl (f 5)))]) [0, 1, 2, 3, 4, 5] rfl
    have hD9 := hD.sub (ws' := [(a_u, .inr (2, [.ref a_d, .ref a_b, .ref a_c, .ref a_q, .int (nI (n 0)), .int (nI x_5), .int (g 9), .int x_6, .ref a_s, .int (nI (n 2)), .int (g 12)])), (a_d, .inl (k_d, 16, .inl fd)), (a_b, .inl (k_b, 16, .inl (f 2))), (a_c, .inl (k_c, 16, .inl (f 3))), (a_q, .inl (k_q, 8, .inl f_7)), (a_s, .inl (k_s, 16, .inl (f 5)))]) [0, 1, 2, 3, 4, 5] (by decide) rfl
    have hK9 := hK.sub (tys' := [(k_d, .boolean), (k_b, .boolean), (k_c, .boolean), (k_q, .int), (k_s, .int)]) [0, 1, 2, 3, 4] rfl
    exact W.vret hx hb hr (fun t9 ht hW => ⟨⟨((fun k9 => match k9 with | 9 => g 9 | 10 => x_6 | _ => g 12), (fun k9 => match k9 with | 0 => n 0 | 1 => x_5 | _ => n 2), (fun k9 => match k9 with | 2 => f 2 | 3 => f 3 | 4 => f_7 | _ => f 5)), rfl, ⟨(show n 0 < 8 by omega), (show x_5 < 9 by omega), (show n 2 < 16 by omega)⟩, by rw [ht]; exact hP9, va_K.moved hW.alike hK9, hD9⟩, hS.F ht⟩) hS.2.2 dX2_enqueue_45
  by_cases h_1 : 8 ≤ (n 1)
  · refine lv_icmp_ge (tgt := 40) hx hb dX2_enqueue_6 (by decide) (fun c_1 => ?_) (fun c_1 => absurd (show nI 8 ≤ nI (n 1) from (nI_leI (a := 8) (b := (n 1)) (by omega) (by omega)).mpr h_1) c_1)
    refine lv_aload_n hx hb dX2_enqueue_40 rfl (lv_at hl 0 rfl) ?_
    refine lv_iconst (v := 1) hx hb dX2_enqueue_41 (by decide) ?_
    refine va_put (D := (dC, dI)) (ci := 2) (v := .int 1) (ty := .boolean) (C := RX2) (T := TX2) (N := 11) hx hb hts zx_2 tyX2 tyX2_ok nmX2 hown hK hP hD hS 0 rfl rfl 7 (by decide) (hts (.fieldLink RX2 48 "KeyboardKit$KeyUnit" "overrun" "Z") zw_153) (fun _ h9 => h9) rfl (by decide +kernel) rfl rfl (Nat.le_of_ble_eq_true rfl) dX2_enqueue_42 (fun H locs hP hD hS => ?_)
    have hP : va_P (dC, dI) vwCl [(a_u, .inr (2, [.ref a_d, .ref a_b, .ref a_c, .ref a_q, .int (nI (n 0)), .int (nI (n 1)), .int (g 9), .int 1, .ref a_s, .int (nI (n 2)), .int (g 12)])), (a_d, .inl (k_d, 16, .inl fd)), (a_b, .inl (k_b, 16, .inl (f 2))), (a_c, .inl (k_c, 16, .inl (f 3))), (a_q, .inl (k_q, 8, .inl (f 4))), (a_s, .inl (k_s, 16, .inl (f 5)))] H := hP
    have hD : va_D A [(a_u, .inr (2, [.ref a_d, .ref a_b, .ref a_c, .ref a_q, .int (nI (n 0)), .int (nI (n 1)), .int (g 9), .int 1, .ref a_s, .int (nI (n 2)), .int (g 12)])), (a_d, .inl (k_d, 16, .inl fd)), (a_b, .inl (k_b, 16, .inl (f 2))), (a_c, .inl (k_c, 16, .inl (f 3))), (a_q, .inl (k_q, 8, .inl (f 4))), (a_s, .inl (k_s, 16, .inl (f 5)))] := hD
    exact join_8 (n 1) (by omega) 1 (f 4) _ _ _ (hP.sub [0, 1, 2, 3, 4, 5] rfl) (hD.sub [0, 1, 2, 3, 4, 5] (by decide) rfl) hS (lv_sub hl [0, 1] rfl)
  · refine lv_icmp_ge (tgt := 40) hx hb dX2_enqueue_6 (by decide) (fun c_1 => absurd c_1 (show ¬ nI 8 ≤ nI (n 1) from fun q => h_1 ((nI_leI (a := 8) (b := (n 1)) (by omega) (by omega)).mp q))) (fun c_1 => ?_)
    refine lv_aload_n hx hb dX2_enqueue_9 rfl (lv_at hl 0 rfl) ?_
    refine va_get (D := (dC, dI)) (ci := 2) (v := .ref a_q) (C := RX2) (T := TX2) (N := 11) hx hb hts zx_2 hown hK hP 0 rfl rfl 3 (by decide) (hts (.fieldLink RX2 21 "KeyboardKit$KeyUnit" "queue" "[I") zw_148) (fun _ h9 => h9) rfl dX2_enqueue_10 ?_
    refine lv_aload_n hx hb dX2_enqueue_13 rfl (lv_at hl 0 rfl) ?_
    refine va_get (D := (dC, dI)) (ci := 2) (v := .int (nI (n 0))) (C := RX2) (T := TX2) (N := 11) hx hb hts zx_2 hown hK hP 0 rfl rfl 4 (by decide) (hts (.fieldLink RX2 39 "KeyboardKit$KeyUnit" "queueStart" "I") zw_149) (fun _ h9 => h9) rfl dX2_enqueue_14 ?_
    refine lv_aload_n hx hb dX2_enqueue_17 rfl (lv_at hl 0 rfl) ?_
    refine va_get (D := (dC, dI)) (ci := 2) (v := .int (nI (n 1))) (C := RX2) (T := TX2) (N := 11) hx hb hts zx_2 hown hK hP 0 rfl rfl 5 (by decide) (hts (.fieldLink RX2 32 "KeyboardKit$KeyUnit" "queued" "I") zw_150) (fun _ h9 => h9) rfl dX2_enqueue_18 ?_
    refine lv_iadd hx hb dX2_enqueue_21 ?_
    refine lv_topi (fun v_9 ev_9 => ?_)
    obtain rfl : v_9 = nI ((n 0) + (n 1)) := ev_9.trans (nI_add (n 0) (n 1))
    refine lv_bipush (v := 8) hx hb dX2_enqueue_22 (by decide) ?_
    refine lv_irem hx hb dX2_enqueue_24 (by decide) ?_
    refine lv_topi (fun v_10 ev_10 => ?_)
    obtain rfl : v_10 = nI (((n 0) + (n 1)) % 8) := ev_10.trans (pk_rem (d := 8) (by omega) (by decide) (by decide))
    refine lv_iload_n hx hb dX2_enqueue_25 rfl (lv_at hl 1 rfl) ?_
    refine va_iast hx hb hK hP hD hS 4 3 rfl rfl (vp_in_nI (show ((n 0) + (n 1)) % 8 < 8 by omega) (by decide)) dX2_enqueue_26 (fun H locs hP hD hS => ?_)
    have hP : va_P (dC, dI) vwCl [(a_u, .inr (2, [.ref a_d, .ref a_b, .ref a_c, .ref a_q, .int (nI (n 0)), .int (nI (n 1)), .int (g 9), .int (g 10), .ref a_s, .int (nI (n 2)), .int (g 12)])), (a_d, .inl (k_d, 16, .inl fd)), (a_b, .inl (k_b, 16, .inl (f 2))), (a_c, .inl (k_c, 16, .inl (f 3))), (a_q, .inl (k_q, 8, .inl (upd (f 4) (nI (((n 0) + (n 1)) % 8) : Int32).toNatClampNeg (nI k)))), (a_s, .inl (k_s, 16, .inl (f 5)))] H := hP
    have hD : va_D A [(a_u, .inr (2, [.ref a_d, .ref a_b, .ref a_c, .ref a_q, .int (nI (n 0)), .int (nI (n 1)), .int (g 9), .int (g 10), .ref a_s, .int (nI (n 2)), .int (g 12)])), (a_d, .inl (k_d, 16, .inl fd)), (a_b, .inl (k_b, 16, .inl (f 2))), (a_c, .inl (k_c, 16, .inl (f 3))), (a_q, .inl (k_q, 8, .inl (upd (f 4) (nI (((n 0) + (n 1)) % 8) : Int32).toNatClampNeg (nI k)))), (a_s, .inl (k_s, 16, .inl (f 5)))] := hD
    refine lv_aload_n hx hb dX2_enqueue_27 rfl (lv_at hl 0 rfl) ?_
    refine lv_dup hx hb dX2_enqueue_28 rfl ?_
    refine va_get (D := (dC, dI)) (ci := 2) (v := .int (nI (n 1))) (C := RX2) (T := TX2) (N := 11) hx hb hts zx_2 hown hK hP 0 rfl rfl 5 (by decide) (hts (.fieldLink RX2 32 "KeyboardKit$KeyUnit" "queued" "I") zw_150) (fun _ h9 => h9) rfl dX2_enqueue_29 ?_
    refine lv_iconst (v := 1) hx hb dX2_enqueue_32 (by decide) ?_
    refine lv_iadd hx hb dX2_enqueue_33 ?_
    refine lv_topi (fun v_11 ev_11 => ?_)
    obtain rfl : v_11 = nI ((n 1) + 1) := ev_11.trans (nI_add (n 1) 1)
    refine va_put (D := (dC, dI)) (ci := 2) (v := .int (nI ((n 1) + 1))) (ty := .int) (C := RX2) (T := TX2) (N := 11) hx hb hts zx_2 tyX2 tyX2_ok nmX2 hown hK hP hD hS 0 rfl rfl 5 (by decide) (hts (.fieldLink RX2 32 "KeyboardKit$KeyUnit" "queued" "I") zw_150) (fun _ h9 => h9) rfl (by decide +kernel) rfl rfl (Nat.le_of_ble_eq_true rfl) dX2_enqueue_34 (fun H locs hP hD hS => ?_)
    have hP : va_P (dC, dI) vwCl [(a_u, .inr (2, [.ref a_d, .ref a_b, .ref a_c, .ref a_q, .int (nI (n 0)), .int (nI ((n 1) + 1)), .int (g 9), .int (g 10), .ref a_s, .int (nI (n 2)), .int (g 12)])), (a_d, .inl (k_d, 16, .inl fd)), (a_b, .inl (k_b, 16, .inl (f 2))), (a_c, .inl (k_c, 16, .inl (f 3))), (a_q, .inl (k_q, 8, .inl (upd (f 4) (nI (((n 0) + (n 1)) % 8) : Int32).toNatClampNeg (nI k)))), (a_s, .inl (k_s, 16, .inl (f 5)))] H := hP
    have hD : va_D A [(a_u, .inr (2, [.ref a_d, .ref a_b, .ref a_c, .ref a_q, .int (nI (n 0)), .int (nI ((n 1) + 1)), .int (g 9), .int (g 10), .ref a_s, .int (nI (n 2)), .int (g 12)])), (a_d, .inl (k_d, 16, .inl fd)), (a_b, .inl (k_b, 16, .inl (f 2))), (a_c, .inl (k_c, 16, .inl (f 3))), (a_q, .inl (k_q, 8, .inl (upd (f 4) (nI (((n 0) + (n 1)) % 8) : Int32).toNatClampNeg (nI k)))), (a_s, .inl (k_s, 16, .inl (f 5)))] := hD
    refine lv_goto (tgt := 45) hx hb dX2_enqueue_37 (by decide) ?_
    exact join_8 ((n 1) + 1) (by omega) (g 10) (upd (f 4) (nI (((n 0) + (n 1)) % 8) : Int32).toNatClampNeg (nI k)) _ _ _ (hP.sub [0, 1, 2, 3, 4, 5] rfl) (hD.sub [0, 1, 2, 3, 4, 5] (by decide) rfl) hS (lv_sub hl [0, 1] rfl)
set_option maxHeartbeats 4000000 in
set_option maxRecDepth 100000 in
theorem g_X2_scan (l : Launch) (dC : Nat → ClassId) (dI : Nat → Nat → Nat) (a_u : Nat) (a_d : Nat) (a_b : Nat) (a_c : Nat) (a_q : Nat) (a_s : Nat) (k_d : ClassId) (k_b : ClassId) (k_c : ClassId) (k_q : ClassId) (k_s : ClassId) (fd : Nat → Int32) (g : Nat → Int32) (n : Nat → Nat) (f : Nat → Nat → Int32) (k : Nat) (hI : n 0 < 8 ∧ n 1 < 9 ∧ n 2 < 16) (hj : k < 16) (sz : Nat) : Met l yX2_scan (zq yX2_scan cX2_scan 2 none) ({ frames := 1, cells := 0, slots := 0, locals := 21 }) (va_Pc [.ref a_u, .int (nI k)] (zc_P (dC, dI) [(a_u, .inr (2, [.ref a_d, .ref a_b, .ref a_c, .ref a_q, .int (nI (n 0)), .int (nI (n 1)), .int (g 9), .int (g 10), .ref a_s, .int (nI (n 2)), .int (g 12)])), (a_d, .inl (k_d, 16, .inl fd)), (a_b, .inl (k_b, 16, .inl (f 2))), (a_c, .inl (k_c, 16, .inl (f 3))), (a_q, .inl (k_q, 8, .inl (f 4))), (a_s, .inl (k_s, 16, .inl (f 5)))] [(k_d, .boolean), (k_b, .boolean), (k_c, .boolean), (k_q, .int), (k_s, .int)] sz)) (va_Qv (fun (u : (Nat → Int32) × (Nat → Nat) × (Nat → Nat → Int32)) => u.2.1 0 < 8 ∧ u.2.1 1 < 9 ∧ u.2.1 2 < 16) (fun (u : (Nat → Int32) × (Nat → Nat) × (Nat → Nat → Int32)) t9 => zc_B (dC, dI) (va_A [(a_u, .inr (2, [.ref a_d, .ref a_b, .ref a_c, .ref a_q, .int (nI (n 0)), .int (nI (n 1)), .int (g 9), .int (g 10), .ref a_s, .int (nI (n 2)), .int (g 12)])), (a_d, .inl (k_d, 16, .inl fd)), (a_b, .inl (k_b, 16, .inl (f 2))), (a_c, .inl (k_c, 16, .inl (f 3))), (a_q, .inl (k_q, 8, .inl (f 4))), (a_s, .inl (k_s, 16, .inl (f 5)))] sz) [(a_u, .inr (2, [.ref a_d, .ref a_b, .ref a_c, .ref a_q, .int (nI (u.2.1 0)), .int (nI (u.2.1 1)), .int (u.1 9), .int (u.1 10), .ref a_s, .int (nI (u.2.1 2)), .int (u.1 12)])), (a_d, .inl (k_d, 16, .inl fd)), (a_b, .inl (k_b, 16, .inl (u.2.2 2))), (a_c, .inl (k_c, 16, .inl (u.2.2 3))), (a_q, .inl (k_q, 8, .inl (u.2.2 4))), (a_s, .inl (k_s, 16, .inl (u.2.2 5)))] [(k_d, .boolean), (k_b, .boolean), (k_c, .boolean), (k_q, .int), (k_s, .int)] t9) (va_A [(a_u, .inr (2, [.ref a_d, .ref a_b, .ref a_c, .ref a_q, .int (nI (n 0)), .int (nI (n 1)), .int (g 9), .int (g 10), .ref a_s, .int (nI (n 2)), .int (g 12)])), (a_d, .inl (k_d, 16, .inl fd)), (a_b, .inl (k_b, 16, .inl (f 2))), (a_c, .inl (k_c, 16, .inl (f 3))), (a_q, .inl (k_q, 8, .inl (f 4))), (a_s, .inl (k_s, 16, .inl (f 5)))] sz)) 0 0 (va_A [(a_u, .inr (2, [.ref a_d, .ref a_b, .ref a_c, .ref a_q, .int (nI (n 0)), .int (nI (n 1)), .int (g 9), .int (g 10), .ref a_s, .int (nI (n 2)), .int (g 12)])), (a_d, .inl (k_d, 16, .inl fd)), (a_b, .inl (k_b, 16, .inl (f 2))), (a_c, .inl (k_c, 16, .inl (f 3))), (a_q, .inl (k_q, 8, .inl (f 4))), (a_s, .inl (k_s, 16, .inl (f 5)))] sz) := by
  refine Met.ofW (cc := cX2_scan) (maxL := 2) (ret := none) (by decide) rfl ?_
  intro p e s m args below meth c s₁ B hml hv
  obtain ⟨rfl, hsz, hP, hK, hD0, hN⟩ := hv
  have hx := B.exec
  have hb := B.bytes
  have hr := B.returns
  have hts : ∀ w ∈ zw, w.before _ s = true := fun w h => atoms_spec (ws := (zq yX2_scan cX2_scan 2 none)) B.pre w (List.mem_cons_of_mem _ h)
  have hown : s.vm.findClass RX2 = some m.cls := findClass_of_methodNamed B.named
  have hlocks := B.notSynchronized
  subst hsz
  have hD := hD0.self (sz := s.heap.size)
  generalize hAe : va_A [(a_u, .inr (2, [.ref a_d, .ref a_b, .ref a_c, .ref a_q, .int (nI (n 0)), .int (nI (n 1)), .int (g 9), .int (g 10), .ref a_s, .int (nI (n 2)), .int (g 12)])), (a_d, .inl (k_d, 16, .inl fd)), (a_b, .inl (k_b, 16, .inl (f 2))), (a_c, .inl (k_c, 16, .inl (f 3))), (a_q, .inl (k_q, 8, .inl (f 4))), (a_s, .inl (k_s, 16, .inl (f 5)))] s.heap.size = A at hD ⊢
  have hA : ∀ q : Nat, s.heap.size ≤ q → A q := fun q h => by rw [← hAe]; exact Or.inr h
  have hS : va_S A s.heap s.heap [] := va_S.rf
  have hP : va_P (dC, dI) vwCl [(a_u, .inr (2, [.ref a_d, .ref a_b, .ref a_c, .ref a_q, .int (nI (n 0)), .int (nI (n 1)), .int (g 9), .int (g 10), .ref a_s, .int (nI (n 2)), .int (g 12)])), (a_d, .inl (k_d, 16, .inl fd)), (a_b, .inl (k_b, 16, .inl (f 2))), (a_c, .inl (k_c, 16, .inl (f 3))), (a_q, .inl (k_q, 8, .inl (f 4))), (a_s, .inl (k_s, 16, .inl (f 5)))] s.heap := hP
  have hl := lv_entry ([.ref a_u, .int (nI k)]) (n := 2) (Nat.le_of_ble_eq_true rfl)
  rw [lg_entry_eq]
  generalize (lg_sl ([.ref a_u, .int (nI k)]) ++ List.replicate (2 - (lg_sl ([.ref a_u, .int (nI k)])).length) Slot.unset).toArray = ls at hl ⊢
  have hl : lv_has ls 2 [(0, .ref a_u), (1, .int (nI k))] := hl
  refine lv_aload_n hx hb dX2_scan_0 rfl (lv_at hl 0 rfl) ?_
  refine va_get (D := (dC, dI)) (ci := 2) (v := .ref a_d) (C := RX2) (T := TX2) (N := 11) hx hb hts zx_2 hown hK hP 0 rfl rfl 0 (by decide) (hts (.fieldLink RX2 9 "KeyboardKit$KeyUnit" "down" "[Z") zw_144) (fun _ h9 => h9) rfl dX2_scan_1 ?_
  refine lv_iload_n hx hb dX2_scan_4 rfl (lv_at hl 1 rfl) ?_
  refine va_zald hx hb hK hP 1 0 rfl rfl (vp_in_nI (show k < 16 by omega) (by decide)) dX2_scan_5 ?_
  refine lv_topi (fun v_1 ev_1 => ?_)
  have join_18 : ∀ (x_8 : Nat) (hx_8 : x_8 < 8) (x_9 : Nat) (hx_9 : x_9 < 9) (x_10 : Int32) (x_11 : Int32) (x_12 : Nat) (hx_12 : x_12 < 16) (x_13 : Int32) (f_14 : Nat → Int32) (f_15 : Nat → Int32) (f_16 : Nat → Int32) (f_17 : Nat → Int32) (H : Heap) (locs : List Loc) (ls : Array Slot), va_P (dC, dI) vwCl [(a_u, .inr (2, [.ref a_d, .ref a_b, .ref a_c, .ref a_q, .int (nI x_8), .int (nI x_9), .int x_10, .int x_11, .ref a_s, .int (nI x_12), .int x_13])), (a_d, .inl (k_d, 16, .inl fd)), (a_b, .inl (k_b, 16, .inl f_14)), (a_c, .inl (k_c, 16, .inl f_15)), (a_q, .inl (k_q, 8, .inl f_16)), (a_s, .inl (k_s, 16, .inl f_17))] H → va_D A [(a_u, .inr (2, [.ref a_d, .ref a_b, .ref a_c, .ref a_q, .int (nI x_8), .int (nI x_9), .int x_10, .int x_11, .ref a_s, .int (nI x_12), .int x_13])), (a_d, .inl (k_d, 16, .inl fd)), (a_b, .inl (k_b, 16, .inl f_14)), (a_c, .inl (k_c, 16, .inl f_15)), (a_q, .inl (k_q, 8, .inl f_16)), (a_s, .inl (k_s, 16, .inl f_17))] → va_S A s.heap H locs → lv_has ls 2 [(0, .ref a_u), (1, .int (nI k))] → W p l e (headSpec (zq yX2_scan cX2_scan 2 none) ({ frames := 1, cells := 0, slots := 0, locals := 21 })).room s m ([.ref a_u, .int (nI k)] : List Value).toArray below meth c H locs 0 0 (MQ below (va_Qv (fun (u : (Nat → Int32) × (Nat → Nat) × (Nat → Nat → Int32)) => u.2.1 0 < 8 ∧ u.2.1 1 < 9 ∧ u.2.1 2 < 16) (fun (u : (Nat → Int32) × (Nat → Nat) × (Nat → Nat → Int32)) t9 => zc_B (dC, dI) A [(a_u, .inr (2, [.ref a_d, .ref a_b, .ref a_c, .ref a_q, .int (nI (u.2.1 0)), .int (nI (u.2.1 1)), .int (u.1 9), .int (u.1 10), .ref a_s, .int (nI (u.2.1 2)), .int (u.1 12)])), (a_d, .inl (k_d, 16, .inl fd)), (a_b, .inl (k_b, 16, .inl (u.2.2 2))), (a_c, .inl (k_c, 16, .inl (u.2.2 3))), (a_q, .inl (k_q, 8, .inl (u.2.2 4))), (a_s, .inl (k_s, 16, .inl (u.2.2 5)))] [(k_d, .boolean), (k_b, .boolean), (k_c, .boolean), (k_q, .int), (k_s, .int)] t9) A) ([.ref a_u, .int (nI k)] : List Value).toArray s 0 0 A) (F0 m 49 ls []) := by
    intro x_8 hx_8 x_9 hx_9 x_10 x_11 x_12 hx_12 x_13 f_14 f_15 f_16 f_17 H locs ls hP hD hS hl
    refine lv_aload_n hx hb dX2_scan_49 rfl (lv_at hl 0 rfl) ?_
    refine va_get (D := (dC, dI)) (ci := 2) (v := .ref a_b) (C := RX2) (T := TX2) (N := 11) hx hb hts zx_2 hown hK hP 0 rfl rfl 1 (by decide) (hts (.fieldLink RX2 15 "KeyboardKit$KeyUnit" "downBefore" "[Z") zw_146) (fun _ h9 => h9) rfl dX2_scan_50 ?_
    refine lv_iload_n hx hb dX2_scan_53 rfl (lv_at hl 1 rfl) ?_
    refine lv_aload_n hx hb dX2_scan_54 rfl (lv_at hl 0 rfl) ?_
    refine va_get (D := (dC, dI)) (ci := 2) (v := .ref a_d) (C := RX2) (T := TX2) (N := 11) hx hb hts zx_2 hown hK hP 0 rfl rfl 0 (by decide) (hts (.fieldLink RX2 9 "KeyboardKit$KeyUnit" "down" "[Z") zw_144) (fun _ h9 => h9) rfl dX2_scan_55 ?_
    refine lv_iload_n hx hb dX2_scan_58 rfl (lv_at hl 1 rfl) ?_
    refine va_zald hx hb hK hP 1 0 rfl rfl (vp_in_nI (show k < 16 by omega) (by decide)) dX2_scan_59 ?_
    refine lv_topi (fun v_19 ev_19 => ?_)
    refine va_zast hx hb hK hP hD hS 2 1 rfl rfl (vp_in_nI (show k < 16 by omega) (by decide)) dX2_scan_60 (fun H locs hP hD hS => ?_)
    have hP : va_P (dC, dI) vwCl [(a_u, .inr (2, [.ref a_d, .ref a_b, .ref a_c, .ref a_q, .int (nI x_8), .int (nI x_9), .int x_10, .int x_11, .ref a_s, .int (nI x_12), .int x_13])), (a_d, .inl (k_d, 16, .inl fd)), (a_b, .inl (k_b, 16, .inl (upd f_14 (nI k : Int32).toNatClampNeg (vp_nar .boolean v_19)))), (a_c, .inl (k_c, 16, .inl f_15)), (a_q, .inl (k_q, 8, .inl f_16)), (a_s, .inl (k_s, 16, .inl f_17))] H := hP
    have hD : va_D A [(a_u, .inr (2, [.ref a_d, .ref a_b, .ref a_c, .ref a_q, .int (nI x_8), .int (nI x_9), .int x_10, .int x_11, .ref a_s, .int (nI x_12), .int x_13])), (a_d, .inl (k_d, 16, .inl fd)), (a_b, .inl (k_b, 16, .inl (upd f_14 (nI k : Int32).toNatClampNeg (vp_nar .boolean v_19)))), (a_c, .inl (k_c, 16, .inl f_15)), (a_q, .inl (k_q, 8, .inl f_16)), (a_s, .inl (k_s, 16, .inl f_17))] := hD
    have hP9 := hP.sub (ws' := [(a_u, .inr (2, [.ref a_d, .ref a_b, .ref a_c, .ref a_q, .int (nI x_8), .int (nI x_9), .int x_10, .int x_11, .ref a_s, .int (nI x_12), .int x_13])), (a_d, .inl (k_d, 16, .inl fd)), (a_b, .inl (k_b, 16, .inl (upd f_14 (nI k : Int32).toNatClampNeg (vp_nar .boolean v_19)))), (a_c, .inl (k_c, 16, .inl f_15)), (a_q, .inl (k_q, 8, .inl f_16)), (a_s, .inl (k_s, 16, .inl f_17))]) [0, 1, 2, 3, 4, 5] rfl
    have hD9 := hD.sub (ws' := [(a_u, .inr (2, [.ref a_d, .ref a_b, .ref a_c, .ref a_q, .int (nI x_8), .int (nI x_9), .int x_10, .int x_11, .ref a_s, .int (nI x_12), .int x_13])), (a_d, .inl (k_d, 16, .inl fd)), (a_b, .inl (k_b, 16, .inl (upd f_14 (nI k : Int32).toNatClampNeg (vp_nar .boolean v_19)))), (a_c, .inl (k_c, 16, .inl f_15)), (a_q, .inl (k_q, 8, .inl f_16)), (a_s, .inl (k_s, 16, .inl f_17))]) [0, 1, 2, 3, 4, 5] (by decide) rfl
    have hK9 := hK.sub (tys' := [(k_d, .boolean), (k_b, .boolean), (k_c, .boolean), (k_q, .int), (k_s, .int)]) [0, 1, 2, 3, 4] rfl
    exact W.vret hx hb hr (fun t9 ht hW => ⟨⟨((fun k9 => match k9 with | 9 => x_10 | 10 => x_11 | _ => x_13), (fun k9 => match k9 with | 0 => x_8 | 1 => x_9 | _ => x_12), (fun k9 => match k9 with | 2 => upd f_14 (nI k : Int32).toNatClampNeg (vp_nar .boolean v_19) | 3 => f_15 | 4 => f_16 | _ => f_17)), rfl, ⟨(show x_8 < 8 by omega), (show x_9 < 9 by omega), (show x_12 < 16 by omega)⟩, by rw [ht]; exact hP9, va_K.moved hW.alike hK9, hD9⟩, hS.F ht⟩) hS.2.2 dX2_scan_61
  refine lv_if_ne (tgt := 19) hx hb dX2_scan_6 (by decide) (fun c_2 => ?_) (fun c_2 => ?_)
  · refine lv_aload_n hx hb dX2_scan_19 rfl (lv_at hl 0 rfl) ?_
    refine va_get (D := (dC, dI)) (ci := 2) (v := .ref a_b) (C := RX2) (T := TX2) (N := 11) hx hb hts zx_2 hown hK hP 0 rfl rfl 1 (by decide) (hts (.fieldLink RX2 15 "KeyboardKit$KeyUnit" "downBefore" "[Z") zw_146) (fun _ h9 => h9) rfl dX2_scan_20 ?_
    refine lv_iload_n hx hb dX2_scan_23 rfl (lv_at hl 1 rfl) ?_
    refine va_zald hx hb hK hP 2 1 rfl rfl (vp_in_nI (show k < 16 by omega) (by decide)) dX2_scan_24 ?_
    refine lv_topi (fun v_20 ev_20 => ?_)
    refine lv_if_eq (tgt := 49) hx hb dX2_scan_25 (by decide) (fun c_21 => ?_) (fun c_21 => ?_)
    · exact join_18 (n 0) (by omega) (n 1) (by omega) (g 9) (g 10) (n 2) (by omega) (g 12) (f 2) (f 3) (f 4) (f 5) _ _ _ (hP.sub [0, 1, 2, 3, 4, 5] rfl) (hD.sub [0, 1, 2, 3, 4, 5] (by decide) rfl) hS (lv_sub hl [0, 1] rfl)
    · refine lv_aload_n hx hb dX2_scan_28 rfl (lv_at hl 0 rfl) ?_
      refine va_get (D := (dC, dI)) (ci := 2) (v := .ref a_c) (C := RX2) (T := TX2) (N := 11) hx hb hts zx_2 hown hK hP 0 rfl rfl 2 (by decide) (hts (.fieldLink RX2 18 "KeyboardKit$KeyUnit" "counted" "[Z") zw_147) (fun _ h9 => h9) rfl dX2_scan_29 ?_
      refine lv_iload_n hx hb dX2_scan_32 rfl (lv_at hl 1 rfl) ?_
      refine va_zald hx hb hK hP 3 2 rfl rfl (vp_in_nI (show k < 16 by omega) (by decide)) dX2_scan_33 ?_
      refine lv_topi (fun v_22 ev_22 => ?_)
      refine lv_if_ne (tgt := 49) hx hb dX2_scan_34 (by decide) (fun c_23 => ?_) (fun c_23 => ?_)
      · exact join_18 (n 0) (by omega) (n 1) (by omega) (g 9) (g 10) (n 2) (by omega) (g 12) (f 2) (f 3) (f 4) (f 5) _ _ _ (hP.sub [0, 1, 2, 3, 4, 5] rfl) (hD.sub [0, 1, 2, 3, 4, 5] (by decide) rfl) hS (lv_sub hl [0, 1] rfl)
      · refine lv_aload_n hx hb dX2_scan_37 rfl (lv_at hl 0 rfl) ?_
        refine va_get (D := (dC, dI)) (ci := 2) (v := .ref a_c) (C := RX2) (T := TX2) (N := 11) hx hb hts zx_2 hown hK hP 0 rfl rfl 2 (by decide) (hts (.fieldLink RX2 18 "KeyboardKit$KeyUnit" "counted" "[Z") zw_147) (fun _ h9 => h9) rfl dX2_scan_38 ?_
        refine lv_iload_n hx hb dX2_scan_41 rfl (lv_at hl 1 rfl) ?_
        refine lv_iconst (v := 1) hx hb dX2_scan_42 (by decide) ?_
        refine va_zast hx hb hK hP hD hS 3 2 rfl rfl (vp_in_nI (show k < 16 by omega) (by decide)) dX2_scan_43 (fun H locs hP hD hS => ?_)
        have hP : va_P (dC, dI) vwCl [(a_u, .inr (2, [.ref a_d, .ref a_b, .ref a_c, .ref a_q, .int (nI (n 0)), .int (nI (n 1)), .int (g 9), .int (g 10), .ref a_s, .int (nI (n 2)), .int (g 12)])), (a_d, .inl (k_d, 16, .inl fd)), (a_b, .inl (k_b, 16, .inl (f 2))), (a_c, .inl (k_c, 16, .inl (upd (f 3) (nI k : Int32).toNatClampNeg (vp_nar .boolean 1)))), (a_q, .inl (k_q, 8, .inl (f 4))), (a_s, .inl (k_s, 16, .inl (f 5)))] H := hP
        have hD : va_D A [(a_u, .inr (2, [.ref a_d, .ref a_b, .ref a_c, .ref a_q, .int (nI (n 0)), .int (nI (n 1)), .int (g 9), .int (g 10), .ref a_s, .int (nI (n 2)), .int (g 12)])), (a_d, .inl (k_d, 16, .inl fd)), (a_b, .inl (k_b, 16, .inl (f 2))), (a_c, .inl (k_c, 16, .inl (upd (f 3) (nI k : Int32).toNatClampNeg (vp_nar .boolean 1)))), (a_q, .inl (k_q, 8, .inl (f 4))), (a_s, .inl (k_s, 16, .inl (f 5)))] := hD
        refine lv_aload_n hx hb dX2_scan_44 rfl (lv_at hl 0 rfl) ?_
        refine lv_iload_n hx hb dX2_scan_45 rfl (lv_at hl 1 rfl) ?_
        refine zc_v (wr := []) hP hD hS hA [0, 1, 2, 3, 4, 5] [] rfl rfl (by decide) (by decide) (va_runV (As := [.int (nI k)]) (rest := []) ⟨hx, hb, hml, hown, hts⟩ (g_X2_enqueue l dC dI a_u a_d a_b a_c a_q a_s k_d k_b k_c k_q k_s fd g n (fun k9 => match k9 with | 2 => (f 2) | 3 => (upd (f 3) (nI k : Int32).toNatClampNeg (vp_nar .boolean 1)) | 4 => (f 4) | _ => (f 5)) k ⟨(show n 0 < 8 by omega), (show n 1 < 9 by omega), (show n 2 < 16 by omega)⟩ (by omega) _) (cwV 1 hts (zg_V zw_577 zw_579 zw_39 zw_85 zw_580) rfl rfl rfl (by decide +kernel) ⟨Nat.le_of_ble_eq_true rfl, Nat.le_of_ble_eq_true rfl⟩) ⟨zc_blind, va_recv hK hP (ci := 2) (q0 := 0) rfl rfl, zc_start hP hD hK hN [0, 1, 2, 3, 4, 5] [0, 1, 2, 3, 4] rfl (by decide) rfl⟩ rfl rfl hl.1 rfl (lv_room (Nat.le_of_ble_eq_true rfl)) dX2_scan_46 ⟨Nat.le_of_ble_eq_true rfl, Nat.le_of_ble_eq_true rfl⟩) (fun u_24 H locs hw hK1 hP hD hS => ?_)
        have hP : va_P (dC, dI) vwCl [(a_u, .inr (2, [.ref a_d, .ref a_b, .ref a_c, .ref a_q, .int (nI (u_24.2.1 0)), .int (nI (u_24.2.1 1)), .int (u_24.1 9), .int (u_24.1 10), .ref a_s, .int (nI (u_24.2.1 2)), .int (u_24.1 12)])), (a_d, .inl (k_d, 16, .inl fd)), (a_b, .inl (k_b, 16, .inl (u_24.2.2 2))), (a_c, .inl (k_c, 16, .inl (u_24.2.2 3))), (a_q, .inl (k_q, 8, .inl (u_24.2.2 4))), (a_s, .inl (k_s, 16, .inl (u_24.2.2 5)))] H := hP
        have hD : va_D A [(a_u, .inr (2, [.ref a_d, .ref a_b, .ref a_c, .ref a_q, .int (nI (u_24.2.1 0)), .int (nI (u_24.2.1 1)), .int (u_24.1 9), .int (u_24.1 10), .ref a_s, .int (nI (u_24.2.1 2)), .int (u_24.1 12)])), (a_d, .inl (k_d, 16, .inl fd)), (a_b, .inl (k_b, 16, .inl (u_24.2.2 2))), (a_c, .inl (k_c, 16, .inl (u_24.2.2 3))), (a_q, .inl (k_q, 8, .inl (u_24.2.2 4))), (a_s, .inl (k_s, 16, .inl (u_24.2.2 5)))] := hD
        obtain ⟨hi_24_0, hi_24_1, hi_24_2⟩ := hw
        exact join_18 (u_24.2.1 0) (by omega) (u_24.2.1 1) (by omega) (u_24.1 9) (u_24.1 10) (u_24.2.1 2) (by omega) (u_24.1 12) (u_24.2.2 2) (u_24.2.2 3) (u_24.2.2 4) (u_24.2.2 5) _ _ _ (hP.sub [0, 1, 2, 3, 4, 5] rfl) (hD.sub [0, 1, 2, 3, 4, 5] (by decide) rfl) hS (lv_sub hl [0, 1] rfl)
  · refine lv_aload_n hx hb dX2_scan_9 rfl (lv_at hl 0 rfl) ?_
    refine va_get (D := (dC, dI)) (ci := 2) (v := .ref a_c) (C := RX2) (T := TX2) (N := 11) hx hb hts zx_2 hown hK hP 0 rfl rfl 2 (by decide) (hts (.fieldLink RX2 18 "KeyboardKit$KeyUnit" "counted" "[Z") zw_147) (fun _ h9 => h9) rfl dX2_scan_10 ?_
    refine lv_iload_n hx hb dX2_scan_13 rfl (lv_at hl 1 rfl) ?_
    refine lv_iconst (v := 0) hx hb dX2_scan_14 (by decide) ?_
    refine va_zast hx hb hK hP hD hS 3 2 rfl rfl (vp_in_nI (show k < 16 by omega) (by decide)) dX2_scan_15 (fun H locs hP hD hS => ?_)
    have hP : va_P (dC, dI) vwCl [(a_u, .inr (2, [.ref a_d, .ref a_b, .ref a_c, .ref a_q, .int (nI (n 0)), .int (nI (n 1)), .int (g 9), .int (g 10), .ref a_s, .int (nI (n 2)), .int (g 12)])), (a_d, .inl (k_d, 16, .inl fd)), (a_b, .inl (k_b, 16, .inl (f 2))), (a_c, .inl (k_c, 16, .inl (upd (f 3) (nI k : Int32).toNatClampNeg (vp_nar .boolean 0)))), (a_q, .inl (k_q, 8, .inl (f 4))), (a_s, .inl (k_s, 16, .inl (f 5)))] H := hP
    have hD : va_D A [(a_u, .inr (2, [.ref a_d, .ref a_b, .ref a_c, .ref a_q, .int (nI (n 0)), .int (nI (n 1)), .int (g 9), .int (g 10), .ref a_s, .int (nI (n 2)), .int (g 12)])), (a_d, .inl (k_d, 16, .inl fd)), (a_b, .inl (k_b, 16, .inl (f 2))), (a_c, .inl (k_c, 16, .inl (upd (f 3) (nI k : Int32).toNatClampNeg (vp_nar .boolean 0)))), (a_q, .inl (k_q, 8, .inl (f 4))), (a_s, .inl (k_s, 16, .inl (f 5)))] := hD
    refine lv_goto (tgt := 49) hx hb dX2_scan_16 (by decide) ?_
    exact join_18 (n 0) (by omega) (n 1) (by omega) (g 9) (g 10) (n 2) (by omega) (g 12) (f 2) (upd (f 3) (nI k : Int32).toNatClampNeg (vp_nar .boolean 0)) (f 4) (f 5) _ _ _ (hP.sub [0, 1, 2, 3, 4, 5] rfl) (hD.sub [0, 1, 2, 3, 4, 5] (by decide) rfl) hS (lv_sub hl [0, 1] rfl)
