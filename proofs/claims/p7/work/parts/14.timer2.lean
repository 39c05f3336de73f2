theorem dX5_command_0 : decode cX5_command 0 = .ok (.iload_n 1, 1) := by decide +kernel
theorem dX5_command_1 : decode cX5_command 1 = .ok (.bipush 6, 2) := by decide +kernel
theorem dX5_command_100 : decode cX5_command 100 = .ok (.putfield 7, 3) := by decide +kernel
theorem dX5_command_103 : decode cX5_command 103 = .ok (.goto 3, 3) := by decide +kernel
theorem dX5_command_106 : decode cX5_command 106 = .ok (.return_, 1) := by decide +kernel
theorem dX5_command_3 : decode cX5_command 3 = .ok (.ishr, 1) := by decide +kernel
theorem dX5_command_32 : decode cX5_command 32 = .ok (.aload_n 0, 1) := by decide +kernel
theorem dX5_command_33 : decode cX5_command 33 = .ok (.iconst 0, 1) := by decide +kernel
theorem dX5_command_34 : decode cX5_command 34 = .ok (.putfield 7, 3) := by decide +kernel
theorem dX5_command_37 : decode cX5_command 37 = .ok (.goto 69, 3) := by decide +kernel
theorem dX5_command_4 : decode cX5_command 4 = .ok (.iconst 3, 1) := by decide +kernel
theorem dX5_command_40 : decode cX5_command 40 = .ok (.aload_n 0, 1) := by decide +kernel
theorem dX5_command_41 : decode cX5_command 41 = .ok (.iconst 1, 1) := by decide +kernel
theorem dX5_command_42 : decode cX5_command 42 = .ok (.putfield 13, 3) := by decide +kernel
theorem dX5_command_45 : decode cX5_command 45 = .ok (.goto 61, 3) := by decide +kernel
theorem dX5_command_48 : decode cX5_command 48 = .ok (.aload_n 0, 1) := by decide +kernel
theorem dX5_command_49 : decode cX5_command 49 = .ok (.iconst 2, 1) := by decide +kernel
theorem dX5_command_5 : decode cX5_command 5 = .ok (.iand, 1) := by decide +kernel
theorem dX5_command_50 : decode cX5_command 50 = .ok (.aload_n 0, 1) := by decide +kernel
theorem dX5_command_51 : decode cX5_command 51 = .ok (.getfield 17, 3) := by decide +kernel
theorem dX5_command_54 : decode cX5_command 54 = .ok (.bipush 63, 2) := by decide +kernel
theorem dX5_command_56 : decode cX5_command 56 = .ok (.iand, 1) := by decide +kernel
theorem dX5_command_57 : decode cX5_command 57 = .ok (.bipush 8, 2) := by decide +kernel
theorem dX5_command_59 : decode cX5_command 59 = .ok (.ishl, 1) := by decide +kernel
theorem dX5_command_6 : decode cX5_command 6 = .ok (.tableswitch 100 1 3 #[26, 34, 42], 26) := by decide +kernel
theorem dX5_command_60 : decode cX5_command 60 = .ok (.aload_n 0, 1) := by decide +kernel
theorem dX5_command_61 : decode cX5_command 61 = .ok (.getfield 20, 3) := by decide +kernel
theorem dX5_command_64 : decode cX5_command 64 = .ok (.ior, 1) := by decide +kernel
theorem dX5_command_65 : decode cX5_command 65 = .ok (.invokestatic 23, 3) := by decide +kernel
theorem dX5_command_68 : decode cX5_command 68 = .ok (.putfield 29, 3) := by decide +kernel
theorem dX5_command_71 : decode cX5_command 71 = .ok (.aload_n 0, 1) := by decide +kernel
theorem dX5_command_72 : decode cX5_command 72 = .ok (.aload_n 0, 1) := by decide +kernel
theorem dX5_command_73 : decode cX5_command 73 = .ok (.getfield 17, 3) := by decide +kernel
theorem dX5_command_76 : decode cX5_command 76 = .ok (.bipush 64, 2) := by decide +kernel
theorem dX5_command_78 : decode cX5_command 78 = .ok (.iand, 1) := by decide +kernel
theorem dX5_command_79 : decode cX5_command 79 = .ok (.ifCond .eq 7, 3) := by decide +kernel
theorem dX5_command_82 : decode cX5_command 82 = .ok (.iconst 1, 1) := by decide +kernel
theorem dX5_command_83 : decode cX5_command 83 = .ok (.goto 4, 3) := by decide +kernel
theorem dX5_command_86 : decode cX5_command 86 = .ok (.iconst 0, 1) := by decide +kernel
theorem dX5_command_87 : decode cX5_command 87 = .ok (.putfield 32, 3) := by decide +kernel
theorem dX5_command_90 : decode cX5_command 90 = .ok (.aload_n 0, 1) := by decide +kernel
theorem dX5_command_91 : decode cX5_command 91 = .ok (.iconst 0, 1) := by decide +kernel
theorem dX5_command_92 : decode cX5_command 92 = .ok (.putfield 13, 3) := by decide +kernel
theorem dX5_command_95 : decode cX5_command 95 = .ok (.aload_n 0, 1) := by decide +kernel
theorem dX5_command_96 : decode cX5_command 96 = .ok (.aload_n 0, 1) := by decide +kernel
theorem dX5_command_97 : decode cX5_command 97 = .ok (.getfield 29, 3) := by decide +kernel
set_option maxHeartbeats 4000000 in
set_option maxRecDepth 100000 in
theorem g_X5_command (l : Launch) (dC : Nat → ClassId) (dI : Nat → Nat → Nat) (a_t : Nat) (g : Nat → Int32) (n : Nat → Nat) (f : Nat → Nat → Int32) (p0 : Int32) (sz : Nat) : Met l yX5_command (zq yX5_command cX5_command 2 none) ({ frames := 1, cells := 0, slots := 0, locals := 21 }) (va_Pc [.ref a_t, .int p0] (zc_P (dC, dI) [(a_t, .inr (5, [.int (g 0), .int (g 1), .int (g 2), .int (g 3), .int (g 4), .int (g 5), .int (g 6)]))] [] sz)) (va_Qv (fun (u : (Nat → Int32) × (Nat → Nat) × (Nat → Nat → Int32)) => True) (fun (u : (Nat → Int32) × (Nat → Nat) × (Nat → Nat → Int32)) t9 => zc_B (dC, dI) (va_A [(a_t, .inr (5, [.int (g 0), .int (g 1), .int (g 2), .int (g 3), .int (g 4), .int (g 5), .int (g 6)]))] sz) [(a_t, .inr (5, [.int (u.1 0), .int (u.1 1), .int (u.1 2), .int (u.1 3), .int (u.1 4), .int (u.1 5), .int (u.1 6)]))] [] t9) (va_A [(a_t, .inr (5, [.int (g 0), .int (g 1), .int (g 2), .int (g 3), .int (g 4), .int (g 5), .int (g 6)]))] sz)) 0 0 (va_A [(a_t, .inr (5, [.int (g 0), .int (g 1), .int (g 2), .int (g 3), .int (g 4), .int (g 5), .int (g 6)]))] sz) := by
  refine Met.ofW (cc := cX5_command) (maxL := 2) (ret := none) (by decide) rfl ?_
  intro p e s m args below meth c s₁ B hml hv
  obtain ⟨rfl, hsz, hP, hK, hD0, hN⟩ := hv
  have hx := B.exec
  have hb := B.bytes
  have hr := B.returns
  have hts : ∀ w ∈ zw, w.before _ s = true := fun w h => atoms_spec (ws := (zq yX5_command cX5_command 2 none)) B.pre w (List.mem_cons_of_mem _ h)
  have hown : s.vm.findClass RX5 = some m.cls := findClass_of_methodNamed B.named
  have hlocks := B.notSynchronized
  subst hsz
  have hD := hD0.self (sz := s.heap.size)
  generalize hAe : va_A [(a_t, .inr (5, [.int (g 0), .int (g 1), .int (g 2), .int (g 3), .int (g 4), .int (g 5), .int (g 6)]))] s.heap.size = A at hD ⊢
  have hA : ∀ q : Nat, s.heap.size ≤ q → A q := fun q h => by rw [← hAe]; exact Or.inr h
  have hS : va_S A s.heap s.heap [] := va_S.rf
  have hP : va_P (dC, dI) vwCl [(a_t, .inr (5, [.int (g 0), .int (g 1), .int (g 2), .int (g 3), .int (g 4), .int (g 5), .int (g 6)]))] s.heap := hP
  have hl := lv_entry ([.ref a_t, .int p0]) (n := 2) (Nat.le_of_ble_eq_true rfl)
  rw [lg_entry_eq]
  generalize (lg_sl ([.ref a_t, .int p0]) ++ List.replicate (2 - (lg_sl ([.ref a_t, .int p0])).length) Slot.unset).toArray = ls at hl ⊢
  have hl : lv_has ls 2 [(0, .ref a_t), (1, .int p0)] := hl
  refine lv_iload_n hx hb dX5_command_0 rfl (lv_at hl 1 rfl) ?_
  refine lv_bipush (v := 6) hx hb dX5_command_1 (by decide) ?_
  refine lv_ishr hx hb dX5_command_3 ?_
  refine lv_topi (fun v_1 ev_1 => ?_)
  refine lv_iconst (v := 3) hx hb dX5_command_4 (by decide) ?_
  refine lv_iand hx hb dX5_command_5 ?_
  refine lv_topi (fun v_2 ev_2 => ?_)
  obtain ⟨j_2, hj_2, ej_2⟩ := pk_andE v_1 (m := 3) 2 (by decide)
  obtain rfl : v_2 = nI j_2 := ev_2.trans ej_2
  have hj_2 : j_2 < 4 := hj_2
  have join_16 : ∀ (x_12 : Int32) (x_13 : Int32) (x_14 : Int32) (x_15 : Int32) (H : Heap) (locs : List Loc) (ls : Array Slot), va_P (dC, dI) vwCl [(a_t, .inr (5, [.int (g 0), .int (g 1), .int x_12, .int x_13, .int x_14, .int (g 5), .int x_15]))] H → va_D A [(a_t, .inr (5, [.int (g 0), .int (g 1), .int x_12, .int x_13, .int x_14, .int (g 5), .int x_15]))] → va_S A s.heap H locs → lv_has ls 2 [(0, .ref a_t), (1, .int p0)] → W p l e (headSpec (zq yX5_command cX5_command 2 none) ({ frames := 1, cells := 0, slots := 0, locals := 21 })).room s m ([.ref a_t, .int p0] : List Value).toArray below meth c H locs 0 0 (MQ below (va_Qv (fun (u : (Nat → Int32) × (Nat → Nat) × (Nat → Nat → Int32)) => True) (fun (u : (Nat → Int32) × (Nat → Nat) × (Nat → Nat → Int32)) t9 => zc_B (dC, dI) A [(a_t, .inr (5, [.int (u.1 0), .int (u.1 1), .int (u.1 2), .int (u.1 3), .int (u.1 4), .int (u.1 5), .int (u.1 6)]))] [] t9) A) ([.ref a_t, .int p0] : List Value).toArray s 0 0 A) (F0 m 106 ls []) := by
    intro x_12 x_13 x_14 x_15 H locs ls hP hD hS hl
    have hP9 := hP.sub (ws' := [(a_t, .inr (5, [.int (g 0), .int (g 1), .int x_12, .int x_13, .int x_14, .int (g 5), .int x_15]))]) [0] rfl
    have hD9 := hD.sub (ws' := [(a_t, .inr (5, [.int (g 0), .int (g 1), .int x_12, .int x_13, .int x_14, .int (g 5), .int x_15]))]) [0] (by decide) rfl
    have hK9 := hK.sub (tys' := []) [] rfl
    exact W.vret hx hb hr (fun t9 ht hW => ⟨⟨((fun k9 => match k9 with | 0 => g 0 | 1 => g 1 | 2 => x_12 | 3 => x_13 | 4 => x_14 | 5 => g 5 | _ => x_15), (fun _ => 0), (fun _ _ => 0)), rfl, trivial, by rw [ht]; exact hP9, va_K.moved hW.alike hK9, hD9⟩, hS.F ht⟩) hS.2.2 dX5_command_106
  rcases (show j_2 = 1 ∨ j_2 = 2 ∨ j_2 = 3 ∨ (j_2 ≠ 1 ∧ j_2 ≠ 2 ∧ j_2 ≠ 3) by omega) with h_3 | h_3 | h_3 | h_3
  · refine zs_top (w := 1) (show (nI j_2) = (1 : Int32) from by rw [h_3]; try rfl) ?_
    refine lv_tableIn (off := 26) (tgt := 32) hx hb dX5_command_6 (by decide) (by decide) rfl (by decide) ?_
    refine lv_aload_n hx hb dX5_command_32 rfl (lv_at hl 0 rfl) ?_
    refine lv_iconst (v := 0) hx hb dX5_command_33 (by decide) ?_
    refine va_put (D := (dC, dI)) (ci := 5) (v := .int 0) (ty := .int) (C := RX5) (T := TX5) (N := 7) hx hb hts zx_5 tyX5 tyX5_ok nmX5 hown hK hP hD hS 0 rfl rfl 6 (by decide) (hts (.fieldLink RX5 7 "KeyboardKit$Timer" "left" "I") zw_120) (fun _ h9 => h9) rfl (by decide +kernel) rfl rfl (Nat.le_of_ble_eq_true rfl) dX5_command_34 (fun H locs hP hD hS => ?_)
    have hP : va_P (dC, dI) vwCl [(a_t, .inr (5, [.int (g 0), .int (g 1), .int (g 2), .int (g 3), .int (g 4), .int (g 5), .int 0]))] H := hP
    have hD : va_D A [(a_t, .inr (5, [.int (g 0), .int (g 1), .int (g 2), .int (g 3), .int (g 4), .int (g 5), .int 0]))] := hD
    refine lv_goto (tgt := 106) hx hb dX5_command_37 (by decide) ?_
    exact join_16 (g 2) (g 3) (g 4) 0 _ _ _ (hP.sub [0] rfl) (hD.sub [0] (by decide) rfl) hS (lv_sub hl [0, 1] rfl)
  · refine zs_top (w := 2) (show (nI j_2) = (2 : Int32) from by rw [h_3]; try rfl) ?_
    refine lv_tableIn (off := 34) (tgt := 40) hx hb dX5_command_6 (by decide) (by decide) rfl (by decide) ?_
    refine lv_aload_n hx hb dX5_command_40 rfl (lv_at hl 0 rfl) ?_
    refine lv_iconst (v := 1) hx hb dX5_command_41 (by decide) ?_
    refine va_put (D := (dC, dI)) (ci := 5) (v := .int 1) (ty := .boolean) (C := RX5) (T := TX5) (N := 7) hx hb hts zx_5 tyX5 tyX5_ok nmX5 hown hK hP hD hS 0 rfl rfl 4 (by decide) (hts (.fieldLink RX5 13 "KeyboardKit$Timer" "stopsAtEnd" "Z") zw_118) (fun _ h9 => h9) rfl (by decide +kernel) rfl rfl (Nat.le_of_ble_eq_true rfl) dX5_command_42 (fun H locs hP hD hS => ?_)
    have hP : va_P (dC, dI) vwCl [(a_t, .inr (5, [.int (g 0), .int (g 1), .int (g 2), .int (g 3), .int 1, .int (g 5), .int (g 6)]))] H := hP
    have hD : va_D A [(a_t, .inr (5, [.int (g 0), .int (g 1), .int (g 2), .int (g 3), .int 1, .int (g 5), .int (g 6)]))] := hD
    refine lv_goto (tgt := 106) hx hb dX5_command_45 (by decide) ?_
    exact join_16 (g 2) (g 3) 1 (g 6) _ _ _ (hP.sub [0] rfl) (hD.sub [0] (by decide) rfl) hS (lv_sub hl [0, 1] rfl)
  · refine zs_top (w := 3) (show (nI j_2) = (3 : Int32) from by rw [h_3]; try rfl) ?_
    refine lv_tableIn (off := 42) (tgt := 48) hx hb dX5_command_6 (by decide) (by decide) rfl (by decide) ?_
    refine lv_aload_n hx hb dX5_command_48 rfl (lv_at hl 0 rfl) ?_
    refine lv_iconst (v := 2) hx hb dX5_command_49 (by decide) ?_
    refine lv_aload_n hx hb dX5_command_50 rfl (lv_at hl 0 rfl) ?_
    refine va_get (D := (dC, dI)) (ci := 5) (v := .int (g 1)) (C := RX5) (T := TX5) (N := 7) hx hb hts zx_5 hown hK hP 0 rfl rfl 1 (by decide) (hts (.fieldLink RX5 17 "KeyboardKit$Timer" "highByte" "I") zw_114) (fun _ h9 => h9) rfl dX5_command_51 ?_
    refine lv_bipush (v := 63) hx hb dX5_command_54 (by decide) ?_
    refine lv_iand hx hb dX5_command_56 ?_
    refine lv_topi (fun v_17 ev_17 => ?_)
    obtain ⟨j_17, hj_17, ej_17⟩ := pk_andE (g 1) (m := 63) 6 (by decide)
    obtain rfl : v_17 = nI j_17 := ev_17.trans ej_17
    have hj_17 : j_17 < 64 := hj_17
    refine lv_bipush (v := 8) hx hb dX5_command_57 (by decide) ?_
    refine lv_ishl hx hb dX5_command_59 ?_
    refine lv_topi (fun v_18 ev_18 => ?_)
    refine lv_aload_n hx hb dX5_command_60 rfl (lv_at hl 0 rfl) ?_
    refine va_get (D := (dC, dI)) (ci := 5) (v := .int (g 0)) (C := RX5) (T := TX5) (N := 7) hx hb hts zx_5 hown hK hP 0 rfl rfl 0 (by decide) (hts (.fieldLink RX5 20 "KeyboardKit$Timer" "lowByte" "I") zw_112) (fun _ h9 => h9) rfl dX5_command_61 ?_
    refine lv_ior hx hb dX5_command_64 ?_
    refine lv_topi (fun v_19 ev_19 => ?_)
    refine zc_i (wr := [(a_t, .inr (5, [.int (g 0), .int (g 1), .int (g 2), .int (g 3), .int (g 4), .int (g 5), .int (g 6)]))]) hP hD hS hA [] [0] rfl rfl (by decide) (by decide) (va_runS (As := [.int 2, .int v_19]) (rest := [.ref a_t]) ⟨hx, hb, hml, hown, hts⟩ (g_max l dC dI (fun _ => 0) (fun _ => 0) (fun _ _ => 0) 2 v_19 _) (va_cwS 2 hts (zg_S zw_510 zw_511 zw_92 zw_512) rfl rfl rfl (by decide +kernel) ⟨Nat.le_of_ble_eq_true rfl, Nat.le_of_ble_eq_true rfl⟩) ⟨zc_blind, zc_start hP hD hK hN [] [] rfl (by decide) rfl⟩ rfl rfl hl.1 rfl (lv_room (Nat.le_of_ble_eq_true rfl)) dX5_command_65 ⟨Nat.le_of_ble_eq_true rfl, Nat.le_of_ble_eq_true rfl⟩) (fun r_20 u_20 H locs hw hK1 hP hD hS => ?_)
    have hP : va_P (dC, dI) vwCl [(a_t, .inr (5, [.int (g 0), .int (g 1), .int (g 2), .int (g 3), .int (g 4), .int (g 5), .int (g 6)]))] H := hP
    have hD : va_D A [(a_t, .inr (5, [.int (g 0), .int (g 1), .int (g 2), .int (g 3), .int (g 4), .int (g 5), .int (g 6)]))] := hD
    refine va_put (D := (dC, dI)) (ci := 5) (v := .int r_20) (ty := .int) (C := RX5) (T := TX5) (N := 7) hx hb hts zx_5 tyX5 tyX5_ok nmX5 hown hK hP hD hS 0 rfl rfl 2 (by decide) (hts (.fieldLink RX5 29 "KeyboardKit$Timer" "length" "I") zw_116) (fun _ h9 => h9) rfl (by decide +kernel) rfl rfl (Nat.le_of_ble_eq_true rfl) dX5_command_68 (fun H locs hP hD hS => ?_)
    have hP : va_P (dC, dI) vwCl [(a_t, .inr (5, [.int (g 0), .int (g 1), .int r_20, .int (g 3), .int (g 4), .int (g 5), .int (g 6)]))] H := hP
    have hD : va_D A [(a_t, .inr (5, [.int (g 0), .int (g 1), .int r_20, .int (g 3), .int (g 4), .int (g 5), .int (g 6)]))] := hD
    refine lv_aload_n hx hb dX5_command_71 rfl (lv_at hl 0 rfl) ?_
    refine lv_aload_n hx hb dX5_command_72 rfl (lv_at hl 0 rfl) ?_
    refine va_get (D := (dC, dI)) (ci := 5) (v := .int (g 1)) (C := RX5) (T := TX5) (N := 7) hx hb hts zx_5 hown hK hP 0 rfl rfl 1 (by decide) (hts (.fieldLink RX5 17 "KeyboardKit$Timer" "highByte" "I") zw_114) (fun _ h9 => h9) rfl dX5_command_73 ?_
    refine lv_bipush (v := 64) hx hb dX5_command_76 (by decide) ?_
    refine lv_iand hx hb dX5_command_78 ?_
    refine lv_topi (fun v_21 ev_21 => ?_)
    have join_24 : ∀ (x_23 : Nat) (hx_23 : x_23 < 2) (H : Heap) (locs : List Loc) (ls : Array Slot), va_P (dC, dI) vwCl [(a_t, .inr (5, [.int (g 0), .int (g 1), .int r_20, .int (g 3), .int (g 4), .int (g 5), .int (g 6)]))] H → va_D A [(a_t, .inr (5, [.int (g 0), .int (g 1), .int r_20, .int (g 3), .int (g 4), .int (g 5), .int (g 6)]))] → va_S A s.heap H locs → lv_has ls 2 [(0, .ref a_t), (1, .int p0)] → W p l e (headSpec (zq yX5_command cX5_command 2 none) ({ frames := 1, cells := 0, slots := 0, locals := 21 })).room s m ([.ref a_t, .int p0] : List Value).toArray below meth c H locs 0 0 (MQ below (va_Qv (fun (u : (Nat → Int32) × (Nat → Nat) × (Nat → Nat → Int32)) => True) (fun (u : (Nat → Int32) × (Nat → Nat) × (Nat → Nat → Int32)) t9 => zc_B (dC, dI) A [(a_t, .inr (5, [.int (u.1 0), .int (u.1 1), .int (u.1 2), .int (u.1 3), .int (u.1 4), .int (u.1 5), .int (u.1 6)]))] [] t9) A) ([.ref a_t, .int p0] : List Value).toArray s 0 0 A) (F0 m 87 ls [.int (nI x_23), .ref a_t]) := by
      intro x_23 hx_23 H locs ls hP hD hS hl
      refine va_put (D := (dC, dI)) (ci := 5) (v := .int (nI x_23)) (ty := .boolean) (C := RX5) (T := TX5) (N := 7) hx hb hts zx_5 tyX5 tyX5_ok nmX5 hown hK hP hD hS 0 rfl rfl 3 (by decide) (hts (.fieldLink RX5 32 "KeyboardKit$Timer" "goesOn" "Z") zw_117) (fun _ h9 => h9) rfl (by decide +kernel) (zn_b (show x_23 < 2 by omega)).1 (zn_b (show x_23 < 2 by omega)).2 (Nat.le_of_ble_eq_true rfl) dX5_command_87 (fun H locs hP hD hS => ?_)
      have hP : va_P (dC, dI) vwCl [(a_t, .inr (5, [.int (g 0), .int (g 1), .int r_20, .int (nI x_23), .int (g 4), .int (g 5), .int (g 6)]))] H := hP
      have hD : va_D A [(a_t, .inr (5, [.int (g 0), .int (g 1), .int r_20, .int (nI x_23), .int (g 4), .int (g 5), .int (g 6)]))] := hD
      refine lv_aload_n hx hb dX5_command_90 rfl (lv_at hl 0 rfl) ?_
      refine lv_iconst (v := 0) hx hb dX5_command_91 (by decide) ?_
      refine va_put (D := (dC, dI)) (ci := 5) (v := .int 0) (ty := .boolean) (C := RX5) (T := TX5) (N := 7) hx hb hts zx_5 tyX5 tyX5_ok nmX5 hown hK hP hD hS 0 rfl rfl 4 (by decide) (hts (.fieldLink RX5 13 "KeyboardKit$Timer" "stopsAtEnd" "Z") zw_118) (fun _ h9 => h9) rfl (by decide +kernel) rfl rfl (Nat.le_of_ble_eq_true rfl) dX5_command_92 (fun H locs hP hD hS => ?_)
      have hP : va_P (dC, dI) vwCl [(a_t, .inr (5, [.int (g 0), .int (g 1), .int r_20, .int (nI x_23), .int 0, .int (g 5), .int (g 6)]))] H := hP
      have hD : va_D A [(a_t, .inr (5, [.int (g 0), .int (g 1), .int r_20, .int (nI x_23), .int 0, .int (g 5), .int (g 6)]))] := hD
      refine lv_aload_n hx hb dX5_command_95 rfl (lv_at hl 0 rfl) ?_
      refine lv_aload_n hx hb dX5_command_96 rfl (lv_at hl 0 rfl) ?_
      refine va_get (D := (dC, dI)) (ci := 5) (v := .int r_20) (C := RX5) (T := TX5) (N := 7) hx hb hts zx_5 hown hK hP 0 rfl rfl 2 (by decide) (hts (.fieldLink RX5 29 "KeyboardKit$Timer" "length" "I") zw_116) (fun _ h9 => h9) rfl dX5_command_97 ?_
      refine va_put (D := (dC, dI)) (ci := 5) (v := .int r_20) (ty := .int) (C := RX5) (T := TX5) (N := 7) hx hb hts zx_5 tyX5 tyX5_ok nmX5 hown hK hP hD hS 0 rfl rfl 6 (by decide) (hts (.fieldLink RX5 7 "KeyboardKit$Timer" "left" "I") zw_120) (fun _ h9 => h9) rfl (by decide +kernel) rfl rfl (Nat.le_of_ble_eq_true rfl) dX5_command_100 (fun H locs hP hD hS => ?_)
      have hP : va_P (dC, dI) vwCl [(a_t, .inr (5, [.int (g 0), .int (g 1), .int r_20, .int (nI x_23), .int 0, .int (g 5), .int r_20]))] H := hP
      have hD : va_D A [(a_t, .inr (5, [.int (g 0), .int (g 1), .int r_20, .int (nI x_23), .int 0, .int (g 5), .int r_20]))] := hD
      refine lv_goto (tgt := 106) hx hb dX5_command_103 (by decide) ?_
      exact join_16 r_20 (nI x_23) 0 r_20 _ _ _ (hP.sub [0] rfl) (hD.sub [0] (by decide) rfl) hS (lv_sub hl [0, 1] rfl)
    refine lv_if_eq (tgt := 86) hx hb dX5_command_79 (by decide) (fun c_22 => ?_) (fun c_22 => ?_)
    · refine lv_iconst (v := 0) hx hb dX5_command_86 (by decide) ?_
      exact join_24 0 (by omega) _ _ _ (hP.sub [0] rfl) (hD.sub [0] (by decide) rfl) hS (lv_sub hl [0, 1] rfl)
    · refine lv_iconst (v := 1) hx hb dX5_command_82 (by decide) ?_
      refine lv_goto (tgt := 87) hx hb dX5_command_83 (by decide) ?_
      exact join_24 1 (by omega) _ _ _ (hP.sub [0] rfl) (hD.sub [0] (by decide) rfl) hS (lv_sub hl [0, 1] rfl)
  · refine lv_tableOut (tgt := 106) hx hb dX5_command_6 (by rw [nI_toInt (by omega)]; omega) (by decide) ?_
    exact join_16 (g 2) (g 3) (g 4) (g 6) _ _ _ (hP.sub [0] rfl) (hD.sub [0] (by decide) rfl) hS (lv_sub hl [0, 1] rfl)
