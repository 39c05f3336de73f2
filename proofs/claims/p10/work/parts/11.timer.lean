theorem dX5_takeEnded_0 : decode cX5_takeEnded 0 = .ok (.aload_n 0, 1) := by decide +kernel
theorem dX5_takeEnded_1 : decode cX5_takeEnded 1 = .ok (.getfield 35, 3) := by decide +kernel
theorem dX5_takeEnded_12 : decode cX5_takeEnded 12 = .ok (.iconst 0, 1) := by decide +kernel
theorem dX5_takeEnded_13 : decode cX5_takeEnded 13 = .ok (.istore_n 1, 1) := by decide +kernel
theorem dX5_takeEnded_14 : decode cX5_takeEnded 14 = .ok (.aload_n 0, 1) := by decide +kernel
theorem dX5_takeEnded_15 : decode cX5_takeEnded 15 = .ok (.iconst 0, 1) := by decide +kernel
theorem dX5_takeEnded_16 : decode cX5_takeEnded 16 = .ok (.putfield 35, 3) := by decide +kernel
theorem dX5_takeEnded_19 : decode cX5_takeEnded 19 = .ok (.iload_n 1, 1) := by decide +kernel
theorem dX5_takeEnded_20 : decode cX5_takeEnded 20 = .ok (.ireturn, 1) := by decide +kernel
theorem dX5_takeEnded_4 : decode cX5_takeEnded 4 = .ok (.ifCond .eq 8, 3) := by decide +kernel
theorem dX5_takeEnded_7 : decode cX5_takeEnded 7 = .ok (.bipush 64, 2) := by decide +kernel
theorem dX5_takeEnded_9 : decode cX5_takeEnded 9 = .ok (.goto 4, 3) := by decide +kernel
theorem dX5_tick_0 : decode cX5_tick 0 = .ok (.aload_n 0, 1) := by decide +kernel
theorem dX5_tick_1 : decode cX5_tick 1 = .ok (.getfield 7, 3) := by decide +kernel
theorem dX5_tick_10 : decode cX5_tick 10 = .ok (.dup, 1) := by decide +kernel
theorem dX5_tick_11 : decode cX5_tick 11 = .ok (.getfield 7, 3) := by decide +kernel
theorem dX5_tick_14 : decode cX5_tick 14 = .ok (.iconst 1, 1) := by decide +kernel
theorem dX5_tick_15 : decode cX5_tick 15 = .ok (.isub, 1) := by decide +kernel
theorem dX5_tick_16 : decode cX5_tick 16 = .ok (.putfield 7, 3) := by decide +kernel
theorem dX5_tick_19 : decode cX5_tick 19 = .ok (.aload_n 0, 1) := by decide +kernel
theorem dX5_tick_20 : decode cX5_tick 20 = .ok (.getfield 7, 3) := by decide +kernel
theorem dX5_tick_23 : decode cX5_tick 23 = .ok (.ifCond .le 5, 3) := by decide +kernel
theorem dX5_tick_26 : decode cX5_tick 26 = .ok (.iconst 0, 1) := by decide +kernel
theorem dX5_tick_27 : decode cX5_tick 27 = .ok (.ireturn, 1) := by decide +kernel
theorem dX5_tick_28 : decode cX5_tick 28 = .ok (.aload_n 0, 1) := by decide +kernel
theorem dX5_tick_29 : decode cX5_tick 29 = .ok (.iconst 1, 1) := by decide +kernel
theorem dX5_tick_30 : decode cX5_tick 30 = .ok (.putfield 35, 3) := by decide +kernel
theorem dX5_tick_33 : decode cX5_tick 33 = .ok (.aload_n 0, 1) := by decide +kernel
theorem dX5_tick_34 : decode cX5_tick 34 = .ok (.getfield 32, 3) := by decide +kernel
theorem dX5_tick_37 : decode cX5_tick 37 = .ok (.ifCond .eq 18, 3) := by decide +kernel
theorem dX5_tick_4 : decode cX5_tick 4 = .ok (.ifCond .ne 5, 3) := by decide +kernel
theorem dX5_tick_40 : decode cX5_tick 40 = .ok (.aload_n 0, 1) := by decide +kernel
theorem dX5_tick_41 : decode cX5_tick 41 = .ok (.getfield 13, 3) := by decide +kernel
theorem dX5_tick_44 : decode cX5_tick 44 = .ok (.ifCond .ne 11, 3) := by decide +kernel
theorem dX5_tick_47 : decode cX5_tick 47 = .ok (.aload_n 0, 1) := by decide +kernel
theorem dX5_tick_48 : decode cX5_tick 48 = .ok (.aload_n 0, 1) := by decide +kernel
theorem dX5_tick_49 : decode cX5_tick 49 = .ok (.getfield 29, 3) := by decide +kernel
theorem dX5_tick_52 : decode cX5_tick 52 = .ok (.putfield 7, 3) := by decide +kernel
theorem dX5_tick_55 : decode cX5_tick 55 = .ok (.iconst 1, 1) := by decide +kernel
theorem dX5_tick_56 : decode cX5_tick 56 = .ok (.ireturn, 1) := by decide +kernel
theorem dX5_tick_7 : decode cX5_tick 7 = .ok (.iconst 0, 1) := by decide +kernel
theorem dX5_tick_8 : decode cX5_tick 8 = .ok (.ireturn, 1) := by decide +kernel
theorem dX5_tick_9 : decode cX5_tick 9 = .ok (.aload_n 0, 1) := by decide +kernel
set_option maxHeartbeats 4000000 in
set_option maxRecDepth 100000 in
theorem g_X5_takeEnded (l : Launch) (dC : Nat → ClassId) (dI : Nat → Nat → Nat) (a_t : Nat) (g : Nat → Int32) (n : Nat → Nat) (f : Nat → Nat → Int32) (sz : Nat) : Met l yX5_takeEnded (zq yX5_takeEnded cX5_takeEnded 2 (some .int)) ({ frames := 0, cells := 0, slots := 0, locals := 0 }) (va_Pc [.ref a_t] (zc_P (dC, dI) [(a_t, .inr (5, [.int (g 0), .int (g 1), .int (g 2), .int (g 3), .int (g 4), .int (g 5), .int (g 6)]))] [] sz)) (va_Qi (fun (r : Int32) (u : (Nat → Int32) × (Nat → Nat) × (Nat → Nat → Int32)) => True) (fun (u : (Nat → Int32) × (Nat → Nat) × (Nat → Nat → Int32)) t9 => zc_B (dC, dI) (va_A [(a_t, .inr (5, [.int (g 0), .int (g 1), .int (g 2), .int (g 3), .int (g 4), .int (g 5), .int (g 6)]))] sz) [(a_t, .inr (5, [.int (u.1 0), .int (u.1 1), .int (u.1 2), .int (u.1 3), .int (u.1 4), .int (u.1 5), .int (u.1 6)]))] [] t9) (va_A [(a_t, .inr (5, [.int (g 0), .int (g 1), .int (g 2), .int (g 3), .int (g 4), .int (g 5), .int (g 6)]))] sz)) 0 0 (va_A [(a_t, .inr (5, [.int (g 0), .int (g 1), .int (g 2), .int (g 3), .int (g 4), .int (g 5), .int (g 6)]))] sz) := by
  refine Met.ofW (cc := cX5_takeEnded) (maxL := 2) (ret := (some .int)) (by decide) rfl ?_
  intro p e s m args below meth c s₁ B hml hv
  obtain ⟨rfl, hsz, hP, hK, hD0, hN⟩ := hv
  have hx := B.exec
  have hb := B.bytes
  have hr := B.returns
  have hts : ∀ w ∈ zw, w.before _ s = true := fun w h => atoms_spec (ws := (zq yX5_takeEnded cX5_takeEnded 2 (some .int))) B.pre w (List.mem_cons_of_mem _ h)
  have hown : s.vm.findClass RX5 = some m.cls := findClass_of_methodNamed B.named
  have hlocks := B.notSynchronized
  subst hsz
  have hD := hD0.self (sz := s.heap.size)
  generalize hAe : va_A [(a_t, .inr (5, [.int (g 0), .int (g 1), .int (g 2), .int (g 3), .int (g 4), .int (g 5), .int (g 6)]))] s.heap.size = A at hD ⊢
  have hA : ∀ q : Nat, s.heap.size ≤ q → A q := fun q h => by rw [← hAe]; exact Or.inr h
  have hS : va_S A s.heap s.heap [] := va_S.rf
  have hP : va_P (dC, dI) vwCl [(a_t, .inr (5, [.int (g 0), .int (g 1), .int (g 2), .int (g 3), .int (g 4), .int (g 5), .int (g 6)]))] s.heap := hP
  have hl := lv_entry ([.ref a_t]) (n := 2) (Nat.le_of_ble_eq_true rfl)
  rw [lg_entry_eq]
  generalize (lg_sl ([.ref a_t]) ++ List.replicate (2 - (lg_sl ([.ref a_t])).length) Slot.unset).toArray = ls at hl ⊢
  have hl : lv_has ls 2 [(0, .ref a_t)] := hl
  refine lv_aload_n hx hb dX5_takeEnded_0 rfl (lv_at hl 0 rfl) ?_
  refine va_get (D := (dC, dI)) (ci := 5) (v := .int (g 5)) (C := RX5) (T := TX5) (N := 7) hx hb hts zx_5 hown hK hP 0 rfl rfl 5 (by decide) (hts (.fieldLink RX5 35 "KeyboardKit$Timer" "endedSinceRead" "Z") zw_119) (fun _ h9 => h9) rfl dX5_takeEnded_1 ?_
  have join_3 : ∀ (x_2 : Nat) (hx_2 : x_2 < 65) (H : Heap) (locs : List Loc) (ls : Array Slot), va_P (dC, dI) vwCl [(a_t, .inr (5, [.int (g 0), .int (g 1), .int (g 2), .int (g 3), .int (g 4), .int (g 5), .int (g 6)]))] H → va_D A [(a_t, .inr (5, [.int (g 0), .int (g 1), .int (g 2), .int (g 3), .int (g 4), .int (g 5), .int (g 6)]))] → va_S A s.heap H locs → lv_has ls 2 [(0, .ref a_t)] → W p l e (headSpec (zq yX5_takeEnded cX5_takeEnded 2 (some .int)) ({ frames := 0, cells := 0, slots := 0, locals := 0 })).room s m ([.ref a_t] : List Value).toArray below meth c H locs 0 0 (MQ below (va_Qi (fun (r : Int32) (u : (Nat → Int32) × (Nat → Nat) × (Nat → Nat → Int32)) => True) (fun (u : (Nat → Int32) × (Nat → Nat) × (Nat → Nat → Int32)) t9 => zc_B (dC, dI) A [(a_t, .inr (5, [.int (u.1 0), .int (u.1 1), .int (u.1 2), .int (u.1 3), .int (u.1 4), .int (u.1 5), .int (u.1 6)]))] [] t9) A) ([.ref a_t] : List Value).toArray s 0 0 A) (F0 m 13 ls [.int (nI x_2)]) := by
    intro x_2 hx_2 H locs ls hP hD hS hl
    refine lv_istore_n (lv' := [(1, .int (nI x_2)), (0, .ref a_t)]) hx hb dX5_takeEnded_13 rfl hl (by decide) rfl (fun ls hl => ?_)
    refine lv_aload_n hx hb dX5_takeEnded_14 rfl (lv_at hl 1 rfl) ?_
    refine lv_iconst (v := 0) hx hb dX5_takeEnded_15 (by decide) ?_
    refine va_put (D := (dC, dI)) (ci := 5) (v := .int 0) (ty := .boolean) (C := RX5) (T := TX5) (N := 7) hx hb hts zx_5 tyX5 tyX5_ok nmX5 hown hK hP hD hS 0 rfl rfl 5 (by decide) (hts (.fieldLink RX5 35 "KeyboardKit$Timer" "endedSinceRead" "Z") zw_119) (fun _ h9 => h9) rfl (by decide +kernel) rfl rfl (Nat.le_of_ble_eq_true rfl) dX5_takeEnded_16 (fun H locs hP hD hS => ?_)
    have hP : va_P (dC, dI) vwCl [(a_t, .inr (5, [.int (g 0), .int (g 1), .int (g 2), .int (g 3), .int (g 4), .int 0, .int (g 6)]))] H := hP
    have hD : va_D A [(a_t, .inr (5, [.int (g 0), .int (g 1), .int (g 2), .int (g 3), .int (g 4), .int 0, .int (g 6)]))] := hD
    refine lv_iload_n hx hb dX5_takeEnded_19 rfl (lv_at hl 0 rfl) ?_
    have hP9 := hP.sub (ws' := [(a_t, .inr (5, [.int (g 0), .int (g 1), .int (g 2), .int (g 3), .int (g 4), .int 0, .int (g 6)]))]) [0] rfl
    have hD9 := hD.sub (ws' := [(a_t, .inr (5, [.int (g 0), .int (g 1), .int (g 2), .int (g 3), .int (g 4), .int 0, .int (g 6)]))]) [0] (by decide) rfl
    have hK9 := hK.sub (tys' := []) [] rfl
    exact W.iret (v := (nI x_2)) hx hb hr (fun t9 ht hW => ⟨⟨(nI x_2), ((fun k9 => match k9 with | 0 => g 0 | 1 => g 1 | 2 => g 2 | 3 => g 3 | 4 => g 4 | 5 => 0 | _ => g 6), (fun _ => 0), (fun _ _ => 0)), rfl, trivial, by rw [ht]; exact hP9, va_K.moved hW.alike hK9, hD9⟩, hS.F ht⟩) hS.2.2 dX5_takeEnded_20
  refine lv_if_eq (tgt := 12) hx hb dX5_takeEnded_4 (by decide) (fun c_1 => ?_) (fun c_1 => ?_)
  · refine lv_iconst (v := 0) hx hb dX5_takeEnded_12 (by decide) ?_
    exact join_3 0 (by omega) _ _ _ (hP.sub [0] rfl) (hD.sub [0] (by decide) rfl) hS (lv_sub hl [0] rfl)
  · refine lv_bipush (v := 64) hx hb dX5_takeEnded_7 (by decide) ?_
    refine lv_goto (tgt := 13) hx hb dX5_takeEnded_9 (by decide) ?_
    exact join_3 64 (by omega) _ _ _ (hP.sub [0] rfl) (hD.sub [0] (by decide) rfl) hS (lv_sub hl [0] rfl)
set_option maxHeartbeats 4000000 in
set_option maxRecDepth 100000 in
theorem g_X5_tick (l : Launch) (dC : Nat → ClassId) (dI : Nat → Nat → Nat) (a_t : Nat) (g : Nat → Int32) (n : Nat → Nat) (f : Nat → Nat → Int32) (sz : Nat) : Met l yX5_tick (zq yX5_tick cX5_tick 1 (some .boolean)) ({ frames := 0, cells := 0, slots := 0, locals := 0 }) (va_Pc [.ref a_t] (zc_P (dC, dI) [(a_t, .inr (5, [.int (g 0), .int (g 1), .int (g 2), .int (g 3), .int (g 4), .int (g 5), .int (g 6)]))] [] sz)) (va_Qi (fun (r : Int32) (u : (Nat → Int32) × (Nat → Nat) × (Nat → Nat → Int32)) => True) (fun (u : (Nat → Int32) × (Nat → Nat) × (Nat → Nat → Int32)) t9 => zc_B (dC, dI) (va_A [(a_t, .inr (5, [.int (g 0), .int (g 1), .int (g 2), .int (g 3), .int (g 4), .int (g 5), .int (g 6)]))] sz) [(a_t, .inr (5, [.int (u.1 0), .int (u.1 1), .int (u.1 2), .int (u.1 3), .int (u.1 4), .int (u.1 5), .int (u.1 6)]))] [] t9) (va_A [(a_t, .inr (5, [.int (g 0), .int (g 1), .int (g 2), .int (g 3), .int (g 4), .int (g 5), .int (g 6)]))] sz)) 0 0 (va_A [(a_t, .inr (5, [.int (g 0), .int (g 1), .int (g 2), .int (g 3), .int (g 4), .int (g 5), .int (g 6)]))] sz) := by
  refine Met.ofW (cc := cX5_tick) (maxL := 1) (ret := (some .boolean)) (by decide) rfl ?_
  intro p e s m args below meth c s₁ B hml hv
  obtain ⟨rfl, hsz, hP, hK, hD0, hN⟩ := hv
  have hx := B.exec
  have hb := B.bytes
  have hr := B.returns
  have hts : ∀ w ∈ zw, w.before _ s = true := fun w h => atoms_spec (ws := (zq yX5_tick cX5_tick 1 (some .boolean))) B.pre w (List.mem_cons_of_mem _ h)
  have hown : s.vm.findClass RX5 = some m.cls := findClass_of_methodNamed B.named
  have hlocks := B.notSynchronized
  subst hsz
  have hD := hD0.self (sz := s.heap.size)
  generalize hAe : va_A [(a_t, .inr (5, [.int (g 0), .int (g 1), .int (g 2), .int (g 3), .int (g 4), .int (g 5), .int (g 6)]))] s.heap.size = A at hD ⊢
  have hA : ∀ q : Nat, s.heap.size ≤ q → A q := fun q h => by rw [← hAe]; exact Or.inr h
  have hS : va_S A s.heap s.heap [] := va_S.rf
  have hP : va_P (dC, dI) vwCl [(a_t, .inr (5, [.int (g 0), .int (g 1), .int (g 2), .int (g 3), .int (g 4), .int (g 5), .int (g 6)]))] s.heap := hP
  have hl := lv_entry ([.ref a_t]) (n := 1) (Nat.le_of_ble_eq_true rfl)
  rw [lg_entry_eq]
  generalize (lg_sl ([.ref a_t]) ++ List.replicate (1 - (lg_sl ([.ref a_t])).length) Slot.unset).toArray = ls at hl ⊢
  have hl : lv_has ls 1 [(0, .ref a_t)] := hl
  refine lv_aload_n hx hb dX5_tick_0 rfl (lv_at hl 0 rfl) ?_
  refine va_get (D := (dC, dI)) (ci := 5) (v := .int (g 6)) (C := RX5) (T := TX5) (N := 7) hx hb hts zx_5 hown hK hP 0 rfl rfl 6 (by decide) (hts (.fieldLink RX5 7 "KeyboardKit$Timer" "left" "I") zw_120) (fun _ h9 => h9) rfl dX5_tick_1 ?_
  refine lv_if_ne (tgt := 9) hx hb dX5_tick_4 (by decide) (fun c_1 => ?_) (fun c_1 => ?_)
  · refine lv_aload_n hx hb dX5_tick_9 rfl (lv_at hl 0 rfl) ?_
    refine lv_dup hx hb dX5_tick_10 rfl ?_
    refine va_get (D := (dC, dI)) (ci := 5) (v := .int (g 6)) (C := RX5) (T := TX5) (N := 7) hx hb hts zx_5 hown hK hP 0 rfl rfl 6 (by decide) (hts (.fieldLink RX5 7 "KeyboardKit$Timer" "left" "I") zw_120) (fun _ h9 => h9) rfl dX5_tick_11 ?_
    refine lv_iconst (v := 1) hx hb dX5_tick_14 (by decide) ?_
    refine lv_isub hx hb dX5_tick_15 ?_
    refine lv_topi (fun v_2 ev_2 => ?_)
    refine va_put (D := (dC, dI)) (ci := 5) (v := .int v_2) (ty := .int) (C := RX5) (T := TX5) (N := 7) hx hb hts zx_5 tyX5 tyX5_ok nmX5 hown hK hP hD hS 0 rfl rfl 6 (by decide) (hts (.fieldLink RX5 7 "KeyboardKit$Timer" "left" "I") zw_120) (fun _ h9 => h9) rfl (by decide +kernel) rfl rfl (Nat.le_of_ble_eq_true rfl) dX5_tick_16 (fun H locs hP hD hS => ?_)
    have hP : va_P (dC, dI) vwCl [(a_t, .inr (5, [.int (g 0), .int (g 1), .int (g 2), .int (g 3), .int (g 4), .int (g 5), .int v_2]))] H := hP
    have hD : va_D A [(a_t, .inr (5, [.int (g 0), .int (g 1), .int (g 2), .int (g 3), .int (g 4), .int (g 5), .int v_2]))] := hD
    refine lv_aload_n hx hb dX5_tick_19 rfl (lv_at hl 0 rfl) ?_
    refine va_get (D := (dC, dI)) (ci := 5) (v := .int v_2) (C := RX5) (T := TX5) (N := 7) hx hb hts zx_5 hown hK hP 0 rfl rfl 6 (by decide) (hts (.fieldLink RX5 7 "KeyboardKit$Timer" "left" "I") zw_120) (fun _ h9 => h9) rfl dX5_tick_20 ?_
    refine lv_if_le (tgt := 28) hx hb dX5_tick_23 (by decide) (fun c_3 => ?_) (fun c_3 => ?_)
    · refine lv_aload_n hx hb dX5_tick_28 rfl (lv_at hl 0 rfl) ?_
      refine lv_iconst (v := 1) hx hb dX5_tick_29 (by decide) ?_
      refine va_put (D := (dC, dI)) (ci := 5) (v := .int 1) (ty := .boolean) (C := RX5) (T := TX5) (N := 7) hx hb hts zx_5 tyX5 tyX5_ok nmX5 hown hK hP hD hS 0 rfl rfl 5 (by decide) (hts (.fieldLink RX5 35 "KeyboardKit$Timer" "endedSinceRead" "Z") zw_119) (fun _ h9 => h9) rfl (by decide +kernel) rfl rfl (Nat.le_of_ble_eq_true rfl) dX5_tick_30 (fun H locs hP hD hS => ?_)
      have hP : va_P (dC, dI) vwCl [(a_t, .inr (5, [.int (g 0), .int (g 1), .int (g 2), .int (g 3), .int (g 4), .int 1, .int v_2]))] H := hP
      have hD : va_D A [(a_t, .inr (5, [.int (g 0), .int (g 1), .int (g 2), .int (g 3), .int (g 4), .int 1, .int v_2]))] := hD
      refine lv_aload_n hx hb dX5_tick_33 rfl (lv_at hl 0 rfl) ?_
      refine va_get (D := (dC, dI)) (ci := 5) (v := .int (g 3)) (C := RX5) (T := TX5) (N := 7) hx hb hts zx_5 hown hK hP 0 rfl rfl 3 (by decide) (hts (.fieldLink RX5 32 "KeyboardKit$Timer" "goesOn" "Z") zw_117) (fun _ h9 => h9) rfl dX5_tick_34 ?_
      have join_7 : ∀ (x_6 : Int32) (H : Heap) (locs : List Loc) (ls : Array Slot), va_P (dC, dI) vwCl [(a_t, .inr (5, [.int (g 0), .int (g 1), .int (g 2), .int (g 3), .int (g 4), .int 1, .int x_6]))] H → va_D A [(a_t, .inr (5, [.int (g 0), .int (g 1), .int (g 2), .int (g 3), .int (g 4), .int 1, .int x_6]))] → va_S A s.heap H locs → lv_has ls 1 [(0, .ref a_t)] → W p l e (headSpec (zq yX5_tick cX5_tick 1 (some .boolean)) ({ frames := 0, cells := 0, slots := 0, locals := 0 })).room s m ([.ref a_t] : List Value).toArray below meth c H locs 0 0 (MQ below (va_Qi (fun (r : Int32) (u : (Nat → Int32) × (Nat → Nat) × (Nat → Nat → Int32)) => True) (fun (u : (Nat → Int32) × (Nat → Nat) × (Nat → Nat → Int32)) t9 => zc_B (dC, dI) A [(a_t, .inr (5, [.int (u.1 0), .int (u.1 1), .int (u.1 2), .int (u.1 3), .int (u.1 4), .int (u.1 5), .int (u.1 6)]))] [] t9) A) ([.ref a_t] : List Value).toArray s 0 0 A) (F0 m 55 ls []) := by
        intro x_6 H locs ls hP hD hS hl
        refine lv_iconst (v := 1) hx hb dX5_tick_55 (by decide) ?_
        have hP9 := hP.sub (ws' := [(a_t, .inr (5, [.int (g 0), .int (g 1), .int (g 2), .int (g 3), .int (g 4), .int 1, .int x_6]))]) [0] rfl
        have hD9 := hD.sub (ws' := [(a_t, .inr (5, [.int (g 0), .int (g 1), .int (g 2), .int (g 3), .int (g 4), .int 1, .int x_6]))]) [0] (by decide) rfl
        have hK9 := hK.sub (tys' := []) [] rfl
        exact W.zret (v := 1) hx hb hr rfl (fun t9 ht hW => ⟨⟨1, ((fun k9 => match k9 with | 0 => g 0 | 1 => g 1 | 2 => g 2 | 3 => g 3 | 4 => g 4 | 5 => 1 | _ => x_6), (fun _ => 0), (fun _ _ => 0)), rfl, trivial, by rw [ht]; exact hP9, va_K.moved hW.alike hK9, hD9⟩, hS.F ht⟩) hS.2.2 dX5_tick_56
      refine lv_if_eq (tgt := 55) hx hb dX5_tick_37 (by decide) (fun c_4 => ?_) (fun c_4 => ?_)
      · exact join_7 v_2 _ _ _ (hP.sub [0] rfl) (hD.sub [0] (by decide) rfl) hS (lv_sub hl [0] rfl)
      · refine lv_aload_n hx hb dX5_tick_40 rfl (lv_at hl 0 rfl) ?_
        refine va_get (D := (dC, dI)) (ci := 5) (v := .int (g 4)) (C := RX5) (T := TX5) (N := 7) hx hb hts zx_5 hown hK hP 0 rfl rfl 4 (by decide) (hts (.fieldLink RX5 13 "KeyboardKit$Timer" "stopsAtEnd" "Z") zw_118) (fun _ h9 => h9) rfl dX5_tick_41 ?_
        refine lv_if_ne (tgt := 55) hx hb dX5_tick_44 (by decide) (fun c_8 => ?_) (fun c_8 => ?_)
        · exact join_7 v_2 _ _ _ (hP.sub [0] rfl) (hD.sub [0] (by decide) rfl) hS (lv_sub hl [0] rfl)
        · refine lv_aload_n hx hb dX5_tick_47 rfl (lv_at hl 0 rfl) ?_
          refine lv_aload_n hx hb dX5_tick_48 rfl (lv_at hl 0 rfl) ?_
          refine va_get (D := (dC, dI)) (ci := 5) (v := .int (g 2)) (C := RX5) (T := TX5) (N := 7) hx hb hts zx_5 hown hK hP 0 rfl rfl 2 (by decide) (hts (.fieldLink RX5 29 "KeyboardKit$Timer" "length" "I") zw_116) (fun _ h9 => h9) rfl dX5_tick_49 ?_
          refine va_put (D := (dC, dI)) (ci := 5) (v := .int (g 2)) (ty := .int) (C := RX5) (T := TX5) (N := 7) hx hb hts zx_5 tyX5 tyX5_ok nmX5 hown hK hP hD hS 0 rfl rfl 6 (by decide) (hts (.fieldLink RX5 7 "KeyboardKit$Timer" "left" "I") zw_120) (fun _ h9 => h9) rfl (by decide +kernel) rfl rfl (Nat.le_of_ble_eq_true rfl) dX5_tick_52 (fun H locs hP hD hS => ?_)
          have hP : va_P (dC, dI) vwCl [(a_t, .inr (5, [.int (g 0), .int (g 1), .int (g 2), .int (g 3), .int (g 4), .int 1, .int (g 2)]))] H := hP
          have hD : va_D A [(a_t, .inr (5, [.int (g 0), .int (g 1), .int (g 2), .int (g 3), .int (g 4), .int 1, .int (g 2)]))] := hD
          exact join_7 (g 2) _ _ _ (hP.sub [0] rfl) (hD.sub [0] (by decide) rfl) hS (lv_sub hl [0] rfl)
    · refine lv_iconst (v := 0) hx hb dX5_tick_26 (by decide) ?_
      have hP9 := hP.sub (ws' := [(a_t, .inr (5, [.int (g 0), .int (g 1), .int (g 2), .int (g 3), .int (g 4), .int (g 5), .int v_2]))]) [0] rfl
      have hD9 := hD.sub (ws' := [(a_t, .inr (5, [.int (g 0), .int (g 1), .int (g 2), .int (g 3), .int (g 4), .int (g 5), .int v_2]))]) [0] (by decide) rfl
      have hK9 := hK.sub (tys' := []) [] rfl
      exact W.zret (v := 0) hx hb hr rfl (fun t9 ht hW => ⟨⟨0, ((fun k9 => match k9 with | 0 => g 0 | 1 => g 1 | 2 => g 2 | 3 => g 3 | 4 => g 4 | 5 => g 5 | _ => v_2), (fun _ => 0), (fun _ _ => 0)), rfl, trivial, by rw [ht]; exact hP9, va_K.moved hW.alike hK9, hD9⟩, hS.F ht⟩) hS.2.2 dX5_tick_27
  · refine lv_iconst (v := 0) hx hb dX5_tick_7 (by decide) ?_
    have hP9 := hP.sub (ws' := [(a_t, .inr (5, [.int (g 0), .int (g 1), .int (g 2), .int (g 3), .int (g 4), .int (g 5), .int (g 6)]))]) [0] rfl
    have hD9 := hD.sub (ws' := [(a_t, .inr (5, [.int (g 0), .int (g 1), .int (g 2), .int (g 3), .int (g 4), .int (g 5), .int (g 6)]))]) [0] (by decide) rfl
    have hK9 := hK.sub (tys' := []) [] rfl
    exact W.zret (v := 0) hx hb hr rfl (fun t9 ht hW => ⟨⟨0, ((g), (fun _ => 0), (fun _ _ => 0)), rfl, trivial, by rw [ht]; exact hP9, va_K.moved hW.alike hK9, hD9⟩, hS.F ht⟩) hS.2.2 dX5_tick_8
