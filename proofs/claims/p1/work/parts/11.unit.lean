theorem dX2_scan_0 : decode cX2_scan 0 = .ok (.aload_n 0, 1) := by decide +kernel
theorem dX2_scan_1 : decode cX2_scan 1 = .ok (.getfield 9, 3) := by decide +kernel
theorem dX2_scan_10 : decode cX2_scan 10 = .ok (.getfield 18, 3) := by decide +kernel
theorem dX2_scan_13 : decode cX2_scan 13 = .ok (.iload_n 1, 1) := by decide +kernel
theorem dX2_scan_14 : decode cX2_scan 14 = .ok (.iconst 0, 1) := by decide +kernel
theorem dX2_scan_15 : decode cX2_scan 15 = .ok (.bastore, 1) := by decide +kernel
theorem dX2_scan_16 : decode cX2_scan 16 = .ok (.goto 33, 3) := by decide +kernel
theorem dX2_scan_4 : decode cX2_scan 4 = .ok (.iload_n 1, 1) := by decide +kernel
theorem dX2_scan_49 : decode cX2_scan 49 = .ok (.aload_n 0, 1) := by decide +kernel
theorem dX2_scan_5 : decode cX2_scan 5 = .ok (.baload, 1) := by decide +kernel
theorem dX2_scan_50 : decode cX2_scan 50 = .ok (.getfield 15, 3) := by decide +kernel
theorem dX2_scan_53 : decode cX2_scan 53 = .ok (.iload_n 1, 1) := by decide +kernel
theorem dX2_scan_54 : decode cX2_scan 54 = .ok (.aload_n 0, 1) := by decide +kernel
theorem dX2_scan_55 : decode cX2_scan 55 = .ok (.getfield 9, 3) := by decide +kernel
theorem dX2_scan_58 : decode cX2_scan 58 = .ok (.iload_n 1, 1) := by decide +kernel
theorem dX2_scan_59 : decode cX2_scan 59 = .ok (.baload, 1) := by decide +kernel
theorem dX2_scan_6 : decode cX2_scan 6 = .ok (.ifCond .ne 13, 3) := by decide +kernel
theorem dX2_scan_60 : decode cX2_scan 60 = .ok (.bastore, 1) := by decide +kernel
theorem dX2_scan_61 : decode cX2_scan 61 = .ok (.return_, 1) := by decide +kernel
theorem dX2_scan_9 : decode cX2_scan 9 = .ok (.aload_n 0, 1) := by decide +kernel
theorem dX2_tick_0 : decode cX2_tick 0 = .ok (.aload_n 0, 1) := by decide +kernel
theorem dX2_tick_1 : decode cX2_tick 1 = .ok (.dup, 1) := by decide +kernel
theorem dX2_tick_10 : decode cX2_tick 10 = .ok (.aload_n 0, 1) := by decide +kernel
theorem dX2_tick_11 : decode cX2_tick 11 = .ok (.getfield 28, 3) := by decide +kernel
theorem dX2_tick_14 : decode cX2_tick 14 = .ok (.ifCond .ne 28, 3) := by decide +kernel
theorem dX2_tick_17 : decode cX2_tick 17 = .ok (.aload_n 0, 1) := by decide +kernel
theorem dX2_tick_18 : decode cX2_tick 18 = .ok (.bipush 64, 2) := by decide +kernel
theorem dX2_tick_2 : decode cX2_tick 2 = .ok (.getfield 28, 3) := by decide +kernel
theorem dX2_tick_20 : decode cX2_tick 20 = .ok (.putfield 28, 3) := by decide +kernel
theorem dX2_tick_23 : decode cX2_tick 23 = .ok (.iconst 0, 1) := by decide +kernel
theorem dX2_tick_24 : decode cX2_tick 24 = .ok (.istore_n 1, 1) := by decide +kernel
theorem dX2_tick_25 : decode cX2_tick 25 = .ok (.iload_n 1, 1) := by decide +kernel
theorem dX2_tick_26 : decode cX2_tick 26 = .ok (.bipush 16, 2) := by decide +kernel
theorem dX2_tick_28 : decode cX2_tick 28 = .ok (.if_icmp .ge 14, 3) := by decide +kernel
theorem dX2_tick_31 : decode cX2_tick 31 = .ok (.aload_n 0, 1) := by decide +kernel
theorem dX2_tick_32 : decode cX2_tick 32 = .ok (.iload_n 1, 1) := by decide +kernel
theorem dX2_tick_33 : decode cX2_tick 33 = .ok (.invokevirtual 51, 3) := by decide +kernel
theorem dX2_tick_36 : decode cX2_tick 36 = .ok (.iinc 1 1, 3) := by decide +kernel
theorem dX2_tick_39 : decode cX2_tick 39 = .ok (.goto (-14), 3) := by decide +kernel
theorem dX2_tick_42 : decode cX2_tick 42 = .ok (.return_, 1) := by decide +kernel
theorem dX2_tick_5 : decode cX2_tick 5 = .ok (.iconst 1, 1) := by decide +kernel
theorem dX2_tick_6 : decode cX2_tick 6 = .ok (.isub, 1) := by decide +kernel
theorem dX2_tick_7 : decode cX2_tick 7 = .ok (.putfield 28, 3) := by decide +kernel
set_option maxHeartbeats 4000000 in
set_option maxRecDepth 100000 in
/-- KeyUnit.scan(k), no key down: nothing changes -/
theorem c_scan (l : Launch) (dC : Nat → ClassId) (dI : Nat → Nat → Nat) (a_u : Nat) (a_d : Nat) (a_b : Nat) (a_c : Nat) (a_q : Nat) (a_s : Nat) (k_d : ClassId) (k_b : ClassId) (k_c : ClassId) (t : Int32) (k : Int32) (hk : vp_in k 16) (sz : Nat) : Met l yX2_scan (zq yX2_scan cX2_scan 2 none) ({ frames := 0, cells := 0, slots := 0, locals := 0 }) (va_Pc [.ref a_u, .int k] (zc_P (dC, dI) [(a_u, .inr (2, [.ref a_d, .ref a_b, .ref a_c, .ref a_q, .int 0, .int 0, .int 0, .int 0, .ref a_s, .int 0, .int t])), (a_d, .inl (k_d, 16, .inl (fun _ => 0))), (a_b, .inl (k_b, 16, .inl (fun _ => 0))), (a_c, .inl (k_c, 16, .inl (fun _ => 0)))] [(k_d, .boolean), (k_b, .boolean), (k_c, .boolean)] sz)) (va_Qv (fun _ => True) (fun (u : Unit) t9 => zc_B (dC, dI) (va_A [(a_u, .inr (2, [.ref a_d, .ref a_b, .ref a_c, .ref a_q, .int 0, .int 0, .int 0, .int 0, .ref a_s, .int 0, .int t])), (a_d, .inl (k_d, 16, .inl (fun _ => 0))), (a_b, .inl (k_b, 16, .inl (fun _ => 0))), (a_c, .inl (k_c, 16, .inl (fun _ => 0)))] sz) [(a_u, .inr (2, [.ref a_d, .ref a_b, .ref a_c, .ref a_q, .int 0, .int 0, .int 0, .int 0, .ref a_s, .int 0, .int t])), (a_d, .inl (k_d, 16, .inl (fun _ => 0))), (a_b, .inl (k_b, 16, .inl (fun _ => 0))), (a_c, .inl (k_c, 16, .inl (fun _ => 0)))] [(k_d, .boolean), (k_b, .boolean), (k_c, .boolean)] t9) (va_A [(a_u, .inr (2, [.ref a_d, .ref a_b, .ref a_c, .ref a_q, .int 0, .int 0, .int 0, .int 0, .ref a_s, .int 0, .int t])), (a_d, .inl (k_d, 16, .inl (fun _ => 0))), (a_b, .inl (k_b, 16, .inl (fun _ => 0))), (a_c, .inl (k_c, 16, .inl (fun _ => 0)))] sz)) 0 0 (va_A [(a_u, .inr (2, [.ref a_d, .ref a_b, .ref a_c, .ref a_q, .int 0, .int 0, .int 0, .int 0, .ref a_s, .int 0, .int t])), (a_d, .inl (k_d, 16, .inl (fun _ => 0))), (a_b, .inl (k_b, 16, .inl (fun _ => 0))), (a_c, .inl (k_c, 16, .inl (fun _ => 0)))] sz) := by
  refine Met.ofW (cc := cX2_scan) (maxL := 2) (ret := none) (by decide) rfl ?_
  intro p e s m args below meth c s₁ B hml hv
  obtain ⟨rfl, hsz, hP, hK, hD0, hN⟩ := hv
  have hx := B.exec
  have hb := B.bytes
  have hr := B.returns
  have hts : ∀ w ∈ zw, w.before _ s = true := fun w h => atoms_spec (ws := (zq yX2_scan cX2_scan 2 none)) B.pre w (List.mem_cons_of_mem _ h)
  have hown : s.vm.findClass RX2 = some m.cls := findClass_of_methodNamed B.named
  have hlocks := B.notSynchronized
  subst hsz
  have hD := hD0.self (sz := s.heap.size)
  generalize hAe : va_A [(a_u, .inr (2, [.ref a_d, .ref a_b, .ref a_c, .ref a_q, .int 0, .int 0, .int 0, .int 0, .ref a_s, .int 0, .int t])), (a_d, .inl (k_d, 16, .inl (fun _ => 0))), (a_b, .inl (k_b, 16, .inl (fun _ => 0))), (a_c, .inl (k_c, 16, .inl (fun _ => 0)))] s.heap.size = A at hD ⊢
  have hA : ∀ q : Nat, s.heap.size ≤ q → A q := fun q h => by rw [← hAe]; exact Or.inr h
  have hS : va_S A s.heap s.heap [] := va_S.rf
  have hP : va_P (dC, dI) vwCl [(a_u, .inr (2, [.ref a_d, .ref a_b, .ref a_c, .ref a_q, .int 0, .int 0, .int 0, .int 0, .ref a_s, .int 0, .int t])), (a_d, .inl (k_d, 16, .inl (fun _ => 0))), (a_b, .inl (k_b, 16, .inl (fun _ => 0))), (a_c, .inl (k_c, 16, .inl (fun _ => 0)))] s.heap := hP
  have hl := lv_entry ([.ref a_u, .int k]) (n := 2) (Nat.le_of_ble_eq_true rfl)
  rw [lg_entry_eq]
  generalize (lg_sl ([.ref a_u, .int k]) ++ List.replicate (2 - (lg_sl ([.ref a_u, .int k])).length) Slot.unset).toArray = ls at hl ⊢
  have hl : lv_has ls 2 [(0, .ref a_u), (1, .int k)] := hl
  refine lv_aload_n hx hb dX2_scan_0 rfl (lv_at hl 0 rfl) ?_
  refine va_get (D := (dC, dI)) (ci := 2) (v := .ref a_d) (C := RX2) (T := TX2) (N := 11) hx hb hts zx_2 hown hK hP 0 rfl rfl 0 (by decide) (hts (.fieldLink RX2 9 "KeyboardKit$KeyUnit" "down" "[Z") zw_144) (fun _ h9 => h9) rfl dX2_scan_1 ?_
  refine lv_iload_n hx hb dX2_scan_4 rfl (lv_at hl 1 rfl) ?_
  refine va_zald hx hb hK hP 1 0 rfl rfl hk dX2_scan_5 ?_
  refine lv_topi (fun v_1 ev_1 => ?_)
  obtain rfl : v_1 = 0 := ev_1.trans rfl
  refine lv_if_ne (tgt := 19) hx hb dX2_scan_6 (by decide) (fun c_2 => absurd c_2 (by decide)) (fun c_2 => ?_)
  refine lv_aload_n hx hb dX2_scan_9 rfl (lv_at hl 0 rfl) ?_
  refine va_get (D := (dC, dI)) (ci := 2) (v := .ref a_c) (C := RX2) (T := TX2) (N := 11) hx hb hts zx_2 hown hK hP 0 rfl rfl 2 (by decide) (hts (.fieldLink RX2 18 "KeyboardKit$KeyUnit" "counted" "[Z") zw_147) (fun _ h9 => h9) rfl dX2_scan_10 ?_
  refine lv_iload_n hx hb dX2_scan_13 rfl (lv_at hl 1 rfl) ?_
  refine lv_iconst (v := 0) hx hb dX2_scan_14 (by decide) ?_
  refine va_zast hx hb hK hP hD hS 3 2 rfl rfl hk dX2_scan_15 (fun H locs hP hD hS => ?_)
  rw [zc_uz] at hP hD
  have hP : va_P (dC, dI) vwCl [(a_u, .inr (2, [.ref a_d, .ref a_b, .ref a_c, .ref a_q, .int 0, .int 0, .int 0, .int 0, .ref a_s, .int 0, .int t])), (a_d, .inl (k_d, 16, .inl (fun _ => 0))), (a_b, .inl (k_b, 16, .inl (fun _ => 0))), (a_c, .inl (k_c, 16, .inl (fun _ => 0)))] H := hP
  have hD : va_D A [(a_u, .inr (2, [.ref a_d, .ref a_b, .ref a_c, .ref a_q, .int 0, .int 0, .int 0, .int 0, .ref a_s, .int 0, .int t])), (a_d, .inl (k_d, 16, .inl (fun _ => 0))), (a_b, .inl (k_b, 16, .inl (fun _ => 0))), (a_c, .inl (k_c, 16, .inl (fun _ => 0)))] := hD
  refine lv_goto (tgt := 49) hx hb dX2_scan_16 (by decide) ?_
  refine lv_aload_n hx hb dX2_scan_49 rfl (lv_at hl 0 rfl) ?_
  refine va_get (D := (dC, dI)) (ci := 2) (v := .ref a_b) (C := RX2) (T := TX2) (N := 11) hx hb hts zx_2 hown hK hP 0 rfl rfl 1 (by decide) (hts (.fieldLink RX2 15 "KeyboardKit$KeyUnit" "downBefore" "[Z") zw_146) (fun _ h9 => h9) rfl dX2_scan_50 ?_
  refine lv_iload_n hx hb dX2_scan_53 rfl (lv_at hl 1 rfl) ?_
  refine lv_aload_n hx hb dX2_scan_54 rfl (lv_at hl 0 rfl) ?_
  refine va_get (D := (dC, dI)) (ci := 2) (v := .ref a_d) (C := RX2) (T := TX2) (N := 11) hx hb hts zx_2 hown hK hP 0 rfl rfl 0 (by decide) (hts (.fieldLink RX2 9 "KeyboardKit$KeyUnit" "down" "[Z") zw_144) (fun _ h9 => h9) rfl dX2_scan_55 ?_
  refine lv_iload_n hx hb dX2_scan_58 rfl (lv_at hl 1 rfl) ?_
  refine va_zald hx hb hK hP 1 0 rfl rfl hk dX2_scan_59 ?_
  refine lv_topi (fun v_3 ev_3 => ?_)
  obtain rfl : v_3 = 0 := ev_3.trans rfl
  refine va_zast hx hb hK hP hD hS 2 1 rfl rfl hk dX2_scan_60 (fun H locs hP hD hS => ?_)
  rw [zc_uz] at hP hD
  have hP : va_P (dC, dI) vwCl [(a_u, .inr (2, [.ref a_d, .ref a_b, .ref a_c, .ref a_q, .int 0, .int 0, .int 0, .int 0, .ref a_s, .int 0, .int t])), (a_d, .inl (k_d, 16, .inl (fun _ => 0))), (a_b, .inl (k_b, 16, .inl (fun _ => 0))), (a_c, .inl (k_c, 16, .inl (fun _ => 0)))] H := hP
  have hD : va_D A [(a_u, .inr (2, [.ref a_d, .ref a_b, .ref a_c, .ref a_q, .int 0, .int 0, .int 0, .int 0, .ref a_s, .int 0, .int t])), (a_d, .inl (k_d, 16, .inl (fun _ => 0))), (a_b, .inl (k_b, 16, .inl (fun _ => 0))), (a_c, .inl (k_c, 16, .inl (fun _ => 0)))] := hD
  have hP9 := hP.sub (ws' := [(a_u, .inr (2, [.ref a_d, .ref a_b, .ref a_c, .ref a_q, .int 0, .int 0, .int 0, .int 0, .ref a_s, .int 0, .int t])), (a_d, .inl (k_d, 16, .inl (fun _ => 0))), (a_b, .inl (k_b, 16, .inl (fun _ => 0))), (a_c, .inl (k_c, 16, .inl (fun _ => 0)))]) [0, 1, 2, 3] rfl
  have hD9 := hD.sub (ws' := [(a_u, .inr (2, [.ref a_d, .ref a_b, .ref a_c, .ref a_q, .int 0, .int 0, .int 0, .int 0, .ref a_s, .int 0, .int t])), (a_d, .inl (k_d, 16, .inl (fun _ => 0))), (a_b, .inl (k_b, 16, .inl (fun _ => 0))), (a_c, .inl (k_c, 16, .inl (fun _ => 0)))]) [0, 1, 2, 3] (by decide) rfl
  have hK9 := hK.sub (tys' := [(k_d, .boolean), (k_b, .boolean), (k_c, .boolean)]) [0, 1, 2] rfl
  exact W.vret hx hb hr (fun t9 ht hW => ⟨⟨(), rfl, trivial, by rw [ht]; exact hP9, va_K.moved hW.alike hK9, hD9⟩, hS.F ht⟩) hS.2.2 dX2_scan_61
set_option maxHeartbeats 4000000 in
set_option maxRecDepth 100000 in
/-- KeyUnit.tick, no key down: the ticks to the scan change alone -/
theorem c_utick (l : Launch) (dC : Nat → ClassId) (dI : Nat → Nat → Nat) (a_u : Nat) (a_d : Nat) (a_b : Nat) (a_c : Nat) (a_q : Nat) (a_s : Nat) (k_d : ClassId) (k_b : ClassId) (k_c : ClassId) (t : Int32) (sz : Nat) : Met l yX2_tick (zq yX2_tick cX2_tick 2 none) ({ frames := 1, cells := 0, slots := 0, locals := 21 }) (va_Pc [.ref a_u] (zc_P (dC, dI) [(a_u, .inr (2, [.ref a_d, .ref a_b, .ref a_c, .ref a_q, .int 0, .int 0, .int 0, .int 0, .ref a_s, .int 0, .int t])), (a_d, .inl (k_d, 16, .inl (fun _ => 0))), (a_b, .inl (k_b, 16, .inl (fun _ => 0))), (a_c, .inl (k_c, 16, .inl (fun _ => 0)))] [(k_d, .boolean), (k_b, .boolean), (k_c, .boolean)] sz)) (va_Qv (fun _ => True) (fun (u : Int32) t9 => zc_B (dC, dI) (va_A [(a_u, .inr (2, [.ref a_d, .ref a_b, .ref a_c, .ref a_q, .int 0, .int 0, .int 0, .int 0, .ref a_s, .int 0, .int t])), (a_d, .inl (k_d, 16, .inl (fun _ => 0))), (a_b, .inl (k_b, 16, .inl (fun _ => 0))), (a_c, .inl (k_c, 16, .inl (fun _ => 0)))] sz) [(a_u, .inr (2, [.ref a_d, .ref a_b, .ref a_c, .ref a_q, .int 0, .int 0, .int 0, .int 0, .ref a_s, .int 0, .int u])), (a_d, .inl (k_d, 16, .inl (fun _ => 0))), (a_b, .inl (k_b, 16, .inl (fun _ => 0))), (a_c, .inl (k_c, 16, .inl (fun _ => 0)))] [(k_d, .boolean), (k_b, .boolean), (k_c, .boolean)] t9) (va_A [(a_u, .inr (2, [.ref a_d, .ref a_b, .ref a_c, .ref a_q, .int 0, .int 0, .int 0, .int 0, .ref a_s, .int 0, .int t])), (a_d, .inl (k_d, 16, .inl (fun _ => 0))), (a_b, .inl (k_b, 16, .inl (fun _ => 0))), (a_c, .inl (k_c, 16, .inl (fun _ => 0)))] sz)) 0 0 (va_A [(a_u, .inr (2, [.ref a_d, .ref a_b, .ref a_c, .ref a_q, .int 0, .int 0, .int 0, .int 0, .ref a_s, .int 0, .int t])), (a_d, .inl (k_d, 16, .inl (fun _ => 0))), (a_b, .inl (k_b, 16, .inl (fun _ => 0))), (a_c, .inl (k_c, 16, .inl (fun _ => 0)))] sz) := by
  refine Met.ofW (cc := cX2_tick) (maxL := 2) (ret := none) (by decide) rfl ?_
  intro p e s m args below meth c s₁ B hml hv
  obtain ⟨rfl, hsz, hP, hK, hD0, hN⟩ := hv
  have hx := B.exec
  have hb := B.bytes
  have hr := B.returns
  have hts : ∀ w ∈ zw, w.before _ s = true := fun w h => atoms_spec (ws := (zq yX2_tick cX2_tick 2 none)) B.pre w (List.mem_cons_of_mem _ h)
  have hown : s.vm.findClass RX2 = some m.cls := findClass_of_methodNamed B.named
  have hlocks := B.notSynchronized
  subst hsz
  have hD := hD0.self (sz := s.heap.size)
  generalize hAe : va_A [(a_u, .inr (2, [.ref a_d, .ref a_b, .ref a_c, .ref a_q, .int 0, .int 0, .int 0, .int 0, .ref a_s, .int 0, .int t])), (a_d, .inl (k_d, 16, .inl (fun _ => 0))), (a_b, .inl (k_b, 16, .inl (fun _ => 0))), (a_c, .inl (k_c, 16, .inl (fun _ => 0)))] s.heap.size = A at hD ⊢
  have hA : ∀ q : Nat, s.heap.size ≤ q → A q := fun q h => by rw [← hAe]; exact Or.inr h
  have hS : va_S A s.heap s.heap [] := va_S.rf
  have hP : va_P (dC, dI) vwCl [(a_u, .inr (2, [.ref a_d, .ref a_b, .ref a_c, .ref a_q, .int 0, .int 0, .int 0, .int 0, .ref a_s, .int 0, .int t])), (a_d, .inl (k_d, 16, .inl (fun _ => 0))), (a_b, .inl (k_b, 16, .inl (fun _ => 0))), (a_c, .inl (k_c, 16, .inl (fun _ => 0)))] s.heap := hP
  have hl := lv_entry ([.ref a_u]) (n := 2) (Nat.le_of_ble_eq_true rfl)
  rw [lg_entry_eq]
  generalize (lg_sl ([.ref a_u]) ++ List.replicate (2 - (lg_sl ([.ref a_u])).length) Slot.unset).toArray = ls at hl ⊢
  have hl : lv_has ls 2 [(0, .ref a_u)] := hl
  refine lv_aload_n hx hb dX2_tick_0 rfl (lv_at hl 0 rfl) ?_
  refine lv_dup hx hb dX2_tick_1 rfl ?_
  refine va_get (D := (dC, dI)) (ci := 2) (v := .int t) (C := RX2) (T := TX2) (N := 11) hx hb hts zx_2 hown hK hP 0 rfl rfl 10 (by decide) (hts (.fieldLink RX2 28 "KeyboardKit$KeyUnit" "ticksToScan" "I") zw_157) (fun _ h9 => h9) rfl dX2_tick_2 ?_
  refine lv_iconst (v := 1) hx hb dX2_tick_5 (by decide) ?_
  refine lv_isub hx hb dX2_tick_6 ?_
  refine lv_topi (fun v_1 ev_1 => ?_)
  refine va_put (D := (dC, dI)) (ci := 2) (v := .int v_1) (ty := .int) (C := RX2) (T := TX2) (N := 11) hx hb hts zx_2 tyX2 tyX2_ok nmX2 hown hK hP hD hS 0 rfl rfl 10 (by decide) (hts (.fieldLink RX2 28 "KeyboardKit$KeyUnit" "ticksToScan" "I") zw_157) (fun _ h9 => h9) rfl (by decide +kernel) rfl rfl (Nat.le_of_ble_eq_true rfl) dX2_tick_7 (fun H locs hP hD hS => ?_)
  have hP : va_P (dC, dI) vwCl [(a_u, .inr (2, [.ref a_d, .ref a_b, .ref a_c, .ref a_q, .int 0, .int 0, .int 0, .int 0, .ref a_s, .int 0, .int v_1])), (a_d, .inl (k_d, 16, .inl (fun _ => 0))), (a_b, .inl (k_b, 16, .inl (fun _ => 0))), (a_c, .inl (k_c, 16, .inl (fun _ => 0)))] H := hP
  have hD : va_D A [(a_u, .inr (2, [.ref a_d, .ref a_b, .ref a_c, .ref a_q, .int 0, .int 0, .int 0, .int 0, .ref a_s, .int 0, .int v_1])), (a_d, .inl (k_d, 16, .inl (fun _ => 0))), (a_b, .inl (k_b, 16, .inl (fun _ => 0))), (a_c, .inl (k_c, 16, .inl (fun _ => 0)))] := hD
  refine lv_aload_n hx hb dX2_tick_10 rfl (lv_at hl 0 rfl) ?_
  refine va_get (D := (dC, dI)) (ci := 2) (v := .int v_1) (C := RX2) (T := TX2) (N := 11) hx hb hts zx_2 hown hK hP 0 rfl rfl 10 (by decide) (hts (.fieldLink RX2 28 "KeyboardKit$KeyUnit" "ticksToScan" "I") zw_157) (fun _ h9 => h9) rfl dX2_tick_11 ?_
  refine lv_if_ne (tgt := 42) hx hb dX2_tick_14 (by decide) (fun c_2 => ?_) (fun c_2 => ?_)
  · have hP9 := hP.sub (ws' := [(a_u, .inr (2, [.ref a_d, .ref a_b, .ref a_c, .ref a_q, .int 0, .int 0, .int 0, .int 0, .ref a_s, .int 0, .int v_1])), (a_d, .inl (k_d, 16, .inl (fun _ => 0))), (a_b, .inl (k_b, 16, .inl (fun _ => 0))), (a_c, .inl (k_c, 16, .inl (fun _ => 0)))]) [0, 1, 2, 3] rfl
    have hD9 := hD.sub (ws' := [(a_u, .inr (2, [.ref a_d, .ref a_b, .ref a_c, .ref a_q, .int 0, .int 0, .int 0, .int 0, .ref a_s, .int 0, .int v_1])), (a_d, .inl (k_d, 16, .inl (fun _ => 0))), (a_b, .inl (k_b, 16, .inl (fun _ => 0))), (a_c, .inl (k_c, 16, .inl (fun _ => 0)))]) [0, 1, 2, 3] (by decide) rfl
    have hK9 := hK.sub (tys' := [(k_d, .boolean), (k_b, .boolean), (k_c, .boolean)]) [0, 1, 2] rfl
    exact W.vret hx hb hr (fun t9 ht hW => ⟨⟨v_1, rfl, trivial, by rw [ht]; exact hP9, va_K.moved hW.alike hK9, hD9⟩, hS.F ht⟩) hS.2.2 dX2_tick_42
  · refine lv_aload_n hx hb dX2_tick_17 rfl (lv_at hl 0 rfl) ?_
    refine lv_bipush (v := 64) hx hb dX2_tick_18 (by decide) ?_
    refine va_put (D := (dC, dI)) (ci := 2) (v := .int 64) (ty := .int) (C := RX2) (T := TX2) (N := 11) hx hb hts zx_2 tyX2 tyX2_ok nmX2 hown hK hP hD hS 0 rfl rfl 10 (by decide) (hts (.fieldLink RX2 28 "KeyboardKit$KeyUnit" "ticksToScan" "I") zw_157) (fun _ h9 => h9) rfl (by decide +kernel) rfl rfl (Nat.le_of_ble_eq_true rfl) dX2_tick_20 (fun H locs hP hD hS => ?_)
    have hP : va_P (dC, dI) vwCl [(a_u, .inr (2, [.ref a_d, .ref a_b, .ref a_c, .ref a_q, .int 0, .int 0, .int 0, .int 0, .ref a_s, .int 0, .int 64])), (a_d, .inl (k_d, 16, .inl (fun _ => 0))), (a_b, .inl (k_b, 16, .inl (fun _ => 0))), (a_c, .inl (k_c, 16, .inl (fun _ => 0)))] H := hP
    have hD : va_D A [(a_u, .inr (2, [.ref a_d, .ref a_b, .ref a_c, .ref a_q, .int 0, .int 0, .int 0, .int 0, .ref a_s, .int 0, .int 64])), (a_d, .inl (k_d, 16, .inl (fun _ => 0))), (a_b, .inl (k_b, 16, .inl (fun _ => 0))), (a_c, .inl (k_c, 16, .inl (fun _ => 0)))] := hD
    refine lv_iconst (v := 0) hx hb dX2_tick_23 (by decide) ?_
    refine lv_istore_n (lv' := [(1, .int 0), (0, .ref a_u)]) hx hb dX2_tick_24 rfl hl (by decide) rfl (fun ls hl => ?_)
    have loop : ∀ (n j : Nat), 16 + 1 ≤ j + n → j ≤ 16 → ∀ (H : Heap) (locs : List Loc) (ls : Array Slot), va_P (dC, dI) vwCl [(a_u, .inr (2, [.ref a_d, .ref a_b, .ref a_c, .ref a_q, .int 0, .int 0, .int 0, .int 0, .ref a_s, .int 0, .int 64])), (a_d, .inl (k_d, 16, .inl (fun _ => 0))), (a_b, .inl (k_b, 16, .inl (fun _ => 0))), (a_c, .inl (k_c, 16, .inl (fun _ => 0)))] H → va_D A [(a_u, .inr (2, [.ref a_d, .ref a_b, .ref a_c, .ref a_q, .int 0, .int 0, .int 0, .int 0, .ref a_s, .int 0, .int 64])), (a_d, .inl (k_d, 16, .inl (fun _ => 0))), (a_b, .inl (k_b, 16, .inl (fun _ => 0))), (a_c, .inl (k_c, 16, .inl (fun _ => 0)))] → va_S A s.heap H locs → lv_has ls 2 [(1, .int (nI j)), (0, .ref a_u)] → W p l e (headSpec (zq yX2_tick cX2_tick 2 none) ({ frames := 1, cells := 0, slots := 0, locals := 21 })).room s m ([.ref a_u] : List Value).toArray below meth c H locs 0 0 (MQ below (va_Qv (fun _ => True) (fun (u : Int32) t9 => zc_B (dC, dI) A [(a_u, .inr (2, [.ref a_d, .ref a_b, .ref a_c, .ref a_q, .int 0, .int 0, .int 0, .int 0, .ref a_s, .int 0, .int u])), (a_d, .inl (k_d, 16, .inl (fun _ => 0))), (a_b, .inl (k_b, 16, .inl (fun _ => 0))), (a_c, .inl (k_c, 16, .inl (fun _ => 0)))] [(k_d, .boolean), (k_b, .boolean), (k_c, .boolean)] t9) A) ([.ref a_u] : List Value).toArray s 0 0 A) (F0 m 25 ls []) := by
      intro n
      induction n with
      | zero => intro j h1 h2; exact absurd h1 (by omega)
      | succ n ih =>
        intro j hj1 hj2 H locs ls hP hD hS hl
        refine lv_iload_n hx hb dX2_tick_25 rfl (lv_at hl 0 rfl) ?_
        refine lv_bipush (v := 16) hx hb dX2_tick_26 (by decide) ?_
        by_cases hj : j < 16
        · refine lv_icmp_ge (tgt := 42) hx hb dX2_tick_28 (by decide) (fun c_3 => absurd c_3 (show ¬ nI 16 ≤ nI j from nI_ge hj (by decide))) (fun c_3 => ?_)
          refine lv_aload_n hx hb dX2_tick_31 rfl (lv_at hl 1 rfl) ?_
          refine lv_iload_n hx hb dX2_tick_32 rfl (lv_at hl 0 rfl) ?_
          refine zc_v (wr := []) hP hD hS hA [0, 1, 2, 3] [] rfl rfl (by decide) (by decide) (va_runV (As := [.int (nI j)]) (rest := []) ⟨hx, hb, hml, hown, hts⟩ (c_scan l dC dI a_u a_d a_b a_c a_q a_s k_d k_b k_c 64 (nI j) (vp_in_nI hj (by decide)) _) (cwV 1 hts (zg_V zw_573 zw_575 zw_38 zw_85 zw_576) rfl rfl rfl (by decide +kernel) ⟨Nat.le_of_ble_eq_true rfl, Nat.le_of_ble_eq_true rfl⟩) ⟨zc_blind, va_recv hK hP (ci := 2) (q0 := 0) rfl rfl, zc_start hP hD hK hN [0, 1, 2, 3] [0, 1, 2] rfl (by decide) rfl⟩ rfl rfl hl.1 rfl (lv_room (Nat.le_of_ble_eq_true rfl)) dX2_tick_33 ⟨Nat.le_of_ble_eq_true rfl, Nat.le_of_ble_eq_true rfl⟩) (fun u_4 H locs hw hK1 hP hD hS => ?_)
          have hP : va_P (dC, dI) vwCl [(a_u, .inr (2, [.ref a_d, .ref a_b, .ref a_c, .ref a_q, .int 0, .int 0, .int 0, .int 0, .ref a_s, .int 0, .int 64])), (a_d, .inl (k_d, 16, .inl (fun _ => 0))), (a_b, .inl (k_b, 16, .inl (fun _ => 0))), (a_c, .inl (k_c, 16, .inl (fun _ => 0)))] H := hP
          have hD : va_D A [(a_u, .inr (2, [.ref a_d, .ref a_b, .ref a_c, .ref a_q, .int 0, .int 0, .int 0, .int 0, .ref a_s, .int 0, .int 64])), (a_d, .inl (k_d, 16, .inl (fun _ => 0))), (a_b, .inl (k_b, 16, .inl (fun _ => 0))), (a_c, .inl (k_c, 16, .inl (fun _ => 0)))] := hD
          refine lv_iinc (v := (nI (j + 1))) (lv' := [(1, .int (nI (j + 1))), (0, .ref a_u)]) hx hb dX2_tick_36 hl (k := 0) rfl (nI_1 j) (by decide) rfl (fun ls hl => ?_)
          refine lv_goto (tgt := 25) hx hb dX2_tick_39 (by decide) ?_
          exact ih (j + 1) (by omega) (by omega) _ _ _ (hP.sub [0, 1, 2, 3] rfl) (hD.sub [0, 1, 2, 3] (by decide) rfl) hS (lv_sub hl [0, 1] rfl)
        · refine lv_icmp_ge (tgt := 42) hx hb dX2_tick_28 (by decide) (fun c_5 => ?_) (fun c_5 => absurd (show nI 16 ≤ nI j from nI_le (by omega) (by omega)) c_5)
          have hP9 := hP.sub (ws' := [(a_u, .inr (2, [.ref a_d, .ref a_b, .ref a_c, .ref a_q, .int 0, .int 0, .int 0, .int 0, .ref a_s, .int 0, .int 64])), (a_d, .inl (k_d, 16, .inl (fun _ => 0))), (a_b, .inl (k_b, 16, .inl (fun _ => 0))), (a_c, .inl (k_c, 16, .inl (fun _ => 0)))]) [0, 1, 2, 3] rfl
          have hD9 := hD.sub (ws' := [(a_u, .inr (2, [.ref a_d, .ref a_b, .ref a_c, .ref a_q, .int 0, .int 0, .int 0, .int 0, .ref a_s, .int 0, .int 64])), (a_d, .inl (k_d, 16, .inl (fun _ => 0))), (a_b, .inl (k_b, 16, .inl (fun _ => 0))), (a_c, .inl (k_c, 16, .inl (fun _ => 0)))]) [0, 1, 2, 3] (by decide) rfl
          have hK9 := hK.sub (tys' := [(k_d, .boolean), (k_b, .boolean), (k_c, .boolean)]) [0, 1, 2] rfl
          exact W.vret hx hb hr (fun t9 ht hW => ⟨⟨64, rfl, trivial, by rw [ht]; exact hP9, va_K.moved hW.alike hK9, hD9⟩, hS.F ht⟩) hS.2.2 dX2_tick_42
    exact loop (16 + 1) 0 (by omega) (by omega) _ _ _ hP hD hS (lv_sub hl [0, 1] (by rw [nI_0]; rfl))
