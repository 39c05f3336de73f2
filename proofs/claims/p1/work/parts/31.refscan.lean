theorem dX7_pass_0 : decode cX7_pass 0 = .ok (.iconst 0, 1) := by decide +kernel
theorem dX7_pass_1 : decode cX7_pass 1 = .ok (.istore_n 2, 1) := by decide +kernel
theorem dX7_pass_11 : decode cX7_pass 11 = .ok (.aload_n 0, 1) := by decide +kernel
theorem dX7_pass_12 : decode cX7_pass 12 = .ok (.aload_n 0, 1) := by decide +kernel
theorem dX7_pass_13 : decode cX7_pass 13 = .ok (.getfield 148, 3) := by decide +kernel
theorem dX7_pass_16 : decode cX7_pass 16 = .ok (.iconst 1, 1) := by decide +kernel
theorem dX7_pass_17 : decode cX7_pass 17 = .ok (.iadd, 1) := by decide +kernel
theorem dX7_pass_18 : decode cX7_pass 18 = .ok (.bipush 63, 2) := by decide +kernel
theorem dX7_pass_2 : decode cX7_pass 2 = .ok (.iload_n 2, 1) := by decide +kernel
theorem dX7_pass_20 : decode cX7_pass 20 = .ok (.iand, 1) := by decide +kernel
theorem dX7_pass_21 : decode cX7_pass 21 = .ok (.putfield 148, 3) := by decide +kernel
theorem dX7_pass_24 : decode cX7_pass 24 = .ok (.aload_n 0, 1) := by decide +kernel
theorem dX7_pass_25 : decode cX7_pass 25 = .ok (.getfield 148, 3) := by decide +kernel
theorem dX7_pass_28 : decode cX7_pass 28 = .ok (.ifCond .ne 7, 3) := by decide +kernel
theorem dX7_pass_3 : decode cX7_pass 3 = .ok (.iload_n 1, 1) := by decide +kernel
theorem dX7_pass_31 : decode cX7_pass 31 = .ok (.aload_n 0, 1) := by decide +kernel
theorem dX7_pass_32 : decode cX7_pass 32 = .ok (.invokevirtual 151, 3) := by decide +kernel
theorem dX7_pass_35 : decode cX7_pass 35 = .ok (.iinc 2 1, 3) := by decide +kernel
theorem dX7_pass_38 : decode cX7_pass 38 = .ok (.goto (-36), 3) := by decide +kernel
theorem dX7_pass_4 : decode cX7_pass 4 = .ok (.if_icmp .ge 37, 3) := by decide +kernel
theorem dX7_pass_41 : decode cX7_pass 41 = .ok (.return_, 1) := by decide +kernel
theorem dX7_pass_7 : decode cX7_pass 7 = .ok (.aload_n 0, 1) := by decide +kernel
theorem dX7_pass_8 : decode cX7_pass 8 = .ok (.invokevirtual 145, 3) := by decide +kernel
theorem dX7_scan_0 : decode cX7_scan 0 = .ok (.iconst 0, 1) := by decide +kernel
theorem dX7_scan_1 : decode cX7_scan 1 = .ok (.istore_n 1, 1) := by decide +kernel
theorem dX7_scan_100 : decode cX7_scan 100 = .ok (.iload_n 1, 1) := by decide +kernel
theorem dX7_scan_101 : decode cX7_scan 101 = .ok (.aload_n 0, 1) := by decide +kernel
theorem dX7_scan_102 : decode cX7_scan 102 = .ok (.getfield 24, 3) := by decide +kernel
theorem dX7_scan_105 : decode cX7_scan 105 = .ok (.iload_n 1, 1) := by decide +kernel
theorem dX7_scan_106 : decode cX7_scan 106 = .ok (.baload, 1) := by decide +kernel
theorem dX7_scan_107 : decode cX7_scan 107 = .ok (.ifCond .eq 16, 3) := by decide +kernel
theorem dX7_scan_12 : decode cX7_scan 12 = .ok (.iload_n 1, 1) := by decide +kernel
theorem dX7_scan_123 : decode cX7_scan 123 = .ok (.iconst 0, 1) := by decide +kernel
theorem dX7_scan_124 : decode cX7_scan 124 = .ok (.bastore, 1) := by decide +kernel
theorem dX7_scan_125 : decode cX7_scan 125 = .ok (.aload_n 0, 1) := by decide +kernel
theorem dX7_scan_126 : decode cX7_scan 126 = .ok (.getfield 27, 3) := by decide +kernel
theorem dX7_scan_129 : decode cX7_scan 129 = .ok (.iload_n 1, 1) := by decide +kernel
theorem dX7_scan_13 : decode cX7_scan 13 = .ok (.baload, 1) := by decide +kernel
theorem dX7_scan_130 : decode cX7_scan 130 = .ok (.aload_n 0, 1) := by decide +kernel
theorem dX7_scan_131 : decode cX7_scan 131 = .ok (.getfield 24, 3) := by decide +kernel
theorem dX7_scan_134 : decode cX7_scan 134 = .ok (.iload_n 1, 1) := by decide +kernel
theorem dX7_scan_135 : decode cX7_scan 135 = .ok (.baload, 1) := by decide +kernel
theorem dX7_scan_136 : decode cX7_scan 136 = .ok (.bastore, 1) := by decide +kernel
theorem dX7_scan_137 : decode cX7_scan 137 = .ok (.iinc 1 1, 3) := by decide +kernel
theorem dX7_scan_14 : decode cX7_scan 14 = .ok (.ifCond .eq 82, 3) := by decide +kernel
theorem dX7_scan_140 : decode cX7_scan 140 = .ok (.goto (-138), 3) := by decide +kernel
theorem dX7_scan_143 : decode cX7_scan 143 = .ok (.return_, 1) := by decide +kernel
theorem dX7_scan_2 : decode cX7_scan 2 = .ok (.iload_n 1, 1) := by decide +kernel
theorem dX7_scan_3 : decode cX7_scan 3 = .ok (.bipush 16, 2) := by decide +kernel
theorem dX7_scan_5 : decode cX7_scan 5 = .ok (.if_icmp .ge 138, 3) := by decide +kernel
theorem dX7_scan_8 : decode cX7_scan 8 = .ok (.aload_n 0, 1) := by decide +kernel
theorem dX7_scan_9 : decode cX7_scan 9 = .ok (.getfield 24, 3) := by decide +kernel
theorem dX7_scan_96 : decode cX7_scan 96 = .ok (.aload_n 0, 1) := by decide +kernel
theorem dX7_scan_97 : decode cX7_scan 97 = .ok (.getfield 30, 3) := by decide +kernel
set_option maxHeartbeats 4000000 in
set_option maxRecDepth 100000 in
/-- reference: scan, no key down -/
theorem r_scan (l : Launch) (dC : Nat → ClassId) (dI : Nat → Nat → Nat) (b_o : Nat) (b_m : Nat) (b_r : Nat) (b_l : Nat) (b_d : Nat) (b_w : Nat) (b_c : Nat) (b_q : Nat) (b_s : Nat) (j_d : ClassId) (j_w : ClassId) (j_c : ClassId) (pc : Int32) (tk : Int32) (g : Int32) (th : Int32) (sz : Nat) : Met l yX7_scan (zq yX7_scan cX7_scan 2 none) ({ frames := 0, cells := 0, slots := 0, locals := 0 }) (va_Pc [.ref b_o] (zc_P (dC, dI) [(b_o, .inr (7, [.ref b_m, .ref b_r, .int 0, .int pc, .int tk, .int 0, .int 0, .int 0, .int 7, .int 0, .ref b_l, .int 0, .int 0, .int 0, .int 0, .int 0, .int 0, .int 0, .int 0, .int g, .ref b_d, .ref b_w, .ref b_c, .int 0, .ref b_q, .int 0, .int 0, .int 0, .ref b_s, .int th])), (b_d, .inl (j_d, 16, .inl (fun _ => 0))), (b_w, .inl (j_w, 16, .inl (fun _ => 0))), (b_c, .inl (j_c, 16, .inl (fun _ => 0)))] [(j_d, .boolean), (j_w, .boolean), (j_c, .boolean)] sz)) (va_Qv (fun _ => True) (fun (u : Unit) t9 => zc_B (dC, dI) (va_A [(b_o, .inr (7, [.ref b_m, .ref b_r, .int 0, .int pc, .int tk, .int 0, .int 0, .int 0, .int 7, .int 0, .ref b_l, .int 0, .int 0, .int 0, .int 0, .int 0, .int 0, .int 0, .int 0, .int g, .ref b_d, .ref b_w, .ref b_c, .int 0, .ref b_q, .int 0, .int 0, .int 0, .ref b_s, .int th])), (b_d, .inl (j_d, 16, .inl (fun _ => 0))), (b_w, .inl (j_w, 16, .inl (fun _ => 0))), (b_c, .inl (j_c, 16, .inl (fun _ => 0)))] sz) [(b_o, .inr (7, [.ref b_m, .ref b_r, .int 0, .int pc, .int tk, .int 0, .int 0, .int 0, .int 7, .int 0, .ref b_l, .int 0, .int 0, .int 0, .int 0, .int 0, .int 0, .int 0, .int 0, .int g, .ref b_d, .ref b_w, .ref b_c, .int 0, .ref b_q, .int 0, .int 0, .int 0, .ref b_s, .int th])), (b_d, .inl (j_d, 16, .inl (fun _ => 0))), (b_w, .inl (j_w, 16, .inl (fun _ => 0))), (b_c, .inl (j_c, 16, .inl (fun _ => 0)))] [(j_d, .boolean), (j_w, .boolean), (j_c, .boolean)] t9) (va_A [(b_o, .inr (7, [.ref b_m, .ref b_r, .int 0, .int pc, .int tk, .int 0, .int 0, .int 0, .int 7, .int 0, .ref b_l, .int 0, .int 0, .int 0, .int 0, .int 0, .int 0, .int 0, .int 0, .int g, .ref b_d, .ref b_w, .ref b_c, .int 0, .ref b_q, .int 0, .int 0, .int 0, .ref b_s, .int th])), (b_d, .inl (j_d, 16, .inl (fun _ => 0))), (b_w, .inl (j_w, 16, .inl (fun _ => 0))), (b_c, .inl (j_c, 16, .inl (fun _ => 0)))] sz)) 0 0 (va_A [(b_o, .inr (7, [.ref b_m, .ref b_r, .int 0, .int pc, .int tk, .int 0, .int 0, .int 0, .int 7, .int 0, .ref b_l, .int 0, .int 0, .int 0, .int 0, .int 0, .int 0, .int 0, .int 0, .int g, .ref b_d, .ref b_w, .ref b_c, .int 0, .ref b_q, .int 0, .int 0, .int 0, .ref b_s, .int th])), (b_d, .inl (j_d, 16, .inl (fun _ => 0))), (b_w, .inl (j_w, 16, .inl (fun _ => 0))), (b_c, .inl (j_c, 16, .inl (fun _ => 0)))] sz) := by
  refine Met.ofW (cc := cX7_scan) (maxL := 2) (ret := none) (by decide) rfl ?_
  intro p e s m args below meth c s₁ B hml hv
  obtain ⟨rfl, hsz, hP, hK, hD0, hN⟩ := hv
  have hx := B.exec
  have hb := B.bytes
  have hr := B.returns
  have hts : ∀ w ∈ zw, w.before _ s = true := fun w h => atoms_spec (ws := (zq yX7_scan cX7_scan 2 none)) B.pre w (List.mem_cons_of_mem _ h)
  have hown : s.vm.findClass RX7 = some m.cls := findClass_of_methodNamed B.named
  have hlocks := B.notSynchronized
  subst hsz
  have hD := hD0.self (sz := s.heap.size)
  generalize hAe : va_A [(b_o, .inr (7, [.ref b_m, .ref b_r, .int 0, .int pc, .int tk, .int 0, .int 0, .int 0, .int 7, .int 0, .ref b_l, .int 0, .int 0, .int 0, .int 0, .int 0, .int 0, .int 0, .int 0, .int g, .ref b_d, .ref b_w, .ref b_c, .int 0, .ref b_q, .int 0, .int 0, .int 0, .ref b_s, .int th])), (b_d, .inl (j_d, 16, .inl (fun _ => 0))), (b_w, .inl (j_w, 16, .inl (fun _ => 0))), (b_c, .inl (j_c, 16, .inl (fun _ => 0)))] s.heap.size = A at hD ⊢
  have hA : ∀ q : Nat, s.heap.size ≤ q → A q := fun q h => by rw [← hAe]; exact Or.inr h
  have hS : va_S A s.heap s.heap [] := va_S.rf
  have hP : va_P (dC, dI) vwCl [(b_o, .inr (7, [.ref b_m, .ref b_r, .int 0, .int pc, .int tk, .int 0, .int 0, .int 0, .int 7, .int 0, .ref b_l, .int 0, .int 0, .int 0, .int 0, .int 0, .int 0, .int 0, .int 0, .int g, .ref b_d, .ref b_w, .ref b_c, .int 0, .ref b_q, .int 0, .int 0, .int 0, .ref b_s, .int th])), (b_d, .inl (j_d, 16, .inl (fun _ => 0))), (b_w, .inl (j_w, 16, .inl (fun _ => 0))), (b_c, .inl (j_c, 16, .inl (fun _ => 0)))] s.heap := hP
  have hl := lv_entry ([.ref b_o]) (n := 2) (Nat.le_of_ble_eq_true rfl)
  rw [lg_entry_eq]
  generalize (lg_sl ([.ref b_o]) ++ List.replicate (2 - (lg_sl ([.ref b_o])).length) Slot.unset).toArray = ls at hl ⊢
  have hl : lv_has ls 2 [(0, .ref b_o)] := hl
  refine lv_iconst (v := 0) hx hb dX7_scan_0 (by decide) ?_
  refine lv_istore_n (lv' := [(1, .int 0), (0, .ref b_o)]) hx hb dX7_scan_1 rfl hl (by decide) rfl (fun ls hl => ?_)
  have loop : ∀ (n j : Nat), 16 + 1 ≤ j + n → j ≤ 16 → ∀ (H : Heap) (locs : List Loc) (ls : Array Slot), va_P (dC, dI) vwCl [(b_o, .inr (7, [.ref b_m, .ref b_r, .int 0, .int pc, .int tk, .int 0, .int 0, .int 0, .int 7, .int 0, .ref b_l, .int 0, .int 0, .int 0, .int 0, .int 0, .int 0, .int 0, .int 0, .int g, .ref b_d, .ref b_w, .ref b_c, .int 0, .ref b_q, .int 0, .int 0, .int 0, .ref b_s, .int th])), (b_d, .inl (j_d, 16, .inl (fun _ => 0))), (b_w, .inl (j_w, 16, .inl (fun _ => 0))), (b_c, .inl (j_c, 16, .inl (fun _ => 0)))] H → va_D A [(b_o, .inr (7, [.ref b_m, .ref b_r, .int 0, .int pc, .int tk, .int 0, .int 0, .int 0, .int 7, .int 0, .ref b_l, .int 0, .int 0, .int 0, .int 0, .int 0, .int 0, .int 0, .int 0, .int g, .ref b_d, .ref b_w, .ref b_c, .int 0, .ref b_q, .int 0, .int 0, .int 0, .ref b_s, .int th])), (b_d, .inl (j_d, 16, .inl (fun _ => 0))), (b_w, .inl (j_w, 16, .inl (fun _ => 0))), (b_c, .inl (j_c, 16, .inl (fun _ => 0)))] → va_S A s.heap H locs → lv_has ls 2 [(1, .int (nI j)), (0, .ref b_o)] → W p l e (headSpec (zq yX7_scan cX7_scan 2 none) ({ frames := 0, cells := 0, slots := 0, locals := 0 })).room s m ([.ref b_o] : List Value).toArray below meth c H locs 0 0 (MQ below (va_Qv (fun _ => True) (fun (u : Unit) t9 => zc_B (dC, dI) A [(b_o, .inr (7, [.ref b_m, .ref b_r, .int 0, .int pc, .int tk, .int 0, .int 0, .int 0, .int 7, .int 0, .ref b_l, .int 0, .int 0, .int 0, .int 0, .int 0, .int 0, .int 0, .int 0, .int g, .ref b_d, .ref b_w, .ref b_c, .int 0, .ref b_q, .int 0, .int 0, .int 0, .ref b_s, .int th])), (b_d, .inl (j_d, 16, .inl (fun _ => 0))), (b_w, .inl (j_w, 16, .inl (fun _ => 0))), (b_c, .inl (j_c, 16, .inl (fun _ => 0)))] [(j_d, .boolean), (j_w, .boolean), (j_c, .boolean)] t9) A) ([.ref b_o] : List Value).toArray s 0 0 A) (F0 m 2 ls []) := by
    intro n
    induction n with
    | zero => intro j h1 h2; exact absurd h1 (by omega)
    | succ n ih =>
      intro j hj1 hj2 H locs ls hP hD hS hl
      refine lv_iload_n hx hb dX7_scan_2 rfl (lv_at hl 0 rfl) ?_
      refine lv_bipush (v := 16) hx hb dX7_scan_3 (by decide) ?_
      by_cases hj : j < 16
      · refine lv_icmp_ge (tgt := 143) hx hb dX7_scan_5 (by decide) (fun c_1 => absurd c_1 (show ¬ nI 16 ≤ nI j from nI_ge hj (by decide))) (fun c_1 => ?_)
        refine lv_aload_n hx hb dX7_scan_8 rfl (lv_at hl 1 rfl) ?_
        refine va_get (D := (dC, dI)) (ci := 7) (v := .ref b_d) (C := RX7) (T := TX7) (N := 30) hx hb hts zx_7 hown hK hP 0 rfl rfl 20 (by decide) (hts (.fieldLink RX7 24 "KeyboardKitModel" "down" "[Z") zw_740) (fun _ h9 => h9) rfl dX7_scan_9 ?_
        refine lv_iload_n hx hb dX7_scan_12 rfl (lv_at hl 0 rfl) ?_
        refine va_zald hx hb hK hP 1 0 rfl rfl (vp_in_nI hj (by decide)) dX7_scan_13 ?_
        refine lv_topi (fun v_2 ev_2 => ?_)
        obtain rfl : v_2 = 0 := ev_2.trans rfl
        refine lv_if_eq (tgt := 96) hx hb dX7_scan_14 (by decide) (fun c_3 => ?_) (fun c_3 => absurd c_3 (by decide))
        refine lv_aload_n hx hb dX7_scan_96 rfl (lv_at hl 1 rfl) ?_
        refine va_get (D := (dC, dI)) (ci := 7) (v := .ref b_c) (C := RX7) (T := TX7) (N := 30) hx hb hts zx_7 hown hK hP 0 rfl rfl 22 (by decide) (hts (.fieldLink RX7 30 "KeyboardKitModel" "counted" "[Z") zw_742) (fun _ h9 => h9) rfl dX7_scan_97 ?_
        refine lv_iload_n hx hb dX7_scan_100 rfl (lv_at hl 0 rfl) ?_
        refine lv_aload_n hx hb dX7_scan_101 rfl (lv_at hl 1 rfl) ?_
        refine va_get (D := (dC, dI)) (ci := 7) (v := .ref b_d) (C := RX7) (T := TX7) (N := 30) hx hb hts zx_7 hown hK hP 0 rfl rfl 20 (by decide) (hts (.fieldLink RX7 24 "KeyboardKitModel" "down" "[Z") zw_740) (fun _ h9 => h9) rfl dX7_scan_102 ?_
        refine lv_iload_n hx hb dX7_scan_105 rfl (lv_at hl 0 rfl) ?_
        refine va_zald hx hb hK hP 1 0 rfl rfl (vp_in_nI hj (by decide)) dX7_scan_106 ?_
        refine lv_topi (fun v_4 ev_4 => ?_)
        obtain rfl : v_4 = 0 := ev_4.trans rfl
        refine lv_if_eq (tgt := 123) hx hb dX7_scan_107 (by decide) (fun c_5 => ?_) (fun c_5 => absurd c_5 (by decide))
        refine lv_iconst (v := 0) hx hb dX7_scan_123 (by decide) ?_
        refine va_zast hx hb hK hP hD hS 3 2 rfl rfl (vp_in_nI hj (by decide)) dX7_scan_124 (fun H locs hP hD hS => ?_)
        rw [zc_uz] at hP hD
        have hP : va_P (dC, dI) vwCl [(b_o, .inr (7, [.ref b_m, .ref b_r, .int 0, .int pc, .int tk, .int 0, .int 0, .int 0, .int 7, .int 0, .ref b_l, .int 0, .int 0, .int 0, .int 0, .int 0, .int 0, .int 0, .int 0, .int g, .ref b_d, .ref b_w, .ref b_c, .int 0, .ref b_q, .int 0, .int 0, .int 0, .ref b_s, .int th])), (b_d, .inl (j_d, 16, .inl (fun _ => 0))), (b_w, .inl (j_w, 16, .inl (fun _ => 0))), (b_c, .inl (j_c, 16, .inl (fun _ => 0)))] H := hP
        have hD : va_D A [(b_o, .inr (7, [.ref b_m, .ref b_r, .int 0, .int pc, .int tk, .int 0, .int 0, .int 0, .int 7, .int 0, .ref b_l, .int 0, .int 0, .int 0, .int 0, .int 0, .int 0, .int 0, .int 0, .int g, .ref b_d, .ref b_w, .ref b_c, .int 0, .ref b_q, .int 0, .int 0, .int 0, .ref b_s, .int th])), (b_d, .inl (j_d, 16, .inl (fun _ => 0))), (b_w, .inl (j_w, 16, .inl (fun _ => 0))), (b_c, .inl (j_c, 16, .inl (fun _ => 0)))] := hD
        refine lv_aload_n hx hb dX7_scan_125 rfl (lv_at hl 1 rfl) ?_
        refine va_get (D := (dC, dI)) (ci := 7) (v := .ref b_w) (C := RX7) (T := TX7) (N := 30) hx hb hts zx_7 hown hK hP 0 rfl rfl 21 (by decide) (hts (.fieldLink RX7 27 "KeyboardKitModel" "was" "[Z") zw_741) (fun _ h9 => h9) rfl dX7_scan_126 ?_
        refine lv_iload_n hx hb dX7_scan_129 rfl (lv_at hl 0 rfl) ?_
        refine lv_aload_n hx hb dX7_scan_130 rfl (lv_at hl 1 rfl) ?_
        refine va_get (D := (dC, dI)) (ci := 7) (v := .ref b_d) (C := RX7) (T := TX7) (N := 30) hx hb hts zx_7 hown hK hP 0 rfl rfl 20 (by decide) (hts (.fieldLink RX7 24 "KeyboardKitModel" "down" "[Z") zw_740) (fun _ h9 => h9) rfl dX7_scan_131 ?_
        refine lv_iload_n hx hb dX7_scan_134 rfl (lv_at hl 0 rfl) ?_
        refine va_zald hx hb hK hP 1 0 rfl rfl (vp_in_nI hj (by decide)) dX7_scan_135 ?_
        refine lv_topi (fun v_6 ev_6 => ?_)
        obtain rfl : v_6 = 0 := ev_6.trans rfl
        refine va_zast hx hb hK hP hD hS 2 1 rfl rfl (vp_in_nI hj (by decide)) dX7_scan_136 (fun H locs hP hD hS => ?_)
        rw [zc_uz] at hP hD
        have hP : va_P (dC, dI) vwCl [(b_o, .inr (7, [.ref b_m, .ref b_r, .int 0, .int pc, .int tk, .int 0, .int 0, .int 0, .int 7, .int 0, .ref b_l, .int 0, .int 0, .int 0, .int 0, .int 0, .int 0, .int 0, .int 0, .int g, .ref b_d, .ref b_w, .ref b_c, .int 0, .ref b_q, .int 0, .int 0, .int 0, .ref b_s, .int th])), (b_d, .inl (j_d, 16, .inl (fun _ => 0))), (b_w, .inl (j_w, 16, .inl (fun _ => 0))), (b_c, .inl (j_c, 16, .inl (fun _ => 0)))] H := hP
        have hD : va_D A [(b_o, .inr (7, [.ref b_m, .ref b_r, .int 0, .int pc, .int tk, .int 0, .int 0, .int 0, .int 7, .int 0, .ref b_l, .int 0, .int 0, .int 0, .int 0, .int 0, .int 0, .int 0, .int 0, .int g, .ref b_d, .ref b_w, .ref b_c, .int 0, .ref b_q, .int 0, .int 0, .int 0, .ref b_s, .int th])), (b_d, .inl (j_d, 16, .inl (fun _ => 0))), (b_w, .inl (j_w, 16, .inl (fun _ => 0))), (b_c, .inl (j_c, 16, .inl (fun _ => 0)))] := hD
        refine lv_iinc (v := (nI (j + 1))) (lv' := [(1, .int (nI (j + 1))), (0, .ref b_o)]) hx hb dX7_scan_137 hl (k := 0) rfl (nI_1 j) (by decide) rfl (fun ls hl => ?_)
        refine lv_goto (tgt := 2) hx hb dX7_scan_140 (by decide) ?_
        exact ih (j + 1) (by omega) (by omega) _ _ _ (hP.sub [0, 1, 2, 3] rfl) (hD.sub [0, 1, 2, 3] (by decide) rfl) hS (lv_sub hl [0, 1] rfl)
      · refine lv_icmp_ge (tgt := 143) hx hb dX7_scan_5 (by decide) (fun c_7 => ?_) (fun c_7 => absurd (show nI 16 ≤ nI j from nI_le (by omega) (by omega)) c_7)
        have hP9 := hP.sub (ws' := [(b_o, .inr (7, [.ref b_m, .ref b_r, .int 0, .int pc, .int tk, .int 0, .int 0, .int 0, .int 7, .int 0, .ref b_l, .int 0, .int 0, .int 0, .int 0, .int 0, .int 0, .int 0, .int 0, .int g, .ref b_d, .ref b_w, .ref b_c, .int 0, .ref b_q, .int 0, .int 0, .int 0, .ref b_s, .int th])), (b_d, .inl (j_d, 16, .inl (fun _ => 0))), (b_w, .inl (j_w, 16, .inl (fun _ => 0))), (b_c, .inl (j_c, 16, .inl (fun _ => 0)))]) [0, 1, 2, 3] rfl
        have hD9 := hD.sub (ws' := [(b_o, .inr (7, [.ref b_m, .ref b_r, .int 0, .int pc, .int tk, .int 0, .int 0, .int 0, .int 7, .int 0, .ref b_l, .int 0, .int 0, .int 0, .int 0, .int 0, .int 0, .int 0, .int 0, .int g, .ref b_d, .ref b_w, .ref b_c, .int 0, .ref b_q, .int 0, .int 0, .int 0, .ref b_s, .int th])), (b_d, .inl (j_d, 16, .inl (fun _ => 0))), (b_w, .inl (j_w, 16, .inl (fun _ => 0))), (b_c, .inl (j_c, 16, .inl (fun _ => 0)))]) [0, 1, 2, 3] (by decide) rfl
        have hK9 := hK.sub (tys' := [(j_d, .boolean), (j_w, .boolean), (j_c, .boolean)]) [0, 1, 2] rfl
        exact W.vret hx hb hr (fun t9 ht hW => ⟨⟨(), rfl, trivial, by rw [ht]; exact hP9, va_K.moved hW.alike hK9, hD9⟩, hS.F ht⟩) hS.2.2 dX7_scan_143
  exact loop (16 + 1) 0 (by omega) (by omega) _ _ _ hP hD hS (lv_sub hl [0, 1] (by rw [nI_0]; rfl))
set_option maxHeartbeats 4000000 in
set_option maxRecDepth 100000 in
/-- reference: pass(4) -/
theorem r_pass (l : Launch) (dC : Nat → ClassId) (dI : Nat → Nat → Nat) (b_o : Nat) (b_m : Nat) (b_r : Nat) (b_l : Nat) (b_d : Nat) (b_w : Nat) (b_c : Nat) (b_q : Nat) (b_s : Nat) (j_d : ClassId) (j_w : ClassId) (j_c : ClassId) (pc : Int32) (tk : Int32) (g : Int32) (th : Int32) (sz : Nat) : Met l yX7_pass (zq yX7_pass cX7_pass 3 none) ({ frames := 1, cells := 0, slots := 0, locals := 21 }) (va_Pc [.ref b_o, .int 4] (zc_P (dC, dI) [(b_o, .inr (7, [.ref b_m, .ref b_r, .int 0, .int pc, .int tk, .int 0, .int 0, .int 0, .int 7, .int 0, .ref b_l, .int 0, .int 0, .int 0, .int 0, .int 0, .int 0, .int 0, .int 0, .int g, .ref b_d, .ref b_w, .ref b_c, .int 0, .ref b_q, .int 0, .int 0, .int 0, .ref b_s, .int th])), (b_d, .inl (j_d, 16, .inl (fun _ => 0))), (b_w, .inl (j_w, 16, .inl (fun _ => 0))), (b_c, .inl (j_c, 16, .inl (fun _ => 0)))] [(j_d, .boolean), (j_w, .boolean), (j_c, .boolean)] sz)) (va_Qv (fun _ => True) (fun (u : Int32) t9 => zc_B (dC, dI) (va_A [(b_o, .inr (7, [.ref b_m, .ref b_r, .int 0, .int pc, .int tk, .int 0, .int 0, .int 0, .int 7, .int 0, .ref b_l, .int 0, .int 0, .int 0, .int 0, .int 0, .int 0, .int 0, .int 0, .int g, .ref b_d, .ref b_w, .ref b_c, .int 0, .ref b_q, .int 0, .int 0, .int 0, .ref b_s, .int th])), (b_d, .inl (j_d, 16, .inl (fun _ => 0))), (b_w, .inl (j_w, 16, .inl (fun _ => 0))), (b_c, .inl (j_c, 16, .inl (fun _ => 0)))] sz) [(b_o, .inr (7, [.ref b_m, .ref b_r, .int 0, .int pc, .int tk, .int 0, .int 0, .int 0, .int 7, .int 0, .ref b_l, .int 0, .int 0, .int 0, .int 0, .int 0, .int 0, .int 0, .int 0, .int u, .ref b_d, .ref b_w, .ref b_c, .int 0, .ref b_q, .int 0, .int 0, .int 0, .ref b_s, .int th])), (b_d, .inl (j_d, 16, .inl (fun _ => 0))), (b_w, .inl (j_w, 16, .inl (fun _ => 0))), (b_c, .inl (j_c, 16, .inl (fun _ => 0)))] [(j_d, .boolean), (j_w, .boolean), (j_c, .boolean)] t9) (va_A [(b_o, .inr (7, [.ref b_m, .ref b_r, .int 0, .int pc, .int tk, .int 0, .int 0, .int 0, .int 7, .int 0, .ref b_l, .int 0, .int 0, .int 0, .int 0, .int 0, .int 0, .int 0, .int 0, .int g, .ref b_d, .ref b_w, .ref b_c, .int 0, .ref b_q, .int 0, .int 0, .int 0, .ref b_s, .int th])), (b_d, .inl (j_d, 16, .inl (fun _ => 0))), (b_w, .inl (j_w, 16, .inl (fun _ => 0))), (b_c, .inl (j_c, 16, .inl (fun _ => 0)))] sz)) 0 0 (va_A [(b_o, .inr (7, [.ref b_m, .ref b_r, .int 0, .int pc, .int tk, .int 0, .int 0, .int 0, .int 7, .int 0, .ref b_l, .int 0, .int 0, .int 0, .int 0, .int 0, .int 0, .int 0, .int 0, .int g, .ref b_d, .ref b_w, .ref b_c, .int 0, .ref b_q, .int 0, .int 0, .int 0, .ref b_s, .int th])), (b_d, .inl (j_d, 16, .inl (fun _ => 0))), (b_w, .inl (j_w, 16, .inl (fun _ => 0))), (b_c, .inl (j_c, 16, .inl (fun _ => 0)))] sz) := by
  refine Met.ofW (cc := cX7_pass) (maxL := 3) (ret := none) (by decide) rfl ?_
  intro p e s m args below meth c s₁ B hml hv
  obtain ⟨rfl, hsz, hP, hK, hD0, hN⟩ := hv
  have hx := B.exec
  have hb := B.bytes
  have hr := B.returns
  have hts : ∀ w ∈ zw, w.before _ s = true := fun w h => atoms_spec (ws := (zq yX7_pass cX7_pass 3 none)) B.pre w (List.mem_cons_of_mem _ h)
  have hown : s.vm.findClass RX7 = some m.cls := findClass_of_methodNamed B.named
  have hlocks := B.notSynchronized
  subst hsz
  have hD := hD0.self (sz := s.heap.size)
  generalize hAe : va_A [(b_o, .inr (7, [.ref b_m, .ref b_r, .int 0, .int pc, .int tk, .int 0, .int 0, .int 0, .int 7, .int 0, .ref b_l, .int 0, .int 0, .int 0, .int 0, .int 0, .int 0, .int 0, .int 0, .int g, .ref b_d, .ref b_w, .ref b_c, .int 0, .ref b_q, .int 0, .int 0, .int 0, .ref b_s, .int th])), (b_d, .inl (j_d, 16, .inl (fun _ => 0))), (b_w, .inl (j_w, 16, .inl (fun _ => 0))), (b_c, .inl (j_c, 16, .inl (fun _ => 0)))] s.heap.size = A at hD ⊢
  have hA : ∀ q : Nat, s.heap.size ≤ q → A q := fun q h => by rw [← hAe]; exact Or.inr h
  have hS : va_S A s.heap s.heap [] := va_S.rf
  have hP : va_P (dC, dI) vwCl [(b_o, .inr (7, [.ref b_m, .ref b_r, .int 0, .int pc, .int tk, .int 0, .int 0, .int 0, .int 7, .int 0, .ref b_l, .int 0, .int 0, .int 0, .int 0, .int 0, .int 0, .int 0, .int 0, .int g, .ref b_d, .ref b_w, .ref b_c, .int 0, .ref b_q, .int 0, .int 0, .int 0, .ref b_s, .int th])), (b_d, .inl (j_d, 16, .inl (fun _ => 0))), (b_w, .inl (j_w, 16, .inl (fun _ => 0))), (b_c, .inl (j_c, 16, .inl (fun _ => 0)))] s.heap := hP
  have hl := lv_entry ([.ref b_o, .int 4]) (n := 3) (Nat.le_of_ble_eq_true rfl)
  rw [lg_entry_eq]
  generalize (lg_sl ([.ref b_o, .int 4]) ++ List.replicate (3 - (lg_sl ([.ref b_o, .int 4])).length) Slot.unset).toArray = ls at hl ⊢
  have hl : lv_has ls 3 [(0, .ref b_o), (1, .int 4)] := hl
  refine lv_iconst (v := 0) hx hb dX7_pass_0 (by decide) ?_
  refine lv_istore_n (lv' := [(2, .int 0), (0, .ref b_o), (1, .int 4)]) hx hb dX7_pass_1 rfl hl (by decide) rfl (fun ls hl => ?_)
  have loop : ∀ (n j : Nat), 4 + 1 ≤ j + n → j ≤ 4 → ∀ (gg : Int32) (H : Heap) (locs : List Loc) (ls : Array Slot), va_P (dC, dI) vwCl [(b_o, .inr (7, [.ref b_m, .ref b_r, .int 0, .int pc, .int tk, .int 0, .int 0, .int 0, .int 7, .int 0, .ref b_l, .int 0, .int 0, .int 0, .int 0, .int 0, .int 0, .int 0, .int 0, .int gg, .ref b_d, .ref b_w, .ref b_c, .int 0, .ref b_q, .int 0, .int 0, .int 0, .ref b_s, .int th])), (b_d, .inl (j_d, 16, .inl (fun _ => 0))), (b_w, .inl (j_w, 16, .inl (fun _ => 0))), (b_c, .inl (j_c, 16, .inl (fun _ => 0)))] H → va_D A [(b_o, .inr (7, [.ref b_m, .ref b_r, .int 0, .int pc, .int tk, .int 0, .int 0, .int 0, .int 7, .int 0, .ref b_l, .int 0, .int 0, .int 0, .int 0, .int 0, .int 0, .int 0, .int 0, .int gg, .ref b_d, .ref b_w, .ref b_c, .int 0, .ref b_q, .int 0, .int 0, .int 0, .ref b_s, .int th])), (b_d, .inl (j_d, 16, .inl (fun _ => 0))), (b_w, .inl (j_w, 16, .inl (fun _ => 0))), (b_c, .inl (j_c, 16, .inl (fun _ => 0)))] → va_S A s.heap H locs → lv_has ls 3 [(2, .int (nI j)), (0, .ref b_o), (1, .int 4)] → W p l e (headSpec (zq yX7_pass cX7_pass 3 none) ({ frames := 1, cells := 0, slots := 0, locals := 21 })).room s m ([.ref b_o, .int 4] : List Value).toArray below meth c H locs 0 0 (MQ below (va_Qv (fun _ => True) (fun (u : Int32) t9 => zc_B (dC, dI) A [(b_o, .inr (7, [.ref b_m, .ref b_r, .int 0, .int pc, .int tk, .int 0, .int 0, .int 0, .int 7, .int 0, .ref b_l, .int 0, .int 0, .int 0, .int 0, .int 0, .int 0, .int 0, .int 0, .int u, .ref b_d, .ref b_w, .ref b_c, .int 0, .ref b_q, .int 0, .int 0, .int 0, .ref b_s, .int th])), (b_d, .inl (j_d, 16, .inl (fun _ => 0))), (b_w, .inl (j_w, 16, .inl (fun _ => 0))), (b_c, .inl (j_c, 16, .inl (fun _ => 0)))] [(j_d, .boolean), (j_w, .boolean), (j_c, .boolean)] t9) A) ([.ref b_o, .int 4] : List Value).toArray s 0 0 A) (F0 m 2 ls []) := by
    intro n
    induction n with
    | zero => intro j h1 h2; exact absurd h1 (by omega)
    | succ n ih =>
      intro j hj1 hj2 gg H locs ls hP hD hS hl
      refine lv_iload_n hx hb dX7_pass_2 rfl (lv_at hl 0 rfl) ?_
      refine lv_iload_n hx hb dX7_pass_3 rfl (lv_at hl 2 rfl) ?_
      by_cases hj : j < 4
      · refine lv_icmp_ge (tgt := 41) hx hb dX7_pass_4 (by decide) (fun c_1 => absurd c_1 (show ¬ nI 4 ≤ nI j from nI_ge hj (by decide))) (fun c_1 => ?_)
        refine lv_aload_n hx hb dX7_pass_7 rfl (lv_at hl 1 rfl) ?_
        refine zc_v (wr := [(b_d, .inl (j_d, 16, .inl (fun _ => 0))), (b_w, .inl (j_w, 16, .inl (fun _ => 0))), (b_c, .inl (j_c, 16, .inl (fun _ => 0)))]) hP hD hS hA [0] [1, 2, 3] rfl rfl (by decide) (by decide) (va_runV (As := []) (rest := []) ⟨hx, hb, hml, hown, hts⟩ (r_tt l dC dI b_o b_m b_r b_l b_d b_w b_c b_q b_s pc tk gg th _) (cwV 0 hts (zg_V zw_985 zw_987 zw_80 zw_90 zw_988) rfl rfl rfl (by decide +kernel) ⟨Nat.le_of_ble_eq_true rfl, Nat.le_of_ble_eq_true rfl⟩) ⟨zc_blind, va_recv hK hP (ci := 7) (q0 := 0) rfl rfl, zc_start hP hD hK hN [0] [] rfl (by decide) rfl⟩ rfl rfl hl.1 rfl (lv_room (Nat.le_of_ble_eq_true rfl)) dX7_pass_8 ⟨Nat.le_of_ble_eq_true rfl, Nat.le_of_ble_eq_true rfl⟩) (fun u_2 H locs hw hK1 hP hD hS => ?_)
        have hP : va_P (dC, dI) vwCl [(b_d, .inl (j_d, 16, .inl (fun _ => 0))), (b_w, .inl (j_w, 16, .inl (fun _ => 0))), (b_c, .inl (j_c, 16, .inl (fun _ => 0))), (b_o, .inr (7, [.ref b_m, .ref b_r, .int 0, .int pc, .int tk, .int 0, .int 0, .int 0, .int 7, .int 0, .ref b_l, .int 0, .int 0, .int 0, .int 0, .int 0, .int 0, .int 0, .int 0, .int gg, .ref b_d, .ref b_w, .ref b_c, .int 0, .ref b_q, .int 0, .int 0, .int 0, .ref b_s, .int th]))] H := hP
        have hD : va_D A [(b_d, .inl (j_d, 16, .inl (fun _ => 0))), (b_w, .inl (j_w, 16, .inl (fun _ => 0))), (b_c, .inl (j_c, 16, .inl (fun _ => 0))), (b_o, .inr (7, [.ref b_m, .ref b_r, .int 0, .int pc, .int tk, .int 0, .int 0, .int 0, .int 7, .int 0, .ref b_l, .int 0, .int 0, .int 0, .int 0, .int 0, .int 0, .int 0, .int 0, .int gg, .ref b_d, .ref b_w, .ref b_c, .int 0, .ref b_q, .int 0, .int 0, .int 0, .ref b_s, .int th]))] := hD
        refine lv_aload_n hx hb dX7_pass_11 rfl (lv_at hl 1 rfl) ?_
        refine lv_aload_n hx hb dX7_pass_12 rfl (lv_at hl 1 rfl) ?_
        refine va_get (D := (dC, dI)) (ci := 7) (v := .int gg) (C := RX7) (T := TX7) (N := 30) hx hb hts zx_7 hown hK hP 3 rfl rfl 19 (by decide) (hts (.fieldLink RX7 148 "KeyboardKitModel" "gone" "I") zw_739) (fun _ h9 => h9) rfl dX7_pass_13 ?_
        refine lv_iconst (v := 1) hx hb dX7_pass_16 (by decide) ?_
        refine lv_iadd hx hb dX7_pass_17 ?_
        refine lv_topi (fun v_3 ev_3 => ?_)
        refine lv_bipush (v := 63) hx hb dX7_pass_18 (by decide) ?_
        refine lv_iand hx hb dX7_pass_20 ?_
        refine lv_topi (fun v_4 ev_4 => ?_)
        refine va_put (D := (dC, dI)) (ci := 7) (v := .int v_4) (ty := .int) (C := RX7) (T := TX7) (N := 30) hx hb hts zx_7 tyX7 tyX7_ok nmX7 hown hK hP hD hS 3 rfl rfl 19 (by decide) (hts (.fieldLink RX7 148 "KeyboardKitModel" "gone" "I") zw_739) (fun _ h9 => h9) rfl (by decide +kernel) rfl rfl (Nat.le_of_ble_eq_true rfl) dX7_pass_21 (fun H locs hP hD hS => ?_)
        have hP : va_P (dC, dI) vwCl [(b_d, .inl (j_d, 16, .inl (fun _ => 0))), (b_w, .inl (j_w, 16, .inl (fun _ => 0))), (b_c, .inl (j_c, 16, .inl (fun _ => 0))), (b_o, .inr (7, [.ref b_m, .ref b_r, .int 0, .int pc, .int tk, .int 0, .int 0, .int 0, .int 7, .int 0, .ref b_l, .int 0, .int 0, .int 0, .int 0, .int 0, .int 0, .int 0, .int 0, .int v_4, .ref b_d, .ref b_w, .ref b_c, .int 0, .ref b_q, .int 0, .int 0, .int 0, .ref b_s, .int th]))] H := hP
        have hD : va_D A [(b_d, .inl (j_d, 16, .inl (fun _ => 0))), (b_w, .inl (j_w, 16, .inl (fun _ => 0))), (b_c, .inl (j_c, 16, .inl (fun _ => 0))), (b_o, .inr (7, [.ref b_m, .ref b_r, .int 0, .int pc, .int tk, .int 0, .int 0, .int 0, .int 7, .int 0, .ref b_l, .int 0, .int 0, .int 0, .int 0, .int 0, .int 0, .int 0, .int 0, .int v_4, .ref b_d, .ref b_w, .ref b_c, .int 0, .ref b_q, .int 0, .int 0, .int 0, .ref b_s, .int th]))] := hD
        refine lv_aload_n hx hb dX7_pass_24 rfl (lv_at hl 1 rfl) ?_
        refine va_get (D := (dC, dI)) (ci := 7) (v := .int v_4) (C := RX7) (T := TX7) (N := 30) hx hb hts zx_7 hown hK hP 3 rfl rfl 19 (by decide) (hts (.fieldLink RX7 148 "KeyboardKitModel" "gone" "I") zw_739) (fun _ h9 => h9) rfl dX7_pass_25 ?_
        refine lv_if_ne (tgt := 35) hx hb dX7_pass_28 (by decide) (fun c_5 => ?_) (fun c_5 => ?_)
        · refine lv_iinc (v := (nI (j + 1))) (lv' := [(2, .int (nI (j + 1))), (0, .ref b_o), (1, .int 4)]) hx hb dX7_pass_35 hl (k := 0) rfl (nI_1 j) (by decide) rfl (fun ls hl => ?_)
          refine lv_goto (tgt := 2) hx hb dX7_pass_38 (by decide) ?_
          exact ih (j + 1) (by omega) (by omega) v_4 _ _ _ (hP.sub [3, 0, 1, 2] rfl) (hD.sub [3, 0, 1, 2] (by decide) rfl) hS (lv_sub hl [0, 1, 2] rfl)
        · refine lv_aload_n hx hb dX7_pass_31 rfl (lv_at hl 1 rfl) ?_
          refine zc_v (wr := []) hP hD hS hA [3, 0, 1, 2] [] rfl rfl (by decide) (by decide) (va_runV (As := []) (rest := []) ⟨hx, hb, hml, hown, hts⟩ (r_scan l dC dI b_o b_m b_r b_l b_d b_w b_c b_q b_s j_d j_w j_c pc tk v_4 th _) (cwV 0 hts (zg_V zw_989 zw_991 zw_81 zw_90 zw_992) rfl rfl rfl (by decide +kernel) ⟨Nat.le_of_ble_eq_true rfl, Nat.le_of_ble_eq_true rfl⟩) ⟨zc_blind, va_recv hK hP (ci := 7) (q0 := 3) rfl rfl, zc_start hP hD hK hN [3, 0, 1, 2] [0, 1, 2] rfl (by decide) rfl⟩ rfl rfl hl.1 rfl (lv_room (Nat.le_of_ble_eq_true rfl)) dX7_pass_32 ⟨Nat.le_of_ble_eq_true rfl, Nat.le_of_ble_eq_true rfl⟩) (fun u_6 H locs hw hK1 hP hD hS => ?_)
          have hP : va_P (dC, dI) vwCl [(b_o, .inr (7, [.ref b_m, .ref b_r, .int 0, .int pc, .int tk, .int 0, .int 0, .int 0, .int 7, .int 0, .ref b_l, .int 0, .int 0, .int 0, .int 0, .int 0, .int 0, .int 0, .int 0, .int v_4, .ref b_d, .ref b_w, .ref b_c, .int 0, .ref b_q, .int 0, .int 0, .int 0, .ref b_s, .int th])), (b_d, .inl (j_d, 16, .inl (fun _ => 0))), (b_w, .inl (j_w, 16, .inl (fun _ => 0))), (b_c, .inl (j_c, 16, .inl (fun _ => 0)))] H := hP
          have hD : va_D A [(b_o, .inr (7, [.ref b_m, .ref b_r, .int 0, .int pc, .int tk, .int 0, .int 0, .int 0, .int 7, .int 0, .ref b_l, .int 0, .int 0, .int 0, .int 0, .int 0, .int 0, .int 0, .int 0, .int v_4, .ref b_d, .ref b_w, .ref b_c, .int 0, .ref b_q, .int 0, .int 0, .int 0, .ref b_s, .int th])), (b_d, .inl (j_d, 16, .inl (fun _ => 0))), (b_w, .inl (j_w, 16, .inl (fun _ => 0))), (b_c, .inl (j_c, 16, .inl (fun _ => 0)))] := hD
          refine lv_iinc (v := (nI (j + 1))) (lv' := [(2, .int (nI (j + 1))), (0, .ref b_o), (1, .int 4)]) hx hb dX7_pass_35 hl (k := 0) rfl (nI_1 j) (by decide) rfl (fun ls hl => ?_)
          refine lv_goto (tgt := 2) hx hb dX7_pass_38 (by decide) ?_
          exact ih (j + 1) (by omega) (by omega) v_4 _ _ _ (hP.sub [0, 1, 2, 3] rfl) (hD.sub [0, 1, 2, 3] (by decide) rfl) hS (lv_sub hl [0, 1, 2] rfl)
      · refine lv_icmp_ge (tgt := 41) hx hb dX7_pass_4 (by decide) (fun c_7 => ?_) (fun c_7 => absurd (show nI 4 ≤ nI j from nI_le (by omega) (by omega)) c_7)
        have hP9 := hP.sub (ws' := [(b_o, .inr (7, [.ref b_m, .ref b_r, .int 0, .int pc, .int tk, .int 0, .int 0, .int 0, .int 7, .int 0, .ref b_l, .int 0, .int 0, .int 0, .int 0, .int 0, .int 0, .int 0, .int 0, .int gg, .ref b_d, .ref b_w, .ref b_c, .int 0, .ref b_q, .int 0, .int 0, .int 0, .ref b_s, .int th])), (b_d, .inl (j_d, 16, .inl (fun _ => 0))), (b_w, .inl (j_w, 16, .inl (fun _ => 0))), (b_c, .inl (j_c, 16, .inl (fun _ => 0)))]) [0, 1, 2, 3] rfl
        have hD9 := hD.sub (ws' := [(b_o, .inr (7, [.ref b_m, .ref b_r, .int 0, .int pc, .int tk, .int 0, .int 0, .int 0, .int 7, .int 0, .ref b_l, .int 0, .int 0, .int 0, .int 0, .int 0, .int 0, .int 0, .int 0, .int gg, .ref b_d, .ref b_w, .ref b_c, .int 0, .ref b_q, .int 0, .int 0, .int 0, .ref b_s, .int th])), (b_d, .inl (j_d, 16, .inl (fun _ => 0))), (b_w, .inl (j_w, 16, .inl (fun _ => 0))), (b_c, .inl (j_c, 16, .inl (fun _ => 0)))]) [0, 1, 2, 3] (by decide) rfl
        have hK9 := hK.sub (tys' := [(j_d, .boolean), (j_w, .boolean), (j_c, .boolean)]) [0, 1, 2] rfl
        exact W.vret hx hb hr (fun t9 ht hW => ⟨⟨gg, rfl, trivial, by rw [ht]; exact hP9, va_K.moved hW.alike hK9, hD9⟩, hS.F ht⟩) hS.2.2 dX7_pass_41
  exact loop (4 + 1) 0 (by omega) (by omega) g _ _ _ hP hD hS (lv_sub hl [0, 1, 2] (by rw [nI_0]; rfl))
