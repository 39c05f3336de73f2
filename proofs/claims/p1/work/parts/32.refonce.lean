theorem dX7_once_0 : decode cX7_once 0 = .ok (.aload_n 0, 1) := by decide +kernel
theorem dX7_once_1 : decode cX7_once 1 = .ok (.iconst 0, 1) := by decide +kernel
theorem dX7_once_112 : decode cX7_once 112 = .ok (.aload_n 0, 1) := by decide +kernel
theorem dX7_once_113 : decode cX7_once 113 = .ok (.getfield 220, 3) := by decide +kernel
theorem dX7_once_116 : decode cX7_once 116 = .ok (.ifCond .eq 11, 3) := by decide +kernel
theorem dX7_once_127 : decode cX7_once 127 = .ok (.aload_n 0, 1) := by decide +kernel
theorem dX7_once_128 : decode cX7_once 128 = .ok (.invokevirtual 226, 3) := by decide +kernel
theorem dX7_once_131 : decode cX7_once 131 = .ok (.aload_n 0, 1) := by decide +kernel
theorem dX7_once_132 : decode cX7_once 132 = .ok (.getfield 42, 3) := by decide +kernel
theorem dX7_once_135 : decode cX7_once 135 = .ok (.istore_n 2, 1) := by decide +kernel
theorem dX7_once_136 : decode cX7_once 136 = .ok (.aload_n 0, 1) := by decide +kernel
theorem dX7_once_137 : decode cX7_once 137 = .ok (.iload_n 2, 1) := by decide +kernel
theorem dX7_once_138 : decode cX7_once 138 = .ok (.invokevirtual 229, 3) := by decide +kernel
theorem dX7_once_141 : decode cX7_once 141 = .ok (.iload_n 2, 1) := by decide +kernel
theorem dX7_once_142 : decode cX7_once 142 = .ok (.ireturn, 1) := by decide +kernel
theorem dX7_once_2 : decode cX7_once 2 = .ok (.putfield 42, 3) := by decide +kernel
theorem dX7_once_33 : decode cX7_once 33 = .ok (.iconst 0, 1) := by decide +kernel
theorem dX7_once_34 : decode cX7_once 34 = .ok (.istore_n 1, 1) := by decide +kernel
theorem dX7_once_35 : decode cX7_once 35 = .ok (.iload_n 1, 1) := by decide +kernel
theorem dX7_once_36 : decode cX7_once 36 = .ok (.ifCond .eq 76, 3) := by decide +kernel
theorem dX7_once_5 : decode cX7_once 5 = .ok (.aload_n 0, 1) := by decide +kernel
theorem dX7_once_6 : decode cX7_once 6 = .ok (.getfield 166, 3) := by decide +kernel
theorem dX7_once_9 : decode cX7_once 9 = .ok (.ifCond .eq 24, 3) := by decide +kernel
set_option maxHeartbeats 4000000 in
set_option maxRecDepth 100000 in
/-- reference: once over NOP -/
theorem r_once (l : Launch) (dC : Nat → ClassId) (dI : Nat → Nat → Nat) (b_o : Nat) (b_m : Nat) (b_r : Nat) (b_l : Nat) (b_d : Nat) (b_w : Nat) (b_c : Nat) (b_q : Nat) (b_s : Nat) (j_d : ClassId) (j_w : ClassId) (j_c : ClassId) (j_m : ClassId) (pc : Int32) (tk : Int32) (g : Int32) (th : Int32) (sz : Nat) : Met l yX7_once (zq yX7_once cX7_once 3 (some .int)) ({ frames := 3, cells := 0, slots := 0, locals := 66 }) (va_Pc [.ref b_o] (zc_P (dC, dI) [(b_o, .inr (7, [.ref b_m, .ref b_r, .int 0, .int pc, .int tk, .int 0, .int 0, .int 0, .int 7, .int 0, .ref b_l, .int 0, .int 0, .int 0, .int 0, .int 0, .int 0, .int 0, .int 0, .int g, .ref b_d, .ref b_w, .ref b_c, .int 0, .ref b_q, .int 0, .int 0, .int 0, .ref b_s, .int th])), (b_d, .inl (j_d, 16, .inl (fun _ => 0))), (b_w, .inl (j_w, 16, .inl (fun _ => 0))), (b_c, .inl (j_c, 16, .inl (fun _ => 0))), (b_m, .inl (j_m, 1024, .inl (fun _ => 0)))] [(j_d, .boolean), (j_w, .boolean), (j_c, .boolean), (j_m, .int)] sz)) (va_Qi (fun r _ => r = 4) (fun (u : Nat → Int32) t9 => zc_B (dC, dI) (va_A [(b_o, .inr (7, [.ref b_m, .ref b_r, .int 0, .int pc, .int tk, .int 0, .int 0, .int 0, .int 7, .int 0, .ref b_l, .int 0, .int 0, .int 0, .int 0, .int 0, .int 0, .int 0, .int 0, .int g, .ref b_d, .ref b_w, .ref b_c, .int 0, .ref b_q, .int 0, .int 0, .int 0, .ref b_s, .int th])), (b_d, .inl (j_d, 16, .inl (fun _ => 0))), (b_w, .inl (j_w, 16, .inl (fun _ => 0))), (b_c, .inl (j_c, 16, .inl (fun _ => 0))), (b_m, .inl (j_m, 1024, .inl (fun _ => 0)))] sz) [(b_o, .inr (7, [.ref b_m, .ref b_r, .int 0, .int (u 0), .int 4, .int 0, .int 0, .int 0, .int 7, .int 0, .ref b_l, .int 0, .int 0, .int 0, .int 0, .int 0, .int 0, .int 0, .int 0, .int (u 1), .ref b_d, .ref b_w, .ref b_c, .int 0, .ref b_q, .int 0, .int 0, .int 0, .ref b_s, .int th])), (b_d, .inl (j_d, 16, .inl (fun _ => 0))), (b_w, .inl (j_w, 16, .inl (fun _ => 0))), (b_c, .inl (j_c, 16, .inl (fun _ => 0))), (b_m, .inl (j_m, 1024, .inl (fun _ => 0)))] [(j_d, .boolean), (j_w, .boolean), (j_c, .boolean), (j_m, .int)] t9) (va_A [(b_o, .inr (7, [.ref b_m, .ref b_r, .int 0, .int pc, .int tk, .int 0, .int 0, .int 0, .int 7, .int 0, .ref b_l, .int 0, .int 0, .int 0, .int 0, .int 0, .int 0, .int 0, .int 0, .int g, .ref b_d, .ref b_w, .ref b_c, .int 0, .ref b_q, .int 0, .int 0, .int 0, .ref b_s, .int th])), (b_d, .inl (j_d, 16, .inl (fun _ => 0))), (b_w, .inl (j_w, 16, .inl (fun _ => 0))), (b_c, .inl (j_c, 16, .inl (fun _ => 0))), (b_m, .inl (j_m, 1024, .inl (fun _ => 0)))] sz)) 0 0 (va_A [(b_o, .inr (7, [.ref b_m, .ref b_r, .int 0, .int pc, .int tk, .int 0, .int 0, .int 0, .int 7, .int 0, .ref b_l, .int 0, .int 0, .int 0, .int 0, .int 0, .int 0, .int 0, .int 0, .int g, .ref b_d, .ref b_w, .ref b_c, .int 0, .ref b_q, .int 0, .int 0, .int 0, .ref b_s, .int th])), (b_d, .inl (j_d, 16, .inl (fun _ => 0))), (b_w, .inl (j_w, 16, .inl (fun _ => 0))), (b_c, .inl (j_c, 16, .inl (fun _ => 0))), (b_m, .inl (j_m, 1024, .inl (fun _ => 0)))] sz) := by
  refine Met.ofW (cc := cX7_once) (maxL := 3) (ret := (some .int)) (by decide) rfl ?_
  intro p e s m args below meth c s₁ B hml hv
  obtain ⟨rfl, hsz, hP, hK, hD0, hN⟩ := hv
  have hx := B.exec
  have hb := B.bytes
  have hr := B.returns
  have hts : ∀ w ∈ zw, w.before _ s = true := fun w h => atoms_spec (ws := (zq yX7_once cX7_once 3 (some .int))) B.pre w (List.mem_cons_of_mem _ h)
  have hown : s.vm.findClass RX7 = some m.cls := findClass_of_methodNamed B.named
  have hlocks := B.notSynchronized
  subst hsz
  have hD := hD0.self (sz := s.heap.size)
  generalize hAe : va_A [(b_o, .inr (7, [.ref b_m, .ref b_r, .int 0, .int pc, .int tk, .int 0, .int 0, .int 0, .int 7, .int 0, .ref b_l, .int 0, .int 0, .int 0, .int 0, .int 0, .int 0, .int 0, .int 0, .int g, .ref b_d, .ref b_w, .ref b_c, .int 0, .ref b_q, .int 0, .int 0, .int 0, .ref b_s, .int th])), (b_d, .inl (j_d, 16, .inl (fun _ => 0))), (b_w, .inl (j_w, 16, .inl (fun _ => 0))), (b_c, .inl (j_c, 16, .inl (fun _ => 0))), (b_m, .inl (j_m, 1024, .inl (fun _ => 0)))] s.heap.size = A at hD ⊢
  have hA : ∀ q : Nat, s.heap.size ≤ q → A q := fun q h => by rw [← hAe]; exact Or.inr h
  have hS : va_S A s.heap s.heap [] := va_S.rf
  have hP : va_P (dC, dI) vwCl [(b_o, .inr (7, [.ref b_m, .ref b_r, .int 0, .int pc, .int tk, .int 0, .int 0, .int 0, .int 7, .int 0, .ref b_l, .int 0, .int 0, .int 0, .int 0, .int 0, .int 0, .int 0, .int 0, .int g, .ref b_d, .ref b_w, .ref b_c, .int 0, .ref b_q, .int 0, .int 0, .int 0, .ref b_s, .int th])), (b_d, .inl (j_d, 16, .inl (fun _ => 0))), (b_w, .inl (j_w, 16, .inl (fun _ => 0))), (b_c, .inl (j_c, 16, .inl (fun _ => 0))), (b_m, .inl (j_m, 1024, .inl (fun _ => 0)))] s.heap := hP
  have hl := lv_entry ([.ref b_o]) (n := 3) (Nat.le_of_ble_eq_true rfl)
  rw [lg_entry_eq]
  generalize (lg_sl ([.ref b_o]) ++ List.replicate (3 - (lg_sl ([.ref b_o])).length) Slot.unset).toArray = ls at hl ⊢
  have hl : lv_has ls 3 [(0, .ref b_o)] := hl
  refine lv_aload_n hx hb dX7_once_0 rfl (lv_at hl 0 rfl) ?_
  refine lv_iconst (v := 0) hx hb dX7_once_1 (by decide) ?_
  refine va_put (D := (dC, dI)) (ci := 7) (v := .int 0) (ty := .int) (C := RX7) (T := TX7) (N := 30) hx hb hts zx_7 tyX7 tyX7_ok nmX7 hown hK hP hD hS 0 rfl rfl 4 (by decide) (hts (.fieldLink RX7 42 "KeyboardKitModel" "ticks" "I") zw_724) (fun _ h9 => h9) rfl (by decide +kernel) rfl rfl (Nat.le_of_ble_eq_true rfl) dX7_once_2 (fun H locs hP hD hS => ?_)
  have hP : va_P (dC, dI) vwCl [(b_o, .inr (7, [.ref b_m, .ref b_r, .int 0, .int pc, .int 0, .int 0, .int 0, .int 0, .int 7, .int 0, .ref b_l, .int 0, .int 0, .int 0, .int 0, .int 0, .int 0, .int 0, .int 0, .int g, .ref b_d, .ref b_w, .ref b_c, .int 0, .ref b_q, .int 0, .int 0, .int 0, .ref b_s, .int th])), (b_d, .inl (j_d, 16, .inl (fun _ => 0))), (b_w, .inl (j_w, 16, .inl (fun _ => 0))), (b_c, .inl (j_c, 16, .inl (fun _ => 0))), (b_m, .inl (j_m, 1024, .inl (fun _ => 0)))] H := hP
  have hD : va_D A [(b_o, .inr (7, [.ref b_m, .ref b_r, .int 0, .int pc, .int 0, .int 0, .int 0, .int 0, .int 7, .int 0, .ref b_l, .int 0, .int 0, .int 0, .int 0, .int 0, .int 0, .int 0, .int 0, .int g, .ref b_d, .ref b_w, .ref b_c, .int 0, .ref b_q, .int 0, .int 0, .int 0, .ref b_s, .int th])), (b_d, .inl (j_d, 16, .inl (fun _ => 0))), (b_w, .inl (j_w, 16, .inl (fun _ => 0))), (b_c, .inl (j_c, 16, .inl (fun _ => 0))), (b_m, .inl (j_m, 1024, .inl (fun _ => 0)))] := hD
  refine lv_aload_n hx hb dX7_once_5 rfl (lv_at hl 0 rfl) ?_
  refine va_get (D := (dC, dI)) (ci := 7) (v := .int 0) (C := RX7) (T := TX7) (N := 30) hx hb hts zx_7 hown hK hP 0 rfl rfl 5 (by decide) (hts (.fieldLink RX7 166 "KeyboardKitModel" "on" "Z") zw_725) (fun _ h9 => h9) rfl dX7_once_6 ?_
  refine lv_if_eq (tgt := 33) hx hb dX7_once_9 (by decide) (fun c_1 => ?_) (fun c_1 => absurd c_1 (by decide))
  refine lv_iconst (v := 0) hx hb dX7_once_33 (by decide) ?_
  refine lv_istore_n (lv' := [(1, .int 0), (0, .ref b_o)]) hx hb dX7_once_34 rfl hl (by decide) rfl (fun ls hl => ?_)
  refine lv_iload_n hx hb dX7_once_35 rfl (lv_at hl 0 rfl) ?_
  refine lv_if_eq (tgt := 112) hx hb dX7_once_36 (by decide) (fun c_2 => ?_) (fun c_2 => absurd c_2 (by decide))
  refine lv_aload_n hx hb dX7_once_112 rfl (lv_at hl 1 rfl) ?_
  refine va_get (D := (dC, dI)) (ci := 7) (v := .int 0) (C := RX7) (T := TX7) (N := 30) hx hb hts zx_7 hown hK hP 0 rfl rfl 7 (by decide) (hts (.fieldLink RX7 220 "KeyboardKitModel" "halts" "Z") zw_727) (fun _ h9 => h9) rfl dX7_once_113 ?_
  refine lv_if_eq (tgt := 127) hx hb dX7_once_116 (by decide) (fun c_3 => ?_) (fun c_3 => absurd c_3 (by decide))
  refine lv_aload_n hx hb dX7_once_127 rfl (lv_at hl 1 rfl) ?_
  refine zc_v (wr := [(b_d, .inl (j_d, 16, .inl (fun _ => 0))), (b_w, .inl (j_w, 16, .inl (fun _ => 0))), (b_c, .inl (j_c, 16, .inl (fun _ => 0)))]) hP hD hS hA [0, 4] [1, 2, 3] rfl rfl (by decide) (by decide) (va_runV (As := []) (rest := []) ⟨hx, hb, hml, hown, hts⟩ (r_ins l dC dI b_o b_m b_r b_l b_d b_w b_c b_q b_s j_m pc 0 g th _) (cwV 0 hts (zg_V zw_848 zw_850 zw_46 zw_90 zw_851) rfl rfl rfl (by decide +kernel) ⟨Nat.le_of_ble_eq_true rfl, Nat.le_of_ble_eq_true rfl⟩) ⟨zc_blind, va_recv hK hP (ci := 7) (q0 := 0) rfl rfl, zc_start hP hD hK hN [0, 4] [3] rfl (by decide) rfl⟩ rfl rfl hl.1 rfl (lv_room (Nat.le_of_ble_eq_true rfl)) dX7_once_128 ⟨Nat.le_of_ble_eq_true rfl, Nat.le_of_ble_eq_true rfl⟩) (fun u_4 H locs hw hK1 hP hD hS => ?_)
  have hP : va_P (dC, dI) vwCl [(b_d, .inl (j_d, 16, .inl (fun _ => 0))), (b_w, .inl (j_w, 16, .inl (fun _ => 0))), (b_c, .inl (j_c, 16, .inl (fun _ => 0))), (b_o, .inr (7, [.ref b_m, .ref b_r, .int 0, .int u_4, .int 4, .int 0, .int 0, .int 0, .int 7, .int 0, .ref b_l, .int 0, .int 0, .int 0, .int 0, .int 0, .int 0, .int 0, .int 0, .int g, .ref b_d, .ref b_w, .ref b_c, .int 0, .ref b_q, .int 0, .int 0, .int 0, .ref b_s, .int th])), (b_m, .inl (j_m, 1024, .inl (fun _ => 0)))] H := hP
  have hD : va_D A [(b_d, .inl (j_d, 16, .inl (fun _ => 0))), (b_w, .inl (j_w, 16, .inl (fun _ => 0))), (b_c, .inl (j_c, 16, .inl (fun _ => 0))), (b_o, .inr (7, [.ref b_m, .ref b_r, .int 0, .int u_4, .int 4, .int 0, .int 0, .int 0, .int 7, .int 0, .ref b_l, .int 0, .int 0, .int 0, .int 0, .int 0, .int 0, .int 0, .int 0, .int g, .ref b_d, .ref b_w, .ref b_c, .int 0, .ref b_q, .int 0, .int 0, .int 0, .ref b_s, .int th])), (b_m, .inl (j_m, 1024, .inl (fun _ => 0)))] := hD
  refine lv_aload_n hx hb dX7_once_131 rfl (lv_at hl 1 rfl) ?_
  refine va_get (D := (dC, dI)) (ci := 7) (v := .int 4) (C := RX7) (T := TX7) (N := 30) hx hb hts zx_7 hown hK hP 3 rfl rfl 4 (by decide) (hts (.fieldLink RX7 42 "KeyboardKitModel" "ticks" "I") zw_724) (fun _ h9 => h9) rfl dX7_once_132 ?_
  refine lv_istore_n (lv' := [(2, .int 4), (1, .int 0), (0, .ref b_o)]) hx hb dX7_once_135 rfl hl (by decide) rfl (fun ls hl => ?_)
  refine lv_aload_n hx hb dX7_once_136 rfl (lv_at hl 2 rfl) ?_
  refine lv_iload_n hx hb dX7_once_137 rfl (lv_at hl 0 rfl) ?_
  refine zc_v (wr := [(b_m, .inl (j_m, 1024, .inl (fun _ => 0)))]) hP hD hS hA [3, 0, 1, 2] [4] rfl rfl (by decide) (by decide) (va_runV (As := [.int 4]) (rest := []) ⟨hx, hb, hml, hown, hts⟩ (r_pass l dC dI b_o b_m b_r b_l b_d b_w b_c b_q b_s j_d j_w j_c u_4 4 g th _) (cwV 1 hts (zg_V zw_981 zw_983 zw_79 zw_90 zw_984) rfl rfl rfl (by decide +kernel) ⟨Nat.le_of_ble_eq_true rfl, Nat.le_of_ble_eq_true rfl⟩) ⟨zc_blind, va_recv hK hP (ci := 7) (q0 := 3) rfl rfl, zc_start hP hD hK hN [3, 0, 1, 2] [0, 1, 2] rfl (by decide) rfl⟩ rfl rfl hl.1 rfl (lv_room (Nat.le_of_ble_eq_true rfl)) dX7_once_138 ⟨Nat.le_of_ble_eq_true rfl, Nat.le_of_ble_eq_true rfl⟩) (fun u_5 H locs hw hK1 hP hD hS => ?_)
  have hP : va_P (dC, dI) vwCl [(b_m, .inl (j_m, 1024, .inl (fun _ => 0))), (b_o, .inr (7, [.ref b_m, .ref b_r, .int 0, .int u_4, .int 4, .int 0, .int 0, .int 0, .int 7, .int 0, .ref b_l, .int 0, .int 0, .int 0, .int 0, .int 0, .int 0, .int 0, .int 0, .int u_5, .ref b_d, .ref b_w, .ref b_c, .int 0, .ref b_q, .int 0, .int 0, .int 0, .ref b_s, .int th])), (b_d, .inl (j_d, 16, .inl (fun _ => 0))), (b_w, .inl (j_w, 16, .inl (fun _ => 0))), (b_c, .inl (j_c, 16, .inl (fun _ => 0)))] H := hP
  have hD : va_D A [(b_m, .inl (j_m, 1024, .inl (fun _ => 0))), (b_o, .inr (7, [.ref b_m, .ref b_r, .int 0, .int u_4, .int 4, .int 0, .int 0, .int 0, .int 7, .int 0, .ref b_l, .int 0, .int 0, .int 0, .int 0, .int 0, .int 0, .int 0, .int 0, .int u_5, .ref b_d, .ref b_w, .ref b_c, .int 0, .ref b_q, .int 0, .int 0, .int 0, .ref b_s, .int th])), (b_d, .inl (j_d, 16, .inl (fun _ => 0))), (b_w, .inl (j_w, 16, .inl (fun _ => 0))), (b_c, .inl (j_c, 16, .inl (fun _ => 0)))] := hD
  refine lv_iload_n hx hb dX7_once_141 rfl (lv_at hl 0 rfl) ?_
  have hP9 := hP.sub (ws' := [(b_o, .inr (7, [.ref b_m, .ref b_r, .int 0, .int u_4, .int 4, .int 0, .int 0, .int 0, .int 7, .int 0, .ref b_l, .int 0, .int 0, .int 0, .int 0, .int 0, .int 0, .int 0, .int 0, .int u_5, .ref b_d, .ref b_w, .ref b_c, .int 0, .ref b_q, .int 0, .int 0, .int 0, .ref b_s, .int th])), (b_d, .inl (j_d, 16, .inl (fun _ => 0))), (b_w, .inl (j_w, 16, .inl (fun _ => 0))), (b_c, .inl (j_c, 16, .inl (fun _ => 0))), (b_m, .inl (j_m, 1024, .inl (fun _ => 0)))]) [1, 2, 3, 4, 0] rfl
  have hD9 := hD.sub (ws' := [(b_o, .inr (7, [.ref b_m, .ref b_r, .int 0, .int u_4, .int 4, .int 0, .int 0, .int 0, .int 7, .int 0, .ref b_l, .int 0, .int 0, .int 0, .int 0, .int 0, .int 0, .int 0, .int 0, .int u_5, .ref b_d, .ref b_w, .ref b_c, .int 0, .ref b_q, .int 0, .int 0, .int 0, .ref b_s, .int th])), (b_d, .inl (j_d, 16, .inl (fun _ => 0))), (b_w, .inl (j_w, 16, .inl (fun _ => 0))), (b_c, .inl (j_c, 16, .inl (fun _ => 0))), (b_m, .inl (j_m, 1024, .inl (fun _ => 0)))]) [1, 2, 3, 4, 0] (by decide) rfl
  have hK9 := hK.sub (tys' := [(j_d, .boolean), (j_w, .boolean), (j_c, .boolean), (j_m, .int)]) [0, 1, 2, 3] rfl
  exact W.iret (v := 4) hx hb hr (fun t9 ht hW => ⟨⟨4, (fun k => match k with | 0 => u_4 | _ => u_5), rfl, rfl, by rw [ht]; exact hP9, va_K.moved hW.alike hK9, hD9⟩, hS.F ht⟩) hS.2.2 dX7_once_142
