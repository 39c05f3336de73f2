theorem dX7_set_15 : decode cX7_set 15 = .ok (.iconst 0, 1) := by decide +kernel
theorem dX7_set_27 : decode cX7_set 27 = .ok (.iload_n 1, 1) := by decide +kernel
theorem dX7_set_28 : decode cX7_set 28 = .ok (.bipush 8, 2) := by decide +kernel
theorem dX7_set_30 : decode cX7_set 30 = .ok (.if_icmp .ne 14, 3) := by decide +kernel
theorem dX7_set_33 : decode cX7_set 33 = .ok (.aload_n 0, 1) := by decide +kernel
theorem dX7_set_34 : decode cX7_set 34 = .ok (.iload_n 2, 1) := by decide +kernel
theorem dX7_set_35 : decode cX7_set 35 = .ok (.ldc 52, 2) := by decide +kernel
theorem dX7_set_37 : decode cX7_set 37 = .ok (.iand, 1) := by decide +kernel
theorem dX7_set_38 : decode cX7_set 38 = .ok (.putfield 64, 3) := by decide +kernel
theorem dX7_set_41 : decode cX7_set 41 = .ok (.goto 45, 3) := by decide +kernel
theorem dX7_set_44 : decode cX7_set 44 = .ok (.iload_n 1, 1) := by decide +kernel
theorem dX7_set_45 : decode cX7_set 45 = .ok (.bipush 9, 2) := by decide +kernel
theorem dX7_set_47 : decode cX7_set 47 = .ok (.if_icmp .ne 14, 3) := by decide +kernel
theorem dX7_set_50 : decode cX7_set 50 = .ok (.aload_n 0, 1) := by decide +kernel
theorem dX7_set_51 : decode cX7_set 51 = .ok (.iload_n 2, 1) := by decide +kernel
theorem dX7_set_52 : decode cX7_set 52 = .ok (.ldc 52, 2) := by decide +kernel
theorem dX7_set_54 : decode cX7_set 54 = .ok (.iand, 1) := by decide +kernel
theorem dX7_set_55 : decode cX7_set 55 = .ok (.putfield 45, 3) := by decide +kernel
theorem dX7_set_58 : decode cX7_set 58 = .ok (.goto 28, 3) := by decide +kernel
theorem dX7_set_61 : decode cX7_set 61 = .ok (.aload_n 0, 1) := by decide +kernel
theorem dX7_set_62 : decode cX7_set 62 = .ok (.getfield 13, 3) := by decide +kernel
theorem dX7_set_65 : decode cX7_set 65 = .ok (.iload_n 1, 1) := by decide +kernel
theorem dX7_set_66 : decode cX7_set 66 = .ok (.iload_n 1, 1) := by decide +kernel
theorem dX7_set_67 : decode cX7_set 67 = .ok (.bipush 6, 2) := by decide +kernel
theorem dX7_set_69 : decode cX7_set 69 = .ok (.if_icmp .ne 11, 3) := by decide +kernel
theorem dX7_set_72 : decode cX7_set 72 = .ok (.iload_n 2, 1) := by decide +kernel
theorem dX7_set_73 : decode cX7_set 73 = .ok (.sipush 247, 3) := by decide +kernel
theorem dX7_set_76 : decode cX7_set 76 = .ok (.iand, 1) := by decide +kernel
theorem dX7_set_77 : decode cX7_set 77 = .ok (.goto 8, 3) := by decide +kernel
theorem dX7_set_80 : decode cX7_set 80 = .ok (.iload_n 2, 1) := by decide +kernel
theorem dX7_set_81 : decode cX7_set 81 = .ok (.sipush 255, 3) := by decide +kernel
theorem dX7_set_84 : decode cX7_set 84 = .ok (.iand, 1) := by decide +kernel
theorem dX7_set_85 : decode cX7_set 85 = .ok (.iastore, 1) := by decide +kernel
theorem dX7_set_86 : decode cX7_set 86 = .ok (.return_, 1) := by decide +kernel
set_option maxHeartbeats 4000000 in
set_option maxRecDepth 100000 in
theorem r_set0 (l : Launch) (dC : Nat → ClassId) (dI : Nat → Nat → Nat) (b_o : Nat) (b_m : Nat) (b_r : Nat) (b_l : Nat) (b_d : Nat) (b_w : Nat) (b_c : Nat) (b_q : Nat) (b_s : Nat) (j_r : ClassId) (pc : Int32) (tk : Int32) (g : Int32) (th : Int32) (v : Int32) (sz : Nat) : Met l yX7_set (zq yX7_set cX7_set 3 none) ({ frames := 0, cells := 0, slots := 0, locals := 0 }) (va_Pc [.ref b_o, .int 0, .int v] (zc_P (dC, dI) [(b_o, .inr (7, [.ref b_m, .ref b_r, .int 0, .int pc, .int tk, .int 0, .int 0, .int 0, .int 7, .int 0, .ref b_l, .int 0, .int 0, .int 0, .int 0, .int 0, .int 0, .int 0, .int 0, .int g, .ref b_d, .ref b_w, .ref b_c, .int 0, .ref b_q, .int 0, .int 0, .int 0, .ref b_s, .int th])), (b_r, .inl (j_r, 8, .inl (fun _ => 0)))] [(j_r, .int)] sz)) (va_Qv (fun _ => True) (fun (u : Nat → Int32) t9 => zc_B (dC, dI) (va_A [(b_o, .inr (7, [.ref b_m, .ref b_r, .int 0, .int pc, .int tk, .int 0, .int 0, .int 0, .int 7, .int 0, .ref b_l, .int 0, .int 0, .int 0, .int 0, .int 0, .int 0, .int 0, .int 0, .int g, .ref b_d, .ref b_w, .ref b_c, .int 0, .ref b_q, .int 0, .int 0, .int 0, .ref b_s, .int th])), (b_r, .inl (j_r, 8, .inl (fun _ => 0)))] sz) [(b_o, .inr (7, [.ref b_m, .ref b_r, .int (u 0), .int (u 1), .int tk, .int 0, .int 0, .int 0, .int 7, .int 0, .ref b_l, .int 0, .int 0, .int 0, .int 0, .int 0, .int 0, .int 0, .int 0, .int g, .ref b_d, .ref b_w, .ref b_c, .int 0, .ref b_q, .int 0, .int 0, .int 0, .ref b_s, .int 0]))] [(j_r, .int)] t9) (va_A [(b_o, .inr (7, [.ref b_m, .ref b_r, .int 0, .int pc, .int tk, .int 0, .int 0, .int 0, .int 7, .int 0, .ref b_l, .int 0, .int 0, .int 0, .int 0, .int 0, .int 0, .int 0, .int 0, .int g, .ref b_d, .ref b_w, .ref b_c, .int 0, .ref b_q, .int 0, .int 0, .int 0, .ref b_s, .int th])), (b_r, .inl (j_r, 8, .inl (fun _ => 0)))] sz)) 0 0 (va_A [(b_o, .inr (7, [.ref b_m, .ref b_r, .int 0, .int pc, .int tk, .int 0, .int 0, .int 0, .int 7, .int 0, .ref b_l, .int 0, .int 0, .int 0, .int 0, .int 0, .int 0, .int 0, .int 0, .int g, .ref b_d, .ref b_w, .ref b_c, .int 0, .ref b_q, .int 0, .int 0, .int 0, .ref b_s, .int th])), (b_r, .inl (j_r, 8, .inl (fun _ => 0)))] sz) := by
  refine Met.ofW (cc := cX7_set) (maxL := 3) (ret := none) (by decide) rfl ?_
  intro p e s m args below meth c s₁ B hml hv
  obtain ⟨rfl, hsz, hP, hK, hD0, hN⟩ := hv
  have hx := B.exec
  have hb := B.bytes
  have hr := B.returns
  have hts : ∀ w ∈ zw, w.before _ s = true := fun w h => atoms_spec (ws := (zq yX7_set cX7_set 3 none)) B.pre w (List.mem_cons_of_mem _ h)
  have hown : s.vm.findClass RX7 = some m.cls := findClass_of_methodNamed B.named
  have hlocks := B.notSynchronized
  subst hsz
  have hD := hD0.self (sz := s.heap.size)
  generalize hAe : va_A [(b_o, .inr (7, [.ref b_m, .ref b_r, .int 0, .int pc, .int tk, .int 0, .int 0, .int 0, .int 7, .int 0, .ref b_l, .int 0, .int 0, .int 0, .int 0, .int 0, .int 0, .int 0, .int 0, .int g, .ref b_d, .ref b_w, .ref b_c, .int 0, .ref b_q, .int 0, .int 0, .int 0, .ref b_s, .int th])), (b_r, .inl (j_r, 8, .inl (fun _ => 0)))] s.heap.size = A at hD ⊢
  have hA : ∀ q : Nat, s.heap.size ≤ q → A q := fun q h => by rw [← hAe]; exact Or.inr h
  have hS : va_S A s.heap s.heap [] := va_S.rf
  have hP : va_P (dC, dI) vwCl [(b_o, .inr (7, [.ref b_m, .ref b_r, .int 0, .int pc, .int tk, .int 0, .int 0, .int 0, .int 7, .int 0, .ref b_l, .int 0, .int 0, .int 0, .int 0, .int 0, .int 0, .int 0, .int 0, .int g, .ref b_d, .ref b_w, .ref b_c, .int 0, .ref b_q, .int 0, .int 0, .int 0, .ref b_s, .int th])), (b_r, .inl (j_r, 8, .inl (fun _ => 0)))] s.heap := hP
  have hl := lv_entry ([.ref b_o, .int 0, .int v]) (n := 3) (Nat.le_of_ble_eq_true rfl)
  rw [lg_entry_eq]
  generalize (lg_sl ([.ref b_o, .int 0, .int v]) ++ List.replicate (3 - (lg_sl ([.ref b_o, .int 0, .int v])).length) Slot.unset).toArray = ls at hl ⊢
  have hl : lv_has ls 3 [(0, .ref b_o), (1, .int 0), (2, .int v)] := hl
  refine lv_aload_n hx hb dX7_set_0 rfl (lv_at hl 0 rfl) ?_
  refine lv_iload_n hx hb dX7_set_1 rfl (lv_at hl 1 rfl) ?_
  refine lv_if_lt (tgt := 11) hx hb dX7_set_2 (by decide) (fun c_1 => absurd c_1 (by decide)) (fun c_1 => ?_)
  refine lv_iload_n hx hb dX7_set_5 rfl (lv_at hl 1 rfl) ?_
  refine lv_bipush (v := 9) hx hb dX7_set_6 (by decide) ?_
  refine lv_icmp_le (tgt := 15) hx hb dX7_set_8 (by decide) (fun c_2 => ?_) (fun c_2 => absurd c_2 (by decide))
  refine lv_iconst (v := 0) hx hb dX7_set_15 (by decide) ?_
  refine va_put (D := (dC, dI)) (ci := 7) (v := .int 0) (ty := .int) (C := RX7) (T := TX7) (N := 30) hx hb hts zx_7 tyX7 tyX7_ok nmX7 hown hK hP hD hS 0 rfl rfl 29 (by decide) (hts (.fieldLink RX7 39 "KeyboardKitModel" "thrown" "I") zw_749) (fun _ h9 => h9) rfl (by decide +kernel) rfl rfl (Nat.le_of_ble_eq_true rfl) dX7_set_16 (fun H locs hP hD hS => ?_)
  have hP : va_P (dC, dI) vwCl [(b_o, .inr (7, [.ref b_m, .ref b_r, .int 0, .int pc, .int tk, .int 0, .int 0, .int 0, .int 7, .int 0, .ref b_l, .int 0, .int 0, .int 0, .int 0, .int 0, .int 0, .int 0, .int 0, .int g, .ref b_d, .ref b_w, .ref b_c, .int 0, .ref b_q, .int 0, .int 0, .int 0, .ref b_s, .int 0])), (b_r, .inl (j_r, 8, .inl (fun _ => 0)))] H := hP
  have hD : va_D A [(b_o, .inr (7, [.ref b_m, .ref b_r, .int 0, .int pc, .int tk, .int 0, .int 0, .int 0, .int 7, .int 0, .ref b_l, .int 0, .int 0, .int 0, .int 0, .int 0, .int 0, .int 0, .int 0, .int g, .ref b_d, .ref b_w, .ref b_c, .int 0, .ref b_q, .int 0, .int 0, .int 0, .ref b_s, .int 0])), (b_r, .inl (j_r, 8, .inl (fun _ => 0)))] := hD
  refine lv_aload_n hx hb dX7_set_19 rfl (lv_at hl 0 rfl) ?_
  refine va_get (D := (dC, dI)) (ci := 7) (v := .int 0) (C := RX7) (T := TX7) (N := 30) hx hb hts zx_7 hown hK hP 0 rfl rfl 29 (by decide) (hts (.fieldLink RX7 39 "KeyboardKitModel" "thrown" "I") zw_749) (fun _ h9 => h9) rfl dX7_set_20 ?_
  refine lv_if_eq (tgt := 27) hx hb dX7_set_23 (by decide) (fun c_3 => ?_) (fun c_3 => absurd c_3 (by decide))
  refine lv_iload_n hx hb dX7_set_27 rfl (lv_at hl 1 rfl) ?_
  refine lv_bipush (v := 8) hx hb dX7_set_28 (by decide) ?_
  refine lv_icmp_ne (tgt := 44) hx hb dX7_set_30 (by decide) (fun c_4 => ?_) (fun c_4 => absurd c_4 (by decide))
  refine lv_iload_n hx hb dX7_set_44 rfl (lv_at hl 1 rfl) ?_
  refine lv_bipush (v := 9) hx hb dX7_set_45 (by decide) ?_
  refine lv_icmp_ne (tgt := 61) hx hb dX7_set_47 (by decide) (fun c_5 => ?_) (fun c_5 => absurd c_5 (by decide))
  refine lv_aload_n hx hb dX7_set_61 rfl (lv_at hl 0 rfl) ?_
  refine va_get (D := (dC, dI)) (ci := 7) (v := .ref b_r) (C := RX7) (T := TX7) (N := 30) hx hb hts zx_7 hown hK hP 0 rfl rfl 1 (by decide) (hts (.fieldLink RX7 13 "KeyboardKitModel" "register" "[I") zw_721) (fun _ h9 => h9) rfl dX7_set_62 ?_
  refine lv_iload_n hx hb dX7_set_65 rfl (lv_at hl 1 rfl) ?_
  refine lv_iload_n hx hb dX7_set_66 rfl (lv_at hl 1 rfl) ?_
  refine lv_bipush (v := 6) hx hb dX7_set_67 (by decide) ?_
  refine lv_icmp_ne (tgt := 80) hx hb dX7_set_69 (by decide) (fun c_6 => ?_) (fun c_6 => absurd c_6 (by decide))
  refine lv_iload_n hx hb dX7_set_80 rfl (lv_at hl 2 rfl) ?_
  refine lv_sipush (v := 255) hx hb dX7_set_81 (by decide) ?_
  refine lv_iand hx hb dX7_set_84 ?_
  refine lv_topi (fun v_7 ev_7 => ?_)
  refine va_iast hx hb hK hP hD hS 1 0 rfl rfl (show ¬ ((0 : Int32) < 0 ∨ 8 ≤ (0 : Int32).toNatClampNeg) by decide) dX7_set_85 (fun H locs hP hD hS => ?_)
  have hP : va_P (dC, dI) vwCl [(b_o, .inr (7, [.ref b_m, .ref b_r, .int 0, .int pc, .int tk, .int 0, .int 0, .int 0, .int 7, .int 0, .ref b_l, .int 0, .int 0, .int 0, .int 0, .int 0, .int 0, .int 0, .int 0, .int g, .ref b_d, .ref b_w, .ref b_c, .int 0, .ref b_q, .int 0, .int 0, .int 0, .ref b_s, .int 0])), (b_r, .inl (j_r, 8, .inl (upd (fun _ => 0) (0 : Int32).toNatClampNeg v_7)))] H := hP
  have hD : va_D A [(b_o, .inr (7, [.ref b_m, .ref b_r, .int 0, .int pc, .int tk, .int 0, .int 0, .int 0, .int 7, .int 0, .ref b_l, .int 0, .int 0, .int 0, .int 0, .int 0, .int 0, .int 0, .int 0, .int g, .ref b_d, .ref b_w, .ref b_c, .int 0, .ref b_q, .int 0, .int 0, .int 0, .ref b_s, .int 0])), (b_r, .inl (j_r, 8, .inl (upd (fun _ => 0) (0 : Int32).toNatClampNeg v_7)))] := hD
  have hP9 := hP.sub (ws' := [(b_o, .inr (7, [.ref b_m, .ref b_r, .int 0, .int pc, .int tk, .int 0, .int 0, .int 0, .int 7, .int 0, .ref b_l, .int 0, .int 0, .int 0, .int 0, .int 0, .int 0, .int 0, .int 0, .int g, .ref b_d, .ref b_w, .ref b_c, .int 0, .ref b_q, .int 0, .int 0, .int 0, .ref b_s, .int 0]))]) [0] rfl
  have hD9 := hD.sub (ws' := [(b_o, .inr (7, [.ref b_m, .ref b_r, .int 0, .int pc, .int tk, .int 0, .int 0, .int 0, .int 7, .int 0, .ref b_l, .int 0, .int 0, .int 0, .int 0, .int 0, .int 0, .int 0, .int 0, .int g, .ref b_d, .ref b_w, .ref b_c, .int 0, .ref b_q, .int 0, .int 0, .int 0, .ref b_s, .int 0]))]) [0] (by decide) rfl
  have hK9 := hK.sub (tys' := [(j_r, .int)]) [0] rfl
  exact W.vret hx hb hr (fun t9 ht hW => ⟨⟨(fun k => match k with | 0 => 0 | _ => pc), rfl, trivial, by rw [ht]; exact hP9, va_K.moved hW.alike hK9, hD9⟩, hS.F ht⟩) hS.2.2 dX7_set_86
set_option maxHeartbeats 4000000 in
set_option maxRecDepth 100000 in
theorem r_set1 (l : Launch) (dC : Nat → ClassId) (dI : Nat → Nat → Nat) (b_o : Nat) (b_m : Nat) (b_r : Nat) (b_l : Nat) (b_d : Nat) (b_w : Nat) (b_c : Nat) (b_q : Nat) (b_s : Nat) (j_r : ClassId) (pc : Int32) (tk : Int32) (g : Int32) (th : Int32) (v : Int32) (sz : Nat) : Met l yX7_set (zq yX7_set cX7_set 3 none) ({ frames := 0, cells := 0, slots := 0, locals := 0 }) (va_Pc [.ref b_o, .int 1, .int v] (zc_P (dC, dI) [(b_o, .inr (7, [.ref b_m, .ref b_r, .int 0, .int pc, .int tk, .int 0, .int 0, .int 0, .int 7, .int 0, .ref b_l, .int 0, .int 0, .int 0, .int 0, .int 0, .int 0, .int 0, .int 0, .int g, .ref b_d, .ref b_w, .ref b_c, .int 0, .ref b_q, .int 0, .int 0, .int 0, .ref b_s, .int th])), (b_r, .inl (j_r, 8, .inl (fun _ => 0)))] [(j_r, .int)] sz)) (va_Qv (fun _ => True) (fun (u : Nat → Int32) t9 => zc_B (dC, dI) (va_A [(b_o, .inr (7, [.ref b_m, .ref b_r, .int 0, .int pc, .int tk, .int 0, .int 0, .int 0, .int 7, .int 0, .ref b_l, .int 0, .int 0, .int 0, .int 0, .int 0, .int 0, .int 0, .int 0, .int g, .ref b_d, .ref b_w, .ref b_c, .int 0, .ref b_q, .int 0, .int 0, .int 0, .ref b_s, .int th])), (b_r, .inl (j_r, 8, .inl (fun _ => 0)))] sz) [(b_o, .inr (7, [.ref b_m, .ref b_r, .int (u 0), .int (u 1), .int tk, .int 0, .int 0, .int 0, .int 7, .int 0, .ref b_l, .int 0, .int 0, .int 0, .int 0, .int 0, .int 0, .int 0, .int 0, .int g, .ref b_d, .ref b_w, .ref b_c, .int 0, .ref b_q, .int 0, .int 0, .int 0, .ref b_s, .int 0]))] [(j_r, .int)] t9) (va_A [(b_o, .inr (7, [.ref b_m, .ref b_r, .int 0, .int pc, .int tk, .int 0, .int 0, .int 0, .int 7, .int 0, .ref b_l, .int 0, .int 0, .int 0, .int 0, .int 0, .int 0, .int 0, .int 0, .int g, .ref b_d, .ref b_w, .ref b_c, .int 0, .ref b_q, .int 0, .int 0, .int 0, .ref b_s, .int th])), (b_r, .inl (j_r, 8, .inl (fun _ => 0)))] sz)) 0 0 (va_A [(b_o, .inr (7, [.ref b_m, .ref b_r, .int 0, .int pc, .int tk, .int 0, .int 0, .int 0, .int 7, .int 0, .ref b_l, .int 0, .int 0, .int 0, .int 0, .int 0, .int 0, .int 0, .int 0, .int g, .ref b_d, .ref b_w, .ref b_c, .int 0, .ref b_q, .int 0, .int 0, .int 0, .ref b_s, .int th])), (b_r, .inl (j_r, 8, .inl (fun _ => 0)))] sz) := by
  refine Met.ofW (cc := cX7_set) (maxL := 3) (ret := none) (by decide) rfl ?_
  intro p e s m args below meth c s₁ B hml hv
  obtain ⟨rfl, hsz, hP, hK, hD0, hN⟩ := hv
  have hx := B.exec
  have hb := B.bytes
  have hr := B.returns
  have hts : ∀ w ∈ zw, w.before _ s = true := fun w h => atoms_spec (ws := (zq yX7_set cX7_set 3 none)) B.pre w (List.mem_cons_of_mem _ h)
  have hown : s.vm.findClass RX7 = some m.cls := findClass_of_methodNamed B.named
  have hlocks := B.notSynchronized
  subst hsz
  have hD := hD0.self (sz := s.heap.size)
  generalize hAe : va_A [(b_o, .inr (7, [.ref b_m, .ref b_r, .int 0, .int pc, .int tk, .int 0, .int 0, .int 0, .int 7, .int 0, .ref b_l, .int 0, .int 0, .int 0, .int 0, .int 0, .int 0, .int 0, .int 0, .int g, .ref b_d, .ref b_w, .ref b_c, .int 0, .ref b_q, .int 0, .int 0, .int 0, .ref b_s, .int th])), (b_r, .inl (j_r, 8, .inl (fun _ => 0)))] s.heap.size = A at hD ⊢
  have hA : ∀ q : Nat, s.heap.size ≤ q → A q := fun q h => by rw [← hAe]; exact Or.inr h
  have hS : va_S A s.heap s.heap [] := va_S.rf
  have hP : va_P (dC, dI) vwCl [(b_o, .inr (7, [.ref b_m, .ref b_r, .int 0, .int pc, .int tk, .int 0, .int 0, .int 0, .int 7, .int 0, .ref b_l, .int 0, .int 0, .int 0, .int 0, .int 0, .int 0, .int 0, .int 0, .int g, .ref b_d, .ref b_w, .ref b_c, .int 0, .ref b_q, .int 0, .int 0, .int 0, .ref b_s, .int th])), (b_r, .inl (j_r, 8, .inl (fun _ => 0)))] s.heap := hP
  have hl := lv_entry ([.ref b_o, .int 1, .int v]) (n := 3) (Nat.le_of_ble_eq_true rfl)
  rw [lg_entry_eq]
  generalize (lg_sl ([.ref b_o, .int 1, .int v]) ++ List.replicate (3 - (lg_sl ([.ref b_o, .int 1, .int v])).length) Slot.unset).toArray = ls at hl ⊢
  have hl : lv_has ls 3 [(0, .ref b_o), (1, .int 1), (2, .int v)] := hl
  refine lv_aload_n hx hb dX7_set_0 rfl (lv_at hl 0 rfl) ?_
  refine lv_iload_n hx hb dX7_set_1 rfl (lv_at hl 1 rfl) ?_
  refine lv_if_lt (tgt := 11) hx hb dX7_set_2 (by decide) (fun c_1 => absurd c_1 (by decide)) (fun c_1 => ?_)
  refine lv_iload_n hx hb dX7_set_5 rfl (lv_at hl 1 rfl) ?_
  refine lv_bipush (v := 9) hx hb dX7_set_6 (by decide) ?_
  refine lv_icmp_le (tgt := 15) hx hb dX7_set_8 (by decide) (fun c_2 => ?_) (fun c_2 => absurd c_2 (by decide))
  refine lv_iconst (v := 0) hx hb dX7_set_15 (by decide) ?_
  refine va_put (D := (dC, dI)) (ci := 7) (v := .int 0) (ty := .int) (C := RX7) (T := TX7) (N := 30) hx hb hts zx_7 tyX7 tyX7_ok nmX7 hown hK hP hD hS 0 rfl rfl 29 (by decide) (hts (.fieldLink RX7 39 "KeyboardKitModel" "thrown" "I") zw_749) (fun _ h9 => h9) rfl (by decide +kernel) rfl rfl (Nat.le_of_ble_eq_true rfl) dX7_set_16 (fun H locs hP hD hS => ?_)
  have hP : va_P (dC, dI) vwCl [(b_o, .inr (7, [.ref b_m, .ref b_r, .int 0, .int pc, .int tk, .int 0, .int 0, .int 0, .int 7, .int 0, .ref b_l, .int 0, .int 0, .int 0, .int 0, .int 0, .int 0, .int 0, .int 0, .int g, .ref b_d, .ref b_w, .ref b_c, .int 0, .ref b_q, .int 0, .int 0, .int 0, .ref b_s, .int 0])), (b_r, .inl (j_r, 8, .inl (fun _ => 0)))] H := hP
  have hD : va_D A [(b_o, .inr (7, [.ref b_m, .ref b_r, .int 0, .int pc, .int tk, .int 0, .int 0, .int 0, .int 7, .int 0, .ref b_l, .int 0, .int 0, .int 0, .int 0, .int 0, .int 0, .int 0, .int 0, .int g, .ref b_d, .ref b_w, .ref b_c, .int 0, .ref b_q, .int 0, .int 0, .int 0, .ref b_s, .int 0])), (b_r, .inl (j_r, 8, .inl (fun _ => 0)))] := hD
  refine lv_aload_n hx hb dX7_set_19 rfl (lv_at hl 0 rfl) ?_
  refine va_get (D := (dC, dI)) (ci := 7) (v := .int 0) (C := RX7) (T := TX7) (N := 30) hx hb hts zx_7 hown hK hP 0 rfl rfl 29 (by decide) (hts (.fieldLink RX7 39 "KeyboardKitModel" "thrown" "I") zw_749) (fun _ h9 => h9) rfl dX7_set_20 ?_
  refine lv_if_eq (tgt := 27) hx hb dX7_set_23 (by decide) (fun c_3 => ?_) (fun c_3 => absurd c_3 (by decide))
  refine lv_iload_n hx hb dX7_set_27 rfl (lv_at hl 1 rfl) ?_
  refine lv_bipush (v := 8) hx hb dX7_set_28 (by decide) ?_
  refine lv_icmp_ne (tgt := 44) hx hb dX7_set_30 (by decide) (fun c_4 => ?_) (fun c_4 => absurd c_4 (by decide))
  refine lv_iload_n hx hb dX7_set_44 rfl (lv_at hl 1 rfl) ?_
  refine lv_bipush (v := 9) hx hb dX7_set_45 (by decide) ?_
  refine lv_icmp_ne (tgt := 61) hx hb dX7_set_47 (by decide) (fun c_5 => ?_) (fun c_5 => absurd c_5 (by decide))
  refine lv_aload_n hx hb dX7_set_61 rfl (lv_at hl 0 rfl) ?_
  refine va_get (D := (dC, dI)) (ci := 7) (v := .ref b_r) (C := RX7) (T := TX7) (N := 30) hx hb hts zx_7 hown hK hP 0 rfl rfl 1 (by decide) (hts (.fieldLink RX7 13 "KeyboardKitModel" "register" "[I") zw_721) (fun _ h9 => h9) rfl dX7_set_62 ?_
  refine lv_iload_n hx hb dX7_set_65 rfl (lv_at hl 1 rfl) ?_
  refine lv_iload_n hx hb dX7_set_66 rfl (lv_at hl 1 rfl) ?_
  refine lv_bipush (v := 6) hx hb dX7_set_67 (by decide) ?_
  refine lv_icmp_ne (tgt := 80) hx hb dX7_set_69 (by decide) (fun c_6 => ?_) (fun c_6 => absurd c_6 (by decide))
  refine lv_iload_n hx hb dX7_set_80 rfl (lv_at hl 2 rfl) ?_
  refine lv_sipush (v := 255) hx hb dX7_set_81 (by decide) ?_
  refine lv_iand hx hb dX7_set_84 ?_
  refine lv_topi (fun v_7 ev_7 => ?_)
  refine va_iast hx hb hK hP hD hS 1 0 rfl rfl (show ¬ ((1 : Int32) < 0 ∨ 8 ≤ (1 : Int32).toNatClampNeg) by decide) dX7_set_85 (fun H locs hP hD hS => ?_)
  have hP : va_P (dC, dI) vwCl [(b_o, .inr (7, [.ref b_m, .ref b_r, .int 0, .int pc, .int tk, .int 0, .int 0, .int 0, .int 7, .int 0, .ref b_l, .int 0, .int 0, .int 0, .int 0, .int 0, .int 0, .int 0, .int 0, .int g, .ref b_d, .ref b_w, .ref b_c, .int 0, .ref b_q, .int 0, .int 0, .int 0, .ref b_s, .int 0])), (b_r, .inl (j_r, 8, .inl (upd (fun _ => 0) (1 : Int32).toNatClampNeg v_7)))] H := hP
  have hD : va_D A [(b_o, .inr (7, [.ref b_m, .ref b_r, .int 0, .int pc, .int tk, .int 0, .int 0, .int 0, .int 7, .int 0, .ref b_l, .int 0, .int 0, .int 0, .int 0, .int 0, .int 0, .int 0, .int 0, .int g, .ref b_d, .ref b_w, .ref b_c, .int 0, .ref b_q, .int 0, .int 0, .int 0, .ref b_s, .int 0])), (b_r, .inl (j_r, 8, .inl (upd (fun _ => 0) (1 : Int32).toNatClampNeg v_7)))] := hD
  have hP9 := hP.sub (ws' := [(b_o, .inr (7, [.ref b_m, .ref b_r, .int 0, .int pc, .int tk, .int 0, .int 0, .int 0, .int 7, .int 0, .ref b_l, .int 0, .int 0, .int 0, .int 0, .int 0, .int 0, .int 0, .int 0, .int g, .ref b_d, .ref b_w, .ref b_c, .int 0, .ref b_q, .int 0, .int 0, .int 0, .ref b_s, .int 0]))]) [0] rfl
  have hD9 := hD.sub (ws' := [(b_o, .inr (7, [.ref b_m, .ref b_r, .int 0, .int pc, .int tk, .int 0, .int 0, .int 0, .int 7, .int 0, .ref b_l, .int 0, .int 0, .int 0, .int 0, .int 0, .int 0, .int 0, .int 0, .int g, .ref b_d, .ref b_w, .ref b_c, .int 0, .ref b_q, .int 0, .int 0, .int 0, .ref b_s, .int 0]))]) [0] (by decide) rfl
  have hK9 := hK.sub (tys' := [(j_r, .int)]) [0] rfl
  exact W.vret hx hb hr (fun t9 ht hW => ⟨⟨(fun k => match k with | 0 => 0 | _ => pc), rfl, trivial, by rw [ht]; exact hP9, va_K.moved hW.alike hK9, hD9⟩, hS.F ht⟩) hS.2.2 dX7_set_86
set_option maxHeartbeats 4000000 in
set_option maxRecDepth 100000 in
theorem r_set2 (l : Launch) (dC : Nat → ClassId) (dI : Nat → Nat → Nat) (b_o : Nat) (b_m : Nat) (b_r : Nat) (b_l : Nat) (b_d : Nat) (b_w : Nat) (b_c : Nat) (b_q : Nat) (b_s : Nat) (j_r : ClassId) (pc : Int32) (tk : Int32) (g : Int32) (th : Int32) (v : Int32) (sz : Nat) : Met l yX7_set (zq yX7_set cX7_set 3 none) ({ frames := 0, cells := 0, slots := 0, locals := 0 }) (va_Pc [.ref b_o, .int 2, .int v] (zc_P (dC, dI) [(b_o, .inr (7, [.ref b_m, .ref b_r, .int 0, .int pc, .int tk, .int 0, .int 0, .int 0, .int 7, .int 0, .ref b_l, .int 0, .int 0, .int 0, .int 0, .int 0, .int 0, .int 0, .int 0, .int g, .ref b_d, .ref b_w, .ref b_c, .int 0, .ref b_q, .int 0, .int 0, .int 0, .ref b_s, .int th])), (b_r, .inl (j_r, 8, .inl (fun _ => 0)))] [(j_r, .int)] sz)) (va_Qv (fun _ => True) (fun (u : Nat → Int32) t9 => zc_B (dC, dI) (va_A [(b_o, .inr (7, [.ref b_m, .ref b_r, .int 0, .int pc, .int tk, .int 0, .int 0, .int 0, .int 7, .int 0, .ref b_l, .int 0, .int 0, .int 0, .int 0, .int 0, .int 0, .int 0, .int 0, .int g, .ref b_d, .ref b_w, .ref b_c, .int 0, .ref b_q, .int 0, .int 0, .int 0, .ref b_s, .int th])), (b_r, .inl (j_r, 8, .inl (fun _ => 0)))] sz) [(b_o, .inr (7, [.ref b_m, .ref b_r, .int (u 0), .int (u 1), .int tk, .int 0, .int 0, .int 0, .int 7, .int 0, .ref b_l, .int 0, .int 0, .int 0, .int 0, .int 0, .int 0, .int 0, .int 0, .int g, .ref b_d, .ref b_w, .ref b_c, .int 0, .ref b_q, .int 0, .int 0, .int 0, .ref b_s, .int 0]))] [(j_r, .int)] t9) (va_A [(b_o, .inr (7, [.ref b_m, .ref b_r, .int 0, .int pc, .int tk, .int 0, .int 0, .int 0, .int 7, .int 0, .ref b_l, .int 0, .int 0, .int 0, .int 0, .int 0, .int 0, .int 0, .int 0, .int g, .ref b_d, .ref b_w, .ref b_c, .int 0, .ref b_q, .int 0, .int 0, .int 0, .ref b_s, .int th])), (b_r, .inl (j_r, 8, .inl (fun _ => 0)))] sz)) 0 0 (va_A [(b_o, .inr (7, [.ref b_m, .ref b_r, .int 0, .int pc, .int tk, .int 0, .int 0, .int 0, .int 7, .int 0, .ref b_l, .int 0, .int 0, .int 0, .int 0, .int 0, .int 0, .int 0, .int 0, .int g, .ref b_d, .ref b_w, .ref b_c, .int 0, .ref b_q, .int 0, .int 0, .int 0, .ref b_s, .int th])), (b_r, .inl (j_r, 8, .inl (fun _ => 0)))] sz) := by
  refine Met.ofW (cc := cX7_set) (maxL := 3) (ret := none) (by decide) rfl ?_
  intro p e s m args below meth c s₁ B hml hv
  obtain ⟨rfl, hsz, hP, hK, hD0, hN⟩ := hv
  have hx := B.exec
  have hb := B.bytes
  have hr := B.returns
  have hts : ∀ w ∈ zw, w.before _ s = true := fun w h => atoms_spec (ws := (zq yX7_set cX7_set 3 none)) B.pre w (List.mem_cons_of_mem _ h)
  have hown : s.vm.findClass RX7 = some m.cls := findClass_of_methodNamed B.named
  have hlocks := B.notSynchronized
  subst hsz
  have hD := hD0.self (sz := s.heap.size)
  generalize hAe : va_A [(b_o, .inr (7, [.ref b_m, .ref b_r, .int 0, .int pc, .int tk, .int 0, .int 0, .int 0, .int 7, .int 0, .ref b_l, .int 0, .int 0, .int 0, .int 0, .int 0, .int 0, .int 0, .int 0, .int g, .ref b_d, .ref b_w, .ref b_c, .int 0, .ref b_q, .int 0, .int 0, .int 0, .ref b_s, .int th])), (b_r, .inl (j_r, 8, .inl (fun _ => 0)))] s.heap.size = A at hD ⊢
  have hA : ∀ q : Nat, s.heap.size ≤ q → A q := fun q h => by rw [← hAe]; exact Or.inr h
  have hS : va_S A s.heap s.heap [] := va_S.rf
  have hP : va_P (dC, dI) vwCl [(b_o, .inr (7, [.ref b_m, .ref b_r, .int 0, .int pc, .int tk, .int 0, .int 0, .int 0, .int 7, .int 0, .ref b_l, .int 0, .int 0, .int 0, .int 0, .int 0, .int 0, .int 0, .int 0, .int g, .ref b_d, .ref b_w, .ref b_c, .int 0, .ref b_q, .int 0, .int 0, .int 0, .ref b_s, .int th])), (b_r, .inl (j_r, 8, .inl (fun _ => 0)))] s.heap := hP
  have hl := lv_entry ([.ref b_o, .int 2, .int v]) (n := 3) (Nat.le_of_ble_eq_true rfl)
  rw [lg_entry_eq]
  generalize (lg_sl ([.ref b_o, .int 2, .int v]) ++ List.replicate (3 - (lg_sl ([.ref b_o, .int 2, .int v])).length) Slot.unset).toArray = ls at hl ⊢
  have hl : lv_has ls 3 [(0, .ref b_o), (1, .int 2), (2, .int v)] := hl
  refine lv_aload_n hx hb dX7_set_0 rfl (lv_at hl 0 rfl) ?_
  refine lv_iload_n hx hb dX7_set_1 rfl (lv_at hl 1 rfl) ?_
  refine lv_if_lt (tgt := 11) hx hb dX7_set_2 (by decide) (fun c_1 => absurd c_1 (by decide)) (fun c_1 => ?_)
  refine lv_iload_n hx hb dX7_set_5 rfl (lv_at hl 1 rfl) ?_
  refine lv_bipush (v := 9) hx hb dX7_set_6 (by decide) ?_
  refine lv_icmp_le (tgt := 15) hx hb dX7_set_8 (by decide) (fun c_2 => ?_) (fun c_2 => absurd c_2 (by decide))
  refine lv_iconst (v := 0) hx hb dX7_set_15 (by decide) ?_
  refine va_put (D := (dC, dI)) (ci := 7) (v := .int 0) (ty := .int) (C := RX7) (T := TX7) (N := 30) hx hb hts zx_7 tyX7 tyX7_ok nmX7 hown hK hP hD hS 0 rfl rfl 29 (by decide) (hts (.fieldLink RX7 39 "KeyboardKitModel" "thrown" "I") zw_749) (fun _ h9 => h9) rfl (by decide +kernel) rfl rfl (Nat.le_of_ble_eq_true rfl) dX7_set_16 (fun H locs hP hD hS => ?_)
  have hP : va_P (dC, dI) vwCl [(b_o, .inr (7, [.ref b_m, .ref b_r, .int 0, .int pc, .int tk, .int 0, .int 0, .int 0, .int 7, .int 0, .ref b_l, .int 0, .int 0, .int 0, .int 0, .int 0, .int 0, .int 0, .int 0, .int g, .ref b_d, .ref b_w, .ref b_c, .int 0, .ref b_q, .int 0, .int 0, .int 0, .ref b_s, .int 0])), (b_r, .inl (j_r, 8, .inl (fun _ => 0)))] H := hP
  have hD : va_D A [(b_o, .inr (7, [.ref b_m, .ref b_r, .int 0, .int pc, .int tk, .int 0, .int 0, .int 0, .int 7, .int 0, .ref b_l, .int 0, .int 0, .int 0, .int 0, .int 0, .int 0, .int 0, .int 0, .int g, .ref b_d, .ref b_w, .ref b_c, .int 0, .ref b_q, .int 0, .int 0, .int 0, .ref b_s, .int 0])), (b_r, .inl (j_r, 8, .inl (fun _ => 0)))] := hD
  refine lv_aload_n hx hb dX7_set_19 rfl (lv_at hl 0 rfl) ?_
  refine va_get (D := (dC, dI)) (ci := 7) (v := .int 0) (C := RX7) (T := TX7) (N := 30) hx hb hts zx_7 hown hK hP 0 rfl rfl 29 (by decide) (hts (.fieldLink RX7 39 "KeyboardKitModel" "thrown" "I") zw_749) (fun _ h9 => h9) rfl dX7_set_20 ?_
  refine lv_if_eq (tgt := 27) hx hb dX7_set_23 (by decide) (fun c_3 => ?_) (fun c_3 => absurd c_3 (by decide))
  refine lv_iload_n hx hb dX7_set_27 rfl (lv_at hl 1 rfl) ?_
  refine lv_bipush (v := 8) hx hb dX7_set_28 (by decide) ?_
  refine lv_icmp_ne (tgt := 44) hx hb dX7_set_30 (by decide) (fun c_4 => ?_) (fun c_4 => absurd c_4 (by decide))
  refine lv_iload_n hx hb dX7_set_44 rfl (lv_at hl 1 rfl) ?_
  refine lv_bipush (v := 9) hx hb dX7_set_45 (by decide) ?_
  refine lv_icmp_ne (tgt := 61) hx hb dX7_set_47 (by decide) (fun c_5 => ?_) (fun c_5 => absurd c_5 (by decide))
  refine lv_aload_n hx hb dX7_set_61 rfl (lv_at hl 0 rfl) ?_
  refine va_get (D := (dC, dI)) (ci := 7) (v := .ref b_r) (C := RX7) (T := TX7) (N := 30) hx hb hts zx_7 hown hK hP 0 rfl rfl 1 (by decide) (hts (.fieldLink RX7 13 "KeyboardKitModel" "register" "[I") zw_721) (fun _ h9 => h9) rfl dX7_set_62 ?_
  refine lv_iload_n hx hb dX7_set_65 rfl (lv_at hl 1 rfl) ?_
  refine lv_iload_n hx hb dX7_set_66 rfl (lv_at hl 1 rfl) ?_
  refine lv_bipush (v := 6) hx hb dX7_set_67 (by decide) ?_
  refine lv_icmp_ne (tgt := 80) hx hb dX7_set_69 (by decide) (fun c_6 => ?_) (fun c_6 => absurd c_6 (by decide))
  refine lv_iload_n hx hb dX7_set_80 rfl (lv_at hl 2 rfl) ?_
  refine lv_sipush (v := 255) hx hb dX7_set_81 (by decide) ?_
  refine lv_iand hx hb dX7_set_84 ?_
  refine lv_topi (fun v_7 ev_7 => ?_)
  refine va_iast hx hb hK hP hD hS 1 0 rfl rfl (show ¬ ((2 : Int32) < 0 ∨ 8 ≤ (2 : Int32).toNatClampNeg) by decide) dX7_set_85 (fun H locs hP hD hS => ?_)
  have hP : va_P (dC, dI) vwCl [(b_o, .inr (7, [.ref b_m, .ref b_r, .int 0, .int pc, .int tk, .int 0, .int 0, .int 0, .int 7, .int 0, .ref b_l, .int 0, .int 0, .int 0, .int 0, .int 0, .int 0, .int 0, .int 0, .int g, .ref b_d, .ref b_w, .ref b_c, .int 0, .ref b_q, .int 0, .int 0, .int 0, .ref b_s, .int 0])), (b_r, .inl (j_r, 8, .inl (upd (fun _ => 0) (2 : Int32).toNatClampNeg v_7)))] H := hP
  have hD : va_D A [(b_o, .inr (7, [.ref b_m, .ref b_r, .int 0, .int pc, .int tk, .int 0, .int 0, .int 0, .int 7, .int 0, .ref b_l, .int 0, .int 0, .int 0, .int 0, .int 0, .int 0, .int 0, .int 0, .int g, .ref b_d, .ref b_w, .ref b_c, .int 0, .ref b_q, .int 0, .int 0, .int 0, .ref b_s, .int 0])), (b_r, .inl (j_r, 8, .inl (upd (fun _ => 0) (2 : Int32).toNatClampNeg v_7)))] := hD
  have hP9 := hP.sub (ws' := [(b_o, .inr (7, [.ref b_m, .ref b_r, .int 0, .int pc, .int tk, .int 0, .int 0, .int 0, .int 7, .int 0, .ref b_l, .int 0, .int 0, .int 0, .int 0, .int 0, .int 0, .int 0, .int 0, .int g, .ref b_d, .ref b_w, .ref b_c, .int 0, .ref b_q, .int 0, .int 0, .int 0, .ref b_s, .int 0]))]) [0] rfl
  have hD9 := hD.sub (ws' := [(b_o, .inr (7, [.ref b_m, .ref b_r, .int 0, .int pc, .int tk, .int 0, .int 0, .int 0, .int 7, .int 0, .ref b_l, .int 0, .int 0, .int 0, .int 0, .int 0, .int 0, .int 0, .int 0, .int g, .ref b_d, .ref b_w, .ref b_c, .int 0, .ref b_q, .int 0, .int 0, .int 0, .ref b_s, .int 0]))]) [0] (by decide) rfl
  have hK9 := hK.sub (tys' := [(j_r, .int)]) [0] rfl
  exact W.vret hx hb hr (fun t9 ht hW => ⟨⟨(fun k => match k with | 0 => 0 | _ => pc), rfl, trivial, by rw [ht]; exact hP9, va_K.moved hW.alike hK9, hD9⟩, hS.F ht⟩) hS.2.2 dX7_set_86
set_option maxHeartbeats 4000000 in
set_option maxRecDepth 100000 in
theorem r_set3 (l : Launch) (dC : Nat → ClassId) (dI : Nat → Nat → Nat) (b_o : Nat) (b_m : Nat) (b_r : Nat) (b_l : Nat) (b_d : Nat) (b_w : Nat) (b_c : Nat) (b_q : Nat) (b_s : Nat) (j_r : ClassId) (pc : Int32) (tk : Int32) (g : Int32) (th : Int32) (v : Int32) (sz : Nat) : Met l yX7_set (zq yX7_set cX7_set 3 none) ({ frames := 0, cells := 0, slots := 0, locals := 0 }) (va_Pc [.ref b_o, .int 3, .int v] (zc_P (dC, dI) [(b_o, .inr (7, [.ref b_m, .ref b_r, .int 0, .int pc, .int tk, .int 0, .int 0, .int 0, .int 7, .int 0, .ref b_l, .int 0, .int 0, .int 0, .int 0, .int 0, .int 0, .int 0, .int 0, .int g, .ref b_d, .ref b_w, .ref b_c, .int 0, .ref b_q, .int 0, .int 0, .int 0, .ref b_s, .int th])), (b_r, .inl (j_r, 8, .inl (fun _ => 0)))] [(j_r, .int)] sz)) (va_Qv (fun _ => True) (fun (u : Nat → Int32) t9 => zc_B (dC, dI) (va_A [(b_o, .inr (7, [.ref b_m, .ref b_r, .int 0, .int pc, .int tk, .int 0, .int 0, .int 0, .int 7, .int 0, .ref b_l, .int 0, .int 0, .int 0, .int 0, .int 0, .int 0, .int 0, .int 0, .int g, .ref b_d, .ref b_w, .ref b_c, .int 0, .ref b_q, .int 0, .int 0, .int 0, .ref b_s, .int th])), (b_r, .inl (j_r, 8, .inl (fun _ => 0)))] sz) [(b_o, .inr (7, [.ref b_m, .ref b_r, .int (u 0), .int (u 1), .int tk, .int 0, .int 0, .int 0, .int 7, .int 0, .ref b_l, .int 0, .int 0, .int 0, .int 0, .int 0, .int 0, .int 0, .int 0, .int g, .ref b_d, .ref b_w, .ref b_c, .int 0, .ref b_q, .int 0, .int 0, .int 0, .ref b_s, .int 0]))] [(j_r, .int)] t9) (va_A [(b_o, .inr (7, [.ref b_m, .ref b_r, .int 0, .int pc, .int tk, .int 0, .int 0, .int 0, .int 7, .int 0, .ref b_l, .int 0, .int 0, .int 0, .int 0, .int 0, .int 0, .int 0, .int 0, .int g, .ref b_d, .ref b_w, .ref b_c, .int 0, .ref b_q, .int 0, .int 0, .int 0, .ref b_s, .int th])), (b_r, .inl (j_r, 8, .inl (fun _ => 0)))] sz)) 0 0 (va_A [(b_o, .inr (7, [.ref b_m, .ref b_r, .int 0, .int pc, .int tk, .int 0, .int 0, .int 0, .int 7, .int 0, .ref b_l, .int 0, .int 0, .int 0, .int 0, .int 0, .int 0, .int 0, .int 0, .int g, .ref b_d, .ref b_w, .ref b_c, .int 0, .ref b_q, .int 0, .int 0, .int 0, .ref b_s, .int th])), (b_r, .inl (j_r, 8, .inl (fun _ => 0)))] sz) := by
  refine Met.ofW (cc := cX7_set) (maxL := 3) (ret := none) (by decide) rfl ?_
  intro p e s m args below meth c s₁ B hml hv
  obtain ⟨rfl, hsz, hP, hK, hD0, hN⟩ := hv
  have hx := B.exec
  have hb := B.bytes
  have hr := B.returns
  have hts : ∀ w ∈ zw, w.before _ s = true := fun w h => atoms_spec (ws := (zq yX7_set cX7_set 3 none)) B.pre w (List.mem_cons_of_mem _ h)
  have hown : s.vm.findClass RX7 = some m.cls := findClass_of_methodNamed B.named
  have hlocks := B.notSynchronized
  subst hsz
  have hD := hD0.self (sz := s.heap.size)
  generalize hAe : va_A [(b_o, .inr (7, [.ref b_m, .ref b_r, .int 0, .int pc, .int tk, .int 0, .int 0, .int 0, .int 7, .int 0, .ref b_l, .int 0, .int 0, .int 0, .int 0, .int 0, .int 0, .int 0, .int 0, .int g, .ref b_d, .ref b_w, .ref b_c, .int 0, .ref b_q, .int 0, .int 0, .int 0, .ref b_s, .int th])), (b_r, .inl (j_r, 8, .inl (fun _ => 0)))] s.heap.size = A at hD ⊢
  have hA : ∀ q : Nat, s.heap.size ≤ q → A q := fun q h => by rw [← hAe]; exact Or.inr h
  have hS : va_S A s.heap s.heap [] := va_S.rf
  have hP : va_P (dC, dI) vwCl [(b_o, .inr (7, [.ref b_m, .ref b_r, .int 0, .int pc, .int tk, .int 0, .int 0, .int 0, .int 7, .int 0, .ref b_l, .int 0, .int 0, .int 0, .int 0, .int 0, .int 0, .int 0, .int 0, .int g, .ref b_d, .ref b_w, .ref b_c, .int 0, .ref b_q, .int 0, .int 0, .int 0, .ref b_s, .int th])), (b_r, .inl (j_r, 8, .inl (fun _ => 0)))] s.heap := hP
  have hl := lv_entry ([.ref b_o, .int 3, .int v]) (n := 3) (Nat.le_of_ble_eq_true rfl)
  rw [lg_entry_eq]
  generalize (lg_sl ([.ref b_o, .int 3, .int v]) ++ List.replicate (3 - (lg_sl ([.ref b_o, .int 3, .int v])).length) Slot.unset).toArray = ls at hl ⊢
  have hl : lv_has ls 3 [(0, .ref b_o), (1, .int 3), (2, .int v)] := hl
  refine lv_aload_n hx hb dX7_set_0 rfl (lv_at hl 0 rfl) ?_
  refine lv_iload_n hx hb dX7_set_1 rfl (lv_at hl 1 rfl) ?_
  refine lv_if_lt (tgt := 11) hx hb dX7_set_2 (by decide) (fun c_1 => absurd c_1 (by decide)) (fun c_1 => ?_)
  refine lv_iload_n hx hb dX7_set_5 rfl (lv_at hl 1 rfl) ?_
  refine lv_bipush (v := 9) hx hb dX7_set_6 (by decide) ?_
  refine lv_icmp_le (tgt := 15) hx hb dX7_set_8 (by decide) (fun c_2 => ?_) (fun c_2 => absurd c_2 (by decide))
  refine lv_iconst (v := 0) hx hb dX7_set_15 (by decide) ?_
  refine va_put (D := (dC, dI)) (ci := 7) (v := .int 0) (ty := .int) (C := RX7) (T := TX7) (N := 30) hx hb hts zx_7 tyX7 tyX7_ok nmX7 hown hK hP hD hS 0 rfl rfl 29 (by decide) (hts (.fieldLink RX7 39 "KeyboardKitModel" "thrown" "I") zw_749) (fun _ h9 => h9) rfl (by decide +kernel) rfl rfl (Nat.le_of_ble_eq_true rfl) dX7_set_16 (fun H locs hP hD hS => ?_)
  have hP : va_P (dC, dI) vwCl [(b_o, .inr (7, [.ref b_m, .ref b_r, .int 0, .int pc, .int tk, .int 0, .int 0, .int 0, .int 7, .int 0, .ref b_l, .int 0, .int 0, .int 0, .int 0, .int 0, .int 0, .int 0, .int 0, .int g, .ref b_d, .ref b_w, .ref b_c, .int 0, .ref b_q, .int 0, .int 0, .int 0, .ref b_s, .int 0])), (b_r, .inl (j_r, 8, .inl (fun _ => 0)))] H := hP
  have hD : va_D A [(b_o, .inr (7, [.ref b_m, .ref b_r, .int 0, .int pc, .int tk, .int 0, .int 0, .int 0, .int 7, .int 0, .ref b_l, .int 0, .int 0, .int 0, .int 0, .int 0, .int 0, .int 0, .int 0, .int g, .ref b_d, .ref b_w, .ref b_c, .int 0, .ref b_q, .int 0, .int 0, .int 0, .ref b_s, .int 0])), (b_r, .inl (j_r, 8, .inl (fun _ => 0)))] := hD
  refine lv_aload_n hx hb dX7_set_19 rfl (lv_at hl 0 rfl) ?_
  refine va_get (D := (dC, dI)) (ci := 7) (v := .int 0) (C := RX7) (T := TX7) (N := 30) hx hb hts zx_7 hown hK hP 0 rfl rfl 29 (by decide) (hts (.fieldLink RX7 39 "KeyboardKitModel" "thrown" "I") zw_749) (fun _ h9 => h9) rfl dX7_set_20 ?_
  refine lv_if_eq (tgt := 27) hx hb dX7_set_23 (by decide) (fun c_3 => ?_) (fun c_3 => absurd c_3 (by decide))
  refine lv_iload_n hx hb dX7_set_27 rfl (lv_at hl 1 rfl) ?_
  refine lv_bipush (v := 8) hx hb dX7_set_28 (by decide) ?_
  refine lv_icmp_ne (tgt := 44) hx hb dX7_set_30 (by decide) (fun c_4 => ?_) (fun c_4 => absurd c_4 (by decide))
  refine lv_iload_n hx hb dX7_set_44 rfl (lv_at hl 1 rfl) ?_
  refine lv_bipush (v := 9) hx hb dX7_set_45 (by decide) ?_
  refine lv_icmp_ne (tgt := 61) hx hb dX7_set_47 (by decide) (fun c_5 => ?_) (fun c_5 => absurd c_5 (by decide))
  refine lv_aload_n hx hb dX7_set_61 rfl (lv_at hl 0 rfl) ?_
  refine va_get (D := (dC, dI)) (ci := 7) (v := .ref b_r) (C := RX7) (T := TX7) (N := 30) hx hb hts zx_7 hown hK hP 0 rfl rfl 1 (by decide) (hts (.fieldLink RX7 13 "KeyboardKitModel" "register" "[I") zw_721) (fun _ h9 => h9) rfl dX7_set_62 ?_
  refine lv_iload_n hx hb dX7_set_65 rfl (lv_at hl 1 rfl) ?_
  refine lv_iload_n hx hb dX7_set_66 rfl (lv_at hl 1 rfl) ?_
  refine lv_bipush (v := 6) hx hb dX7_set_67 (by decide) ?_
  refine lv_icmp_ne (tgt := 80) hx hb dX7_set_69 (by decide) (fun c_6 => ?_) (fun c_6 => absurd c_6 (by decide))
  refine lv_iload_n hx hb dX7_set_80 rfl (lv_at hl 2 rfl) ?_
  refine lv_sipush (v := 255) hx hb dX7_set_81 (by decide) ?_
  refine lv_iand hx hb dX7_set_84 ?_
  refine lv_topi (fun v_7 ev_7 => ?_)
  refine va_iast hx hb hK hP hD hS 1 0 rfl rfl (show ¬ ((3 : Int32) < 0 ∨ 8 ≤ (3 : Int32).toNatClampNeg) by decide) dX7_set_85 (fun H locs hP hD hS => ?_)
  have hP : va_P (dC, dI) vwCl [(b_o, .inr (7, [.ref b_m, .ref b_r, .int 0, .int pc, .int tk, .int 0, .int 0, .int 0, .int 7, .int 0, .ref b_l, .int 0, .int 0, .int 0, .int 0, .int 0, .int 0, .int 0, .int 0, .int g, .ref b_d, .ref b_w, .ref b_c, .int 0, .ref b_q, .int 0, .int 0, .int 0, .ref b_s, .int 0])), (b_r, .inl (j_r, 8, .inl (upd (fun _ => 0) (3 : Int32).toNatClampNeg v_7)))] H := hP
  have hD : va_D A [(b_o, .inr (7, [.ref b_m, .ref b_r, .int 0, .int pc, .int tk, .int 0, .int 0, .int 0, .int 7, .int 0, .ref b_l, .int 0, .int 0, .int 0, .int 0, .int 0, .int 0, .int 0, .int 0, .int g, .ref b_d, .ref b_w, .ref b_c, .int 0, .ref b_q, .int 0, .int 0, .int 0, .ref b_s, .int 0])), (b_r, .inl (j_r, 8, .inl (upd (fun _ => 0) (3 : Int32).toNatClampNeg v_7)))] := hD
  have hP9 := hP.sub (ws' := [(b_o, .inr (7, [.ref b_m, .ref b_r, .int 0, .int pc, .int tk, .int 0, .int 0, .int 0, .int 7, .int 0, .ref b_l, .int 0, .int 0, .int 0, .int 0, .int 0, .int 0, .int 0, .int 0, .int g, .ref b_d, .ref b_w, .ref b_c, .int 0, .ref b_q, .int 0, .int 0, .int 0, .ref b_s, .int 0]))]) [0] rfl
  have hD9 := hD.sub (ws' := [(b_o, .inr (7, [.ref b_m, .ref b_r, .int 0, .int pc, .int tk, .int 0, .int 0, .int 0, .int 7, .int 0, .ref b_l, .int 0, .int 0, .int 0, .int 0, .int 0, .int 0, .int 0, .int 0, .int g, .ref b_d, .ref b_w, .ref b_c, .int 0, .ref b_q, .int 0, .int 0, .int 0, .ref b_s, .int 0]))]) [0] (by decide) rfl
  have hK9 := hK.sub (tys' := [(j_r, .int)]) [0] rfl
  exact W.vret hx hb hr (fun t9 ht hW => ⟨⟨(fun k => match k with | 0 => 0 | _ => pc), rfl, trivial, by rw [ht]; exact hP9, va_K.moved hW.alike hK9, hD9⟩, hS.F ht⟩) hS.2.2 dX7_set_86
set_option maxHeartbeats 4000000 in
set_option maxRecDepth 100000 in
theorem r_set4 (l : Launch) (dC : Nat → ClassId) (dI : Nat → Nat → Nat) (b_o : Nat) (b_m : Nat) (b_r : Nat) (b_l : Nat) (b_d : Nat) (b_w : Nat) (b_c : Nat) (b_q : Nat) (b_s : Nat) (j_r : ClassId) (pc : Int32) (tk : Int32) (g : Int32) (th : Int32) (v : Int32) (sz : Nat) : Met l yX7_set (zq yX7_set cX7_set 3 none) ({ frames := 0, cells := 0, slots := 0, locals := 0 }) (va_Pc [.ref b_o, .int 4, .int v] (zc_P (dC, dI) [(b_o, .inr (7, [.ref b_m, .ref b_r, .int 0, .int pc, .int tk, .int 0, .int 0, .int 0, .int 7, .int 0, .ref b_l, .int 0, .int 0, .int 0, .int 0, .int 0, .int 0, .int 0, .int 0, .int g, .ref b_d, .ref b_w, .ref b_c, .int 0, .ref b_q, .int 0, .int 0, .int 0, .ref b_s, .int th])), (b_r, .inl (j_r, 8, .inl (fun _ => 0)))] [(j_r, .int)] sz)) (va_Qv (fun _ => True) (fun (u : Nat → Int32) t9 => zc_B (dC, dI) (va_A [(b_o, .inr (7, [.ref b_m, .ref b_r, .int 0, .int pc, .int tk, .int 0, .int 0, .int 0, .int 7, .int 0, .ref b_l, .int 0, .int 0, .int 0, .int 0, .int 0, .int 0, .int 0, .int 0, .int g, .ref b_d, .ref b_w, .ref b_c, .int 0, .ref b_q, .int 0, .int 0, .int 0, .ref b_s, .int th])), (b_r, .inl (j_r, 8, .inl (fun _ => 0)))] sz) [(b_o, .inr (7, [.ref b_m, .ref b_r, .int (u 0), .int (u 1), .int tk, .int 0, .int 0, .int 0, .int 7, .int 0, .ref b_l, .int 0, .int 0, .int 0, .int 0, .int 0, .int 0, .int 0, .int 0, .int g, .ref b_d, .ref b_w, .ref b_c, .int 0, .ref b_q, .int 0, .int 0, .int 0, .ref b_s, .int 0]))] [(j_r, .int)] t9) (va_A [(b_o, .inr (7, [.ref b_m, .ref b_r, .int 0, .int pc, .int tk, .int 0, .int 0, .int 0, .int 7, .int 0, .ref b_l, .int 0, .int 0, .int 0, .int 0, .int 0, .int 0, .int 0, .int 0, .int g, .ref b_d, .ref b_w, .ref b_c, .int 0, .ref b_q, .int 0, .int 0, .int 0, .ref b_s, .int th])), (b_r, .inl (j_r, 8, .inl (fun _ => 0)))] sz)) 0 0 (va_A [(b_o, .inr (7, [.ref b_m, .ref b_r, .int 0, .int pc, .int tk, .int 0, .int 0, .int 0, .int 7, .int 0, .ref b_l, .int 0, .int 0, .int 0, .int 0, .int 0, .int 0, .int 0, .int 0, .int g, .ref b_d, .ref b_w, .ref b_c, .int 0, .ref b_q, .int 0, .int 0, .int 0, .ref b_s, .int th])), (b_r, .inl (j_r, 8, .inl (fun _ => 0)))] sz) := by
  refine Met.ofW (cc := cX7_set) (maxL := 3) (ret := none) (by decide) rfl ?_
  intro p e s m args below meth c s₁ B hml hv
  obtain ⟨rfl, hsz, hP, hK, hD0, hN⟩ := hv
  have hx := B.exec
  have hb := B.bytes
  have hr := B.returns
  have hts : ∀ w ∈ zw, w.before _ s = true := fun w h => atoms_spec (ws := (zq yX7_set cX7_set 3 none)) B.pre w (List.mem_cons_of_mem _ h)
  have hown : s.vm.findClass RX7 = some m.cls := findClass_of_methodNamed B.named
  have hlocks := B.notSynchronized
  subst hsz
  have hD := hD0.self (sz := s.heap.size)
  generalize hAe : va_A [(b_o, .inr (7, [.ref b_m, .ref b_r, .int 0, .int pc, .int tk, .int 0, .int 0, .int 0, .int 7, .int 0, .ref b_l, .int 0, .int 0, .int 0, .int 0, .int 0, .int 0, .int 0, .int 0, .int g, .ref b_d, .ref b_w, .ref b_c, .int 0, .ref b_q, .int 0, .int 0, .int 0, .ref b_s, .int th])), (b_r, .inl (j_r, 8, .inl (fun _ => 0)))] s.heap.size = A at hD ⊢
  have hA : ∀ q : Nat, s.heap.size ≤ q → A q := fun q h => by rw [← hAe]; exact Or.inr h
  have hS : va_S A s.heap s.heap [] := va_S.rf
  have hP : va_P (dC, dI) vwCl [(b_o, .inr (7, [.ref b_m, .ref b_r, .int 0, .int pc, .int tk, .int 0, .int 0, .int 0, .int 7, .int 0, .ref b_l, .int 0, .int 0, .int 0, .int 0, .int 0, .int 0, .int 0, .int 0, .int g, .ref b_d, .ref b_w, .ref b_c, .int 0, .ref b_q, .int 0, .int 0, .int 0, .ref b_s, .int th])), (b_r, .inl (j_r, 8, .inl (fun _ => 0)))] s.heap := hP
  have hl := lv_entry ([.ref b_o, .int 4, .int v]) (n := 3) (Nat.le_of_ble_eq_true rfl)
  rw [lg_entry_eq]
  generalize (lg_sl ([.ref b_o, .int 4, .int v]) ++ List.replicate (3 - (lg_sl ([.ref b_o, .int 4, .int v])).length) Slot.unset).toArray = ls at hl ⊢
  have hl : lv_has ls 3 [(0, .ref b_o), (1, .int 4), (2, .int v)] := hl
  refine lv_aload_n hx hb dX7_set_0 rfl (lv_at hl 0 rfl) ?_
  refine lv_iload_n hx hb dX7_set_1 rfl (lv_at hl 1 rfl) ?_
  refine lv_if_lt (tgt := 11) hx hb dX7_set_2 (by decide) (fun c_1 => absurd c_1 (by decide)) (fun c_1 => ?_)
  refine lv_iload_n hx hb dX7_set_5 rfl (lv_at hl 1 rfl) ?_
  refine lv_bipush (v := 9) hx hb dX7_set_6 (by decide) ?_
  refine lv_icmp_le (tgt := 15) hx hb dX7_set_8 (by decide) (fun c_2 => ?_) (fun c_2 => absurd c_2 (by decide))
  refine lv_iconst (v := 0) hx hb dX7_set_15 (by decide) ?_
  refine va_put (D := (dC, dI)) (ci := 7) (v := .int 0) (ty := .int) (C := RX7) (T := TX7) (N := 30) hx hb hts zx_7 tyX7 tyX7_ok nmX7 hown hK hP hD hS 0 rfl rfl 29 (by decide) (hts (.fieldLink RX7 39 "KeyboardKitModel" "thrown" "I") zw_749) (fun _ h9 => h9) rfl (by decide +kernel) rfl rfl (Nat.le_of_ble_eq_true rfl) dX7_set_16 (fun H locs hP hD hS => ?_)
  have hP : va_P (dC, dI) vwCl [(b_o, .inr (7, [.ref b_m, .ref b_r, .int 0, .int pc, .int tk, .int 0, .int 0, .int 0, .int 7, .int 0, .ref b_l, .int 0, .int 0, .int 0, .int 0, .int 0, .int 0, .int 0, .int 0, .int g, .ref b_d, .ref b_w, .ref b_c, .int 0, .ref b_q, .int 0, .int 0, .int 0, .ref b_s, .int 0])), (b_r, .inl (j_r, 8, .inl (fun _ => 0)))] H := hP
  have hD : va_D A [(b_o, .inr (7, [.ref b_m, .ref b_r, .int 0, .int pc, .int tk, .int 0, .int 0, .int 0, .int 7, .int 0, .ref b_l, .int 0, .int 0, .int 0, .int 0, .int 0, .int 0, .int 0, .int 0, .int g, .ref b_d, .ref b_w, .ref b_c, .int 0, .ref b_q, .int 0, .int 0, .int 0, .ref b_s, .int 0])), (b_r, .inl (j_r, 8, .inl (fun _ => 0)))] := hD
  refine lv_aload_n hx hb dX7_set_19 rfl (lv_at hl 0 rfl) ?_
  refine va_get (D := (dC, dI)) (ci := 7) (v := .int 0) (C := RX7) (T := TX7) (N := 30) hx hb hts zx_7 hown hK hP 0 rfl rfl 29 (by decide) (hts (.fieldLink RX7 39 "KeyboardKitModel" "thrown" "I") zw_749) (fun _ h9 => h9) rfl dX7_set_20 ?_
  refine lv_if_eq (tgt := 27) hx hb dX7_set_23 (by decide) (fun c_3 => ?_) (fun c_3 => absurd c_3 (by decide))
  refine lv_iload_n hx hb dX7_set_27 rfl (lv_at hl 1 rfl) ?_
  refine lv_bipush (v := 8) hx hb dX7_set_28 (by decide) ?_
  refine lv_icmp_ne (tgt := 44) hx hb dX7_set_30 (by decide) (fun c_4 => ?_) (fun c_4 => absurd c_4 (by decide))
  refine lv_iload_n hx hb dX7_set_44 rfl (lv_at hl 1 rfl) ?_
  refine lv_bipush (v := 9) hx hb dX7_set_45 (by decide) ?_
  refine lv_icmp_ne (tgt := 61) hx hb dX7_set_47 (by decide) (fun c_5 => ?_) (fun c_5 => absurd c_5 (by decide))
  refine lv_aload_n hx hb dX7_set_61 rfl (lv_at hl 0 rfl) ?_
  refine va_get (D := (dC, dI)) (ci := 7) (v := .ref b_r) (C := RX7) (T := TX7) (N := 30) hx hb hts zx_7 hown hK hP 0 rfl rfl 1 (by decide) (hts (.fieldLink RX7 13 "KeyboardKitModel" "register" "[I") zw_721) (fun _ h9 => h9) rfl dX7_set_62 ?_
  refine lv_iload_n hx hb dX7_set_65 rfl (lv_at hl 1 rfl) ?_
  refine lv_iload_n hx hb dX7_set_66 rfl (lv_at hl 1 rfl) ?_
  refine lv_bipush (v := 6) hx hb dX7_set_67 (by decide) ?_
  refine lv_icmp_ne (tgt := 80) hx hb dX7_set_69 (by decide) (fun c_6 => ?_) (fun c_6 => absurd c_6 (by decide))
  refine lv_iload_n hx hb dX7_set_80 rfl (lv_at hl 2 rfl) ?_
  refine lv_sipush (v := 255) hx hb dX7_set_81 (by decide) ?_
  refine lv_iand hx hb dX7_set_84 ?_
  refine lv_topi (fun v_7 ev_7 => ?_)
  refine va_iast hx hb hK hP hD hS 1 0 rfl rfl (show ¬ ((4 : Int32) < 0 ∨ 8 ≤ (4 : Int32).toNatClampNeg) by decide) dX7_set_85 (fun H locs hP hD hS => ?_)
  have hP : va_P (dC, dI) vwCl [(b_o, .inr (7, [.ref b_m, .ref b_r, .int 0, .int pc, .int tk, .int 0, .int 0, .int 0, .int 7, .int 0, .ref b_l, .int 0, .int 0, .int 0, .int 0, .int 0, .int 0, .int 0, .int 0, .int g, .ref b_d, .ref b_w, .ref b_c, .int 0, .ref b_q, .int 0, .int 0, .int 0, .ref b_s, .int 0])), (b_r, .inl (j_r, 8, .inl (upd (fun _ => 0) (4 : Int32).toNatClampNeg v_7)))] H := hP
  have hD : va_D A [(b_o, .inr (7, [.ref b_m, .ref b_r, .int 0, .int pc, .int tk, .int 0, .int 0, .int 0, .int 7, .int 0, .ref b_l, .int 0, .int 0, .int 0, .int 0, .int 0, .int 0, .int 0, .int 0, .int g, .ref b_d, .ref b_w, .ref b_c, .int 0, .ref b_q, .int 0, .int 0, .int 0, .ref b_s, .int 0])), (b_r, .inl (j_r, 8, .inl (upd (fun _ => 0) (4 : Int32).toNatClampNeg v_7)))] := hD
  have hP9 := hP.sub (ws' := [(b_o, .inr (7, [.ref b_m, .ref b_r, .int 0, .int pc, .int tk, .int 0, .int 0, .int 0, .int 7, .int 0, .ref b_l, .int 0, .int 0, .int 0, .int 0, .int 0, .int 0, .int 0, .int 0, .int g, .ref b_d, .ref b_w, .ref b_c, .int 0, .ref b_q, .int 0, .int 0, .int 0, .ref b_s, .int 0]))]) [0] rfl
  have hD9 := hD.sub (ws' := [(b_o, .inr (7, [.ref b_m, .ref b_r, .int 0, .int pc, .int tk, .int 0, .int 0, .int 0, .int 7, .int 0, .ref b_l, .int 0, .int 0, .int 0, .int 0, .int 0, .int 0, .int 0, .int 0, .int g, .ref b_d, .ref b_w, .ref b_c, .int 0, .ref b_q, .int 0, .int 0, .int 0, .ref b_s, .int 0]))]) [0] (by decide) rfl
  have hK9 := hK.sub (tys' := [(j_r, .int)]) [0] rfl
  exact W.vret hx hb hr (fun t9 ht hW => ⟨⟨(fun k => match k with | 0 => 0 | _ => pc), rfl, trivial, by rw [ht]; exact hP9, va_K.moved hW.alike hK9, hD9⟩, hS.F ht⟩) hS.2.2 dX7_set_86
set_option maxHeartbeats 4000000 in
set_option maxRecDepth 100000 in
theorem r_set5 (l : Launch) (dC : Nat → ClassId) (dI : Nat → Nat → Nat) (b_o : Nat) (b_m : Nat) (b_r : Nat) (b_l : Nat) (b_d : Nat) (b_w : Nat) (b_c : Nat) (b_q : Nat) (b_s : Nat) (j_r : ClassId) (pc : Int32) (tk : Int32) (g : Int32) (th : Int32) (v : Int32) (sz : Nat) : Met l yX7_set (zq yX7_set cX7_set 3 none) ({ frames := 0, cells := 0, slots := 0, locals := 0 }) (va_Pc [.ref b_o, .int 5, .int v] (zc_P (dC, dI) [(b_o, .inr (7, [.ref b_m, .ref b_r, .int 0, .int pc, .int tk, .int 0, .int 0, .int 0, .int 7, .int 0, .ref b_l, .int 0, .int 0, .int 0, .int 0, .int 0, .int 0, .int 0, .int 0, .int g, .ref b_d, .ref b_w, .ref b_c, .int 0, .ref b_q, .int 0, .int 0, .int 0, .ref b_s, .int th])), (b_r, .inl (j_r, 8, .inl (fun _ => 0)))] [(j_r, .int)] sz)) (va_Qv (fun _ => True) (fun (u : Nat → Int32) t9 => zc_B (dC, dI) (va_A [(b_o, .inr (7, [.ref b_m, .ref b_r, .int 0, .int pc, .int tk, .int 0, .int 0, .int 0, .int 7, .int 0, .ref b_l, .int 0, .int 0, .int 0, .int 0, .int 0, .int 0, .int 0, .int 0, .int g, .ref b_d, .ref b_w, .ref b_c, .int 0, .ref b_q, .int 0, .int 0, .int 0, .ref b_s, .int th])), (b_r, .inl (j_r, 8, .inl (fun _ => 0)))] sz) [(b_o, .inr (7, [.ref b_m, .ref b_r, .int (u 0), .int (u 1), .int tk, .int 0, .int 0, .int 0, .int 7, .int 0, .ref b_l, .int 0, .int 0, .int 0, .int 0, .int 0, .int 0, .int 0, .int 0, .int g, .ref b_d, .ref b_w, .ref b_c, .int 0, .ref b_q, .int 0, .int 0, .int 0, .ref b_s, .int 0]))] [(j_r, .int)] t9) (va_A [(b_o, .inr (7, [.ref b_m, .ref b_r, .int 0, .int pc, .int tk, .int 0, .int 0, .int 0, .int 7, .int 0, .ref b_l, .int 0, .int 0, .int 0, .int 0, .int 0, .int 0, .int 0, .int 0, .int g, .ref b_d, .ref b_w, .ref b_c, .int 0, .ref b_q, .int 0, .int 0, .int 0, .ref b_s, .int th])), (b_r, .inl (j_r, 8, .inl (fun _ => 0)))] sz)) 0 0 (va_A [(b_o, .inr (7, [.ref b_m, .ref b_r, .int 0, .int pc, .int tk, .int 0, .int 0, .int 0, .int 7, .int 0, .ref b_l, .int 0, .int 0, .int 0, .int 0, .int 0, .int 0, .int 0, .int 0, .int g, .ref b_d, .ref b_w, .ref b_c, .int 0, .ref b_q, .int 0, .int 0, .int 0, .ref b_s, .int th])), (b_r, .inl (j_r, 8, .inl (fun _ => 0)))] sz) := by
  refine Met.ofW (cc := cX7_set) (maxL := 3) (ret := none) (by decide) rfl ?_
  intro p e s m args below meth c s₁ B hml hv
  obtain ⟨rfl, hsz, hP, hK, hD0, hN⟩ := hv
  have hx := B.exec
  have hb := B.bytes
  have hr := B.returns
  have hts : ∀ w ∈ zw, w.before _ s = true := fun w h => atoms_spec (ws := (zq yX7_set cX7_set 3 none)) B.pre w (List.mem_cons_of_mem _ h)
  have hown : s.vm.findClass RX7 = some m.cls := findClass_of_methodNamed B.named
  have hlocks := B.notSynchronized
  subst hsz
  have hD := hD0.self (sz := s.heap.size)
  generalize hAe : va_A [(b_o, .inr (7, [.ref b_m, .ref b_r, .int 0, .int pc, .int tk, .int 0, .int 0, .int 0, .int 7, .int 0, .ref b_l, .int 0, .int 0, .int 0, .int 0, .int 0, .int 0, .int 0, .int 0, .int g, .ref b_d, .ref b_w, .ref b_c, .int 0, .ref b_q, .int 0, .int 0, .int 0, .ref b_s, .int th])), (b_r, .inl (j_r, 8, .inl (fun _ => 0)))] s.heap.size = A at hD ⊢
  have hA : ∀ q : Nat, s.heap.size ≤ q → A q := fun q h => by rw [← hAe]; exact Or.inr h
  have hS : va_S A s.heap s.heap [] := va_S.rf
  have hP : va_P (dC, dI) vwCl [(b_o, .inr (7, [.ref b_m, .ref b_r, .int 0, .int pc, .int tk, .int 0, .int 0, .int 0, .int 7, .int 0, .ref b_l, .int 0, .int 0, .int 0, .int 0, .int 0, .int 0, .int 0, .int 0, .int g, .ref b_d, .ref b_w, .ref b_c, .int 0, .ref b_q, .int 0, .int 0, .int 0, .ref b_s, .int th])), (b_r, .inl (j_r, 8, .inl (fun _ => 0)))] s.heap := hP
  have hl := lv_entry ([.ref b_o, .int 5, .int v]) (n := 3) (Nat.le_of_ble_eq_true rfl)
  rw [lg_entry_eq]
  generalize (lg_sl ([.ref b_o, .int 5, .int v]) ++ List.replicate (3 - (lg_sl ([.ref b_o, .int 5, .int v])).length) Slot.unset).toArray = ls at hl ⊢
  have hl : lv_has ls 3 [(0, .ref b_o), (1, .int 5), (2, .int v)] := hl
  refine lv_aload_n hx hb dX7_set_0 rfl (lv_at hl 0 rfl) ?_
  refine lv_iload_n hx hb dX7_set_1 rfl (lv_at hl 1 rfl) ?_
  refine lv_if_lt (tgt := 11) hx hb dX7_set_2 (by decide) (fun c_1 => absurd c_1 (by decide)) (fun c_1 => ?_)
  refine lv_iload_n hx hb dX7_set_5 rfl (lv_at hl 1 rfl) ?_
  refine lv_bipush (v := 9) hx hb dX7_set_6 (by decide) ?_
  refine lv_icmp_le (tgt := 15) hx hb dX7_set_8 (by decide) (fun c_2 => ?_) (fun c_2 => absurd c_2 (by decide))
  refine lv_iconst (v := 0) hx hb dX7_set_15 (by decide) ?_
  refine va_put (D := (dC, dI)) (ci := 7) (v := .int 0) (ty := .int) (C := RX7) (T := TX7) (N := 30) hx hb hts zx_7 tyX7 tyX7_ok nmX7 hown hK hP hD hS 0 rfl rfl 29 (by decide) (hts (.fieldLink RX7 39 "KeyboardKitModel" "thrown" "I") zw_749) (fun _ h9 => h9) rfl (by decide +kernel) rfl rfl (Nat.le_of_ble_eq_true rfl) dX7_set_16 (fun H locs hP hD hS => ?_)
  have hP : va_P (dC, dI) vwCl [(b_o, .inr (7, [.ref b_m, .ref b_r, .int 0, .int pc, .int tk, .int 0, .int 0, .int 0, .int 7, .int 0, .ref b_l, .int 0, .int 0, .int 0, .int 0, .int 0, .int 0, .int 0, .int 0, .int g, .ref b_d, .ref b_w, .ref b_c, .int 0, .ref b_q, .int 0, .int 0, .int 0, .ref b_s, .int 0])), (b_r, .inl (j_r, 8, .inl (fun _ => 0)))] H := hP
  have hD : va_D A [(b_o, .inr (7, [.ref b_m, .ref b_r, .int 0, .int pc, .int tk, .int 0, .int 0, .int 0, .int 7, .int 0, .ref b_l, .int 0, .int 0, .int 0, .int 0, .int 0, .int 0, .int 0, .int 0, .int g, .ref b_d, .ref b_w, .ref b_c, .int 0, .ref b_q, .int 0, .int 0, .int 0, .ref b_s, .int 0])), (b_r, .inl (j_r, 8, .inl (fun _ => 0)))] := hD
  refine lv_aload_n hx hb dX7_set_19 rfl (lv_at hl 0 rfl) ?_
  refine va_get (D := (dC, dI)) (ci := 7) (v := .int 0) (C := RX7) (T := TX7) (N := 30) hx hb hts zx_7 hown hK hP 0 rfl rfl 29 (by decide) (hts (.fieldLink RX7 39 "KeyboardKitModel" "thrown" "I") zw_749) (fun _ h9 => h9) rfl dX7_set_20 ?_
  refine lv_if_eq (tgt := 27) hx hb dX7_set_23 (by decide) (fun c_3 => ?_) (fun c_3 => absurd c_3 (by decide))
  refine lv_iload_n hx hb dX7_set_27 rfl (lv_at hl 1 rfl) ?_
  refine lv_bipush (v := 8) hx hb dX7_set_28 (by decide) ?_
  refine lv_icmp_ne (tgt := 44) hx hb dX7_set_30 (by decide) (fun c_4 => ?_) (fun c_4 => absurd c_4 (by decide))
  refine lv_iload_n hx hb dX7_set_44 rfl (lv_at hl 1 rfl) ?_
  refine lv_bipush (v := 9) hx hb dX7_set_45 (by decide) ?_
  refine lv_icmp_ne (tgt := 61) hx hb dX7_set_47 (by decide) (fun c_5 => ?_) (fun c_5 => absurd c_5 (by decide))
  refine lv_aload_n hx hb dX7_set_61 rfl (lv_at hl 0 rfl) ?_
  refine va_get (D := (dC, dI)) (ci := 7) (v := .ref b_r) (C := RX7) (T := TX7) (N := 30) hx hb hts zx_7 hown hK hP 0 rfl rfl 1 (by decide) (hts (.fieldLink RX7 13 "KeyboardKitModel" "register" "[I") zw_721) (fun _ h9 => h9) rfl dX7_set_62 ?_
  refine lv_iload_n hx hb dX7_set_65 rfl (lv_at hl 1 rfl) ?_
  refine lv_iload_n hx hb dX7_set_66 rfl (lv_at hl 1 rfl) ?_
  refine lv_bipush (v := 6) hx hb dX7_set_67 (by decide) ?_
  refine lv_icmp_ne (tgt := 80) hx hb dX7_set_69 (by decide) (fun c_6 => ?_) (fun c_6 => absurd c_6 (by decide))
  refine lv_iload_n hx hb dX7_set_80 rfl (lv_at hl 2 rfl) ?_
  refine lv_sipush (v := 255) hx hb dX7_set_81 (by decide) ?_
  refine lv_iand hx hb dX7_set_84 ?_
  refine lv_topi (fun v_7 ev_7 => ?_)
  refine va_iast hx hb hK hP hD hS 1 0 rfl rfl (show ¬ ((5 : Int32) < 0 ∨ 8 ≤ (5 : Int32).toNatClampNeg) by decide) dX7_set_85 (fun H locs hP hD hS => ?_)
  have hP : va_P (dC, dI) vwCl [(b_o, .inr (7, [.ref b_m, .ref b_r, .int 0, .int pc, .int tk, .int 0, .int 0, .int 0, .int 7, .int 0, .ref b_l, .int 0, .int 0, .int 0, .int 0, .int 0, .int 0, .int 0, .int 0, .int g, .ref b_d, .ref b_w, .ref b_c, .int 0, .ref b_q, .int 0, .int 0, .int 0, .ref b_s, .int 0])), (b_r, .inl (j_r, 8, .inl (upd (fun _ => 0) (5 : Int32).toNatClampNeg v_7)))] H := hP
  have hD : va_D A [(b_o, .inr (7, [.ref b_m, .ref b_r, .int 0, .int pc, .int tk, .int 0, .int 0, .int 0, .int 7, .int 0, .ref b_l, .int 0, .int 0, .int 0, .int 0, .int 0, .int 0, .int 0, .int 0, .int g, .ref b_d, .ref b_w, .ref b_c, .int 0, .ref b_q, .int 0, .int 0, .int 0, .ref b_s, .int 0])), (b_r, .inl (j_r, 8, .inl (upd (fun _ => 0) (5 : Int32).toNatClampNeg v_7)))] := hD
  have hP9 := hP.sub (ws' := [(b_o, .inr (7, [.ref b_m, .ref b_r, .int 0, .int pc, .int tk, .int 0, .int 0, .int 0, .int 7, .int 0, .ref b_l, .int 0, .int 0, .int 0, .int 0, .int 0, .int 0, .int 0, .int 0, .int g, .ref b_d, .ref b_w, .ref b_c, .int 0, .ref b_q, .int 0, .int 0, .int 0, .ref b_s, .int 0]))]) [0] rfl
  have hD9 := hD.sub (ws' := [(b_o, .inr (7, [.ref b_m, .ref b_r, .int 0, .int pc, .int tk, .int 0, .int 0, .int 0, .int 7, .int 0, .ref b_l, .int 0, .int 0, .int 0, .int 0, .int 0, .int 0, .int 0, .int 0, .int g, .ref b_d, .ref b_w, .ref b_c, .int 0, .ref b_q, .int 0, .int 0, .int 0, .ref b_s, .int 0]))]) [0] (by decide) rfl
  have hK9 := hK.sub (tys' := [(j_r, .int)]) [0] rfl
  exact W.vret hx hb hr (fun t9 ht hW => ⟨⟨(fun k => match k with | 0 => 0 | _ => pc), rfl, trivial, by rw [ht]; exact hP9, va_K.moved hW.alike hK9, hD9⟩, hS.F ht⟩) hS.2.2 dX7_set_86
set_option maxHeartbeats 4000000 in
set_option maxRecDepth 100000 in
theorem r_set6 (l : Launch) (dC : Nat → ClassId) (dI : Nat → Nat → Nat) (b_o : Nat) (b_m : Nat) (b_r : Nat) (b_l : Nat) (b_d : Nat) (b_w : Nat) (b_c : Nat) (b_q : Nat) (b_s : Nat) (j_r : ClassId) (pc : Int32) (tk : Int32) (g : Int32) (th : Int32) (v : Int32) (sz : Nat) : Met l yX7_set (zq yX7_set cX7_set 3 none) ({ frames := 0, cells := 0, slots := 0, locals := 0 }) (va_Pc [.ref b_o, .int 6, .int v] (zc_P (dC, dI) [(b_o, .inr (7, [.ref b_m, .ref b_r, .int 0, .int pc, .int tk, .int 0, .int 0, .int 0, .int 7, .int 0, .ref b_l, .int 0, .int 0, .int 0, .int 0, .int 0, .int 0, .int 0, .int 0, .int g, .ref b_d, .ref b_w, .ref b_c, .int 0, .ref b_q, .int 0, .int 0, .int 0, .ref b_s, .int th])), (b_r, .inl (j_r, 8, .inl (fun _ => 0)))] [(j_r, .int)] sz)) (va_Qv (fun _ => True) (fun (u : Nat → Int32) t9 => zc_B (dC, dI) (va_A [(b_o, .inr (7, [.ref b_m, .ref b_r, .int 0, .int pc, .int tk, .int 0, .int 0, .int 0, .int 7, .int 0, .ref b_l, .int 0, .int 0, .int 0, .int 0, .int 0, .int 0, .int 0, .int 0, .int g, .ref b_d, .ref b_w, .ref b_c, .int 0, .ref b_q, .int 0, .int 0, .int 0, .ref b_s, .int th])), (b_r, .inl (j_r, 8, .inl (fun _ => 0)))] sz) [(b_o, .inr (7, [.ref b_m, .ref b_r, .int (u 0), .int (u 1), .int tk, .int 0, .int 0, .int 0, .int 7, .int 0, .ref b_l, .int 0, .int 0, .int 0, .int 0, .int 0, .int 0, .int 0, .int 0, .int g, .ref b_d, .ref b_w, .ref b_c, .int 0, .ref b_q, .int 0, .int 0, .int 0, .ref b_s, .int 0]))] [(j_r, .int)] t9) (va_A [(b_o, .inr (7, [.ref b_m, .ref b_r, .int 0, .int pc, .int tk, .int 0, .int 0, .int 0, .int 7, .int 0, .ref b_l, .int 0, .int 0, .int 0, .int 0, .int 0, .int 0, .int 0, .int 0, .int g, .ref b_d, .ref b_w, .ref b_c, .int 0, .ref b_q, .int 0, .int 0, .int 0, .ref b_s, .int th])), (b_r, .inl (j_r, 8, .inl (fun _ => 0)))] sz)) 0 0 (va_A [(b_o, .inr (7, [.ref b_m, .ref b_r, .int 0, .int pc, .int tk, .int 0, .int 0, .int 0, .int 7, .int 0, .ref b_l, .int 0, .int 0, .int 0, .int 0, .int 0, .int 0, .int 0, .int 0, .int g, .ref b_d, .ref b_w, .ref b_c, .int 0, .ref b_q, .int 0, .int 0, .int 0, .ref b_s, .int th])), (b_r, .inl (j_r, 8, .inl (fun _ => 0)))] sz) := by
  refine Met.ofW (cc := cX7_set) (maxL := 3) (ret := none) (by decide) rfl ?_
  intro p e s m args below meth c s₁ B hml hv
  obtain ⟨rfl, hsz, hP, hK, hD0, hN⟩ := hv
  have hx := B.exec
  have hb := B.bytes
  have hr := B.returns
  have hts : ∀ w ∈ zw, w.before _ s = true := fun w h => atoms_spec (ws := (zq yX7_set cX7_set 3 none)) B.pre w (List.mem_cons_of_mem _ h)
  have hown : s.vm.findClass RX7 = some m.cls := findClass_of_methodNamed B.named
  have hlocks := B.notSynchronized
  subst hsz
  have hD := hD0.self (sz := s.heap.size)
  generalize hAe : va_A [(b_o, .inr (7, [.ref b_m, .ref b_r, .int 0, .int pc, .int tk, .int 0, .int 0, .int 0, .int 7, .int 0, .ref b_l, .int 0, .int 0, .int 0, .int 0, .int 0, .int 0, .int 0, .int 0, .int g, .ref b_d, .ref b_w, .ref b_c, .int 0, .ref b_q, .int 0, .int 0, .int 0, .ref b_s, .int th])), (b_r, .inl (j_r, 8, .inl (fun _ => 0)))] s.heap.size = A at hD ⊢
  have hA : ∀ q : Nat, s.heap.size ≤ q → A q := fun q h => by rw [← hAe]; exact Or.inr h
  have hS : va_S A s.heap s.heap [] := va_S.rf
  have hP : va_P (dC, dI) vwCl [(b_o, .inr (7, [.ref b_m, .ref b_r, .int 0, .int pc, .int tk, .int 0, .int 0, .int 0, .int 7, .int 0, .ref b_l, .int 0, .int 0, .int 0, .int 0, .int 0, .int 0, .int 0, .int 0, .int g, .ref b_d, .ref b_w, .ref b_c, .int 0, .ref b_q, .int 0, .int 0, .int 0, .ref b_s, .int th])), (b_r, .inl (j_r, 8, .inl (fun _ => 0)))] s.heap := hP
  have hl := lv_entry ([.ref b_o, .int 6, .int v]) (n := 3) (Nat.le_of_ble_eq_true rfl)
  rw [lg_entry_eq]
  generalize (lg_sl ([.ref b_o, .int 6, .int v]) ++ List.replicate (3 - (lg_sl ([.ref b_o, .int 6, .int v])).length) Slot.unset).toArray = ls at hl ⊢
  have hl : lv_has ls 3 [(0, .ref b_o), (1, .int 6), (2, .int v)] := hl
  refine lv_aload_n hx hb dX7_set_0 rfl (lv_at hl 0 rfl) ?_
  refine lv_iload_n hx hb dX7_set_1 rfl (lv_at hl 1 rfl) ?_
  refine lv_if_lt (tgt := 11) hx hb dX7_set_2 (by decide) (fun c_1 => absurd c_1 (by decide)) (fun c_1 => ?_)
  refine lv_iload_n hx hb dX7_set_5 rfl (lv_at hl 1 rfl) ?_
  refine lv_bipush (v := 9) hx hb dX7_set_6 (by decide) ?_
  refine lv_icmp_le (tgt := 15) hx hb dX7_set_8 (by decide) (fun c_2 => ?_) (fun c_2 => absurd c_2 (by decide))
  refine lv_iconst (v := 0) hx hb dX7_set_15 (by decide) ?_
  refine va_put (D := (dC, dI)) (ci := 7) (v := .int 0) (ty := .int) (C := RX7) (T := TX7) (N := 30) hx hb hts zx_7 tyX7 tyX7_ok nmX7 hown hK hP hD hS 0 rfl rfl 29 (by decide) (hts (.fieldLink RX7 39 "KeyboardKitModel" "thrown" "I") zw_749) (fun _ h9 => h9) rfl (by decide +kernel) rfl rfl (Nat.le_of_ble_eq_true rfl) dX7_set_16 (fun H locs hP hD hS => ?_)
  have hP : va_P (dC, dI) vwCl [(b_o, .inr (7, [.ref b_m, .ref b_r, .int 0, .int pc, .int tk, .int 0, .int 0, .int 0, .int 7, .int 0, .ref b_l, .int 0, .int 0, .int 0, .int 0, .int 0, .int 0, .int 0, .int 0, .int g, .ref b_d, .ref b_w, .ref b_c, .int 0, .ref b_q, .int 0, .int 0, .int 0, .ref b_s, .int 0])), (b_r, .inl (j_r, 8, .inl (fun _ => 0)))] H := hP
  have hD : va_D A [(b_o, .inr (7, [.ref b_m, .ref b_r, .int 0, .int pc, .int tk, .int 0, .int 0, .int 0, .int 7, .int 0, .ref b_l, .int 0, .int 0, .int 0, .int 0, .int 0, .int 0, .int 0, .int 0, .int g, .ref b_d, .ref b_w, .ref b_c, .int 0, .ref b_q, .int 0, .int 0, .int 0, .ref b_s, .int 0])), (b_r, .inl (j_r, 8, .inl (fun _ => 0)))] := hD
  refine lv_aload_n hx hb dX7_set_19 rfl (lv_at hl 0 rfl) ?_
  refine va_get (D := (dC, dI)) (ci := 7) (v := .int 0) (C := RX7) (T := TX7) (N := 30) hx hb hts zx_7 hown hK hP 0 rfl rfl 29 (by decide) (hts (.fieldLink RX7 39 "KeyboardKitModel" "thrown" "I") zw_749) (fun _ h9 => h9) rfl dX7_set_20 ?_
  refine lv_if_eq (tgt := 27) hx hb dX7_set_23 (by decide) (fun c_3 => ?_) (fun c_3 => absurd c_3 (by decide))
  refine lv_iload_n hx hb dX7_set_27 rfl (lv_at hl 1 rfl) ?_
  refine lv_bipush (v := 8) hx hb dX7_set_28 (by decide) ?_
  refine lv_icmp_ne (tgt := 44) hx hb dX7_set_30 (by decide) (fun c_4 => ?_) (fun c_4 => absurd c_4 (by decide))
  refine lv_iload_n hx hb dX7_set_44 rfl (lv_at hl 1 rfl) ?_
  refine lv_bipush (v := 9) hx hb dX7_set_45 (by decide) ?_
  refine lv_icmp_ne (tgt := 61) hx hb dX7_set_47 (by decide) (fun c_5 => ?_) (fun c_5 => absurd c_5 (by decide))
  refine lv_aload_n hx hb dX7_set_61 rfl (lv_at hl 0 rfl) ?_
  refine va_get (D := (dC, dI)) (ci := 7) (v := .ref b_r) (C := RX7) (T := TX7) (N := 30) hx hb hts zx_7 hown hK hP 0 rfl rfl 1 (by decide) (hts (.fieldLink RX7 13 "KeyboardKitModel" "register" "[I") zw_721) (fun _ h9 => h9) rfl dX7_set_62 ?_
  refine lv_iload_n hx hb dX7_set_65 rfl (lv_at hl 1 rfl) ?_
  refine lv_iload_n hx hb dX7_set_66 rfl (lv_at hl 1 rfl) ?_
  refine lv_bipush (v := 6) hx hb dX7_set_67 (by decide) ?_
  refine lv_icmp_ne (tgt := 80) hx hb dX7_set_69 (by decide) (fun c_6 => absurd c_6 (by decide)) (fun c_6 => ?_)
  refine lv_iload_n hx hb dX7_set_72 rfl (lv_at hl 2 rfl) ?_
  refine lv_sipush (v := 247) hx hb dX7_set_73 (by decide) ?_
  refine lv_iand hx hb dX7_set_76 ?_
  refine lv_topi (fun v_7 ev_7 => ?_)
  refine lv_goto (tgt := 85) hx hb dX7_set_77 (by decide) ?_
  refine va_iast hx hb hK hP hD hS 1 0 rfl rfl (show ¬ ((6 : Int32) < 0 ∨ 8 ≤ (6 : Int32).toNatClampNeg) by decide) dX7_set_85 (fun H locs hP hD hS => ?_)
  have hP : va_P (dC, dI) vwCl [(b_o, .inr (7, [.ref b_m, .ref b_r, .int 0, .int pc, .int tk, .int 0, .int 0, .int 0, .int 7, .int 0, .ref b_l, .int 0, .int 0, .int 0, .int 0, .int 0, .int 0, .int 0, .int 0, .int g, .ref b_d, .ref b_w, .ref b_c, .int 0, .ref b_q, .int 0, .int 0, .int 0, .ref b_s, .int 0])), (b_r, .inl (j_r, 8, .inl (upd (fun _ => 0) (6 : Int32).toNatClampNeg v_7)))] H := hP
  have hD : va_D A [(b_o, .inr (7, [.ref b_m, .ref b_r, .int 0, .int pc, .int tk, .int 0, .int 0, .int 0, .int 7, .int 0, .ref b_l, .int 0, .int 0, .int 0, .int 0, .int 0, .int 0, .int 0, .int 0, .int g, .ref b_d, .ref b_w, .ref b_c, .int 0, .ref b_q, .int 0, .int 0, .int 0, .ref b_s, .int 0])), (b_r, .inl (j_r, 8, .inl (upd (fun _ => 0) (6 : Int32).toNatClampNeg v_7)))] := hD
  have hP9 := hP.sub (ws' := [(b_o, .inr (7, [.ref b_m, .ref b_r, .int 0, .int pc, .int tk, .int 0, .int 0, .int 0, .int 7, .int 0, .ref b_l, .int 0, .int 0, .int 0, .int 0, .int 0, .int 0, .int 0, .int 0, .int g, .ref b_d, .ref b_w, .ref b_c, .int 0, .ref b_q, .int 0, .int 0, .int 0, .ref b_s, .int 0]))]) [0] rfl
  have hD9 := hD.sub (ws' := [(b_o, .inr (7, [.ref b_m, .ref b_r, .int 0, .int pc, .int tk, .int 0, .int 0, .int 0, .int 7, .int 0, .ref b_l, .int 0, .int 0, .int 0, .int 0, .int 0, .int 0, .int 0, .int 0, .int g, .ref b_d, .ref b_w, .ref b_c, .int 0, .ref b_q, .int 0, .int 0, .int 0, .ref b_s, .int 0]))]) [0] (by decide) rfl
  have hK9 := hK.sub (tys' := [(j_r, .int)]) [0] rfl
  exact W.vret hx hb hr (fun t9 ht hW => ⟨⟨(fun k => match k with | 0 => 0 | _ => pc), rfl, trivial, by rw [ht]; exact hP9, va_K.moved hW.alike hK9, hD9⟩, hS.F ht⟩) hS.2.2 dX7_set_86
set_option maxHeartbeats 4000000 in
set_option maxRecDepth 100000 in
theorem r_set7 (l : Launch) (dC : Nat → ClassId) (dI : Nat → Nat → Nat) (b_o : Nat) (b_m : Nat) (b_r : Nat) (b_l : Nat) (b_d : Nat) (b_w : Nat) (b_c : Nat) (b_q : Nat) (b_s : Nat) (j_r : ClassId) (pc : Int32) (tk : Int32) (g : Int32) (th : Int32) (v : Int32) (sz : Nat) : Met l yX7_set (zq yX7_set cX7_set 3 none) ({ frames := 0, cells := 0, slots := 0, locals := 0 }) (va_Pc [.ref b_o, .int 7, .int v] (zc_P (dC, dI) [(b_o, .inr (7, [.ref b_m, .ref b_r, .int 0, .int pc, .int tk, .int 0, .int 0, .int 0, .int 7, .int 0, .ref b_l, .int 0, .int 0, .int 0, .int 0, .int 0, .int 0, .int 0, .int 0, .int g, .ref b_d, .ref b_w, .ref b_c, .int 0, .ref b_q, .int 0, .int 0, .int 0, .ref b_s, .int th])), (b_r, .inl (j_r, 8, .inl (fun _ => 0)))] [(j_r, .int)] sz)) (va_Qv (fun _ => True) (fun (u : Nat → Int32) t9 => zc_B (dC, dI) (va_A [(b_o, .inr (7, [.ref b_m, .ref b_r, .int 0, .int pc, .int tk, .int 0, .int 0, .int 0, .int 7, .int 0, .ref b_l, .int 0, .int 0, .int 0, .int 0, .int 0, .int 0, .int 0, .int 0, .int g, .ref b_d, .ref b_w, .ref b_c, .int 0, .ref b_q, .int 0, .int 0, .int 0, .ref b_s, .int th])), (b_r, .inl (j_r, 8, .inl (fun _ => 0)))] sz) [(b_o, .inr (7, [.ref b_m, .ref b_r, .int (u 0), .int (u 1), .int tk, .int 0, .int 0, .int 0, .int 7, .int 0, .ref b_l, .int 0, .int 0, .int 0, .int 0, .int 0, .int 0, .int 0, .int 0, .int g, .ref b_d, .ref b_w, .ref b_c, .int 0, .ref b_q, .int 0, .int 0, .int 0, .ref b_s, .int 0]))] [(j_r, .int)] t9) (va_A [(b_o, .inr (7, [.ref b_m, .ref b_r, .int 0, .int pc, .int tk, .int 0, .int 0, .int 0, .int 7, .int 0, .ref b_l, .int 0, .int 0, .int 0, .int 0, .int 0, .int 0, .int 0, .int 0, .int g, .ref b_d, .ref b_w, .ref b_c, .int 0, .ref b_q, .int 0, .int 0, .int 0, .ref b_s, .int th])), (b_r, .inl (j_r, 8, .inl (fun _ => 0)))] sz)) 0 0 (va_A [(b_o, .inr (7, [.ref b_m, .ref b_r, .int 0, .int pc, .int tk, .int 0, .int 0, .int 0, .int 7, .int 0, .ref b_l, .int 0, .int 0, .int 0, .int 0, .int 0, .int 0, .int 0, .int 0, .int g, .ref b_d, .ref b_w, .ref b_c, .int 0, .ref b_q, .int 0, .int 0, .int 0, .ref b_s, .int th])), (b_r, .inl (j_r, 8, .inl (fun _ => 0)))] sz) := by
  refine Met.ofW (cc := cX7_set) (maxL := 3) (ret := none) (by decide) rfl ?_
  intro p e s m args below meth c s₁ B hml hv
  obtain ⟨rfl, hsz, hP, hK, hD0, hN⟩ := hv
  have hx := B.exec
  have hb := B.bytes
  have hr := B.returns
  have hts : ∀ w ∈ zw, w.before _ s = true := fun w h => atoms_spec (ws := (zq yX7_set cX7_set 3 none)) B.pre w (List.mem_cons_of_mem _ h)
  have hown : s.vm.findClass RX7 = some m.cls := findClass_of_methodNamed B.named
  have hlocks := B.notSynchronized
  subst hsz
  have hD := hD0.self (sz := s.heap.size)
  generalize hAe : va_A [(b_o, .inr (7, [.ref b_m, .ref b_r, .int 0, .int pc, .int tk, .int 0, .int 0, .int 0, .int 7, .int 0, .ref b_l, .int 0, .int 0, .int 0, .int 0, .int 0, .int 0, .int 0, .int 0, .int g, .ref b_d, .ref b_w, .ref b_c, .int 0, .ref b_q, .int 0, .int 0, .int 0, .ref b_s, .int th])), (b_r, .inl (j_r, 8, .inl (fun _ => 0)))] s.heap.size = A at hD ⊢
  have hA : ∀ q : Nat, s.heap.size ≤ q → A q := fun q h => by rw [← hAe]; exact Or.inr h
  have hS : va_S A s.heap s.heap [] := va_S.rf
  have hP : va_P (dC, dI) vwCl [(b_o, .inr (7, [.ref b_m, .ref b_r, .int 0, .int pc, .int tk, .int 0, .int 0, .int 0, .int 7, .int 0, .ref b_l, .int 0, .int 0, .int 0, .int 0, .int 0, .int 0, .int 0, .int 0, .int g, .ref b_d, .ref b_w, .ref b_c, .int 0, .ref b_q, .int 0, .int 0, .int 0, .ref b_s, .int th])), (b_r, .inl (j_r, 8, .inl (fun _ => 0)))] s.heap := hP
  have hl := lv_entry ([.ref b_o, .int 7, .int v]) (n := 3) (Nat.le_of_ble_eq_true rfl)
  rw [lg_entry_eq]
  generalize (lg_sl ([.ref b_o, .int 7, .int v]) ++ List.replicate (3 - (lg_sl ([.ref b_o, .int 7, .int v])).length) Slot.unset).toArray = ls at hl ⊢
  have hl : lv_has ls 3 [(0, .ref b_o), (1, .int 7), (2, .int v)] := hl
  refine lv_aload_n hx hb dX7_set_0 rfl (lv_at hl 0 rfl) ?_
  refine lv_iload_n hx hb dX7_set_1 rfl (lv_at hl 1 rfl) ?_
  refine lv_if_lt (tgt := 11) hx hb dX7_set_2 (by decide) (fun c_1 => absurd c_1 (by decide)) (fun c_1 => ?_)
  refine lv_iload_n hx hb dX7_set_5 rfl (lv_at hl 1 rfl) ?_
  refine lv_bipush (v := 9) hx hb dX7_set_6 (by decide) ?_
  refine lv_icmp_le (tgt := 15) hx hb dX7_set_8 (by decide) (fun c_2 => ?_) (fun c_2 => absurd c_2 (by decide))
  refine lv_iconst (v := 0) hx hb dX7_set_15 (by decide) ?_
  refine va_put (D := (dC, dI)) (ci := 7) (v := .int 0) (ty := .int) (C := RX7) (T := TX7) (N := 30) hx hb hts zx_7 tyX7 tyX7_ok nmX7 hown hK hP hD hS 0 rfl rfl 29 (by decide) (hts (.fieldLink RX7 39 "KeyboardKitModel" "thrown" "I") zw_749) (fun _ h9 => h9) rfl (by decide +kernel) rfl rfl (Nat.le_of_ble_eq_true rfl) dX7_set_16 (fun H locs hP hD hS => ?_)
  have hP : va_P (dC, dI) vwCl [(b_o, .inr (7, [.ref b_m, .ref b_r, .int 0, .int pc, .int tk, .int 0, .int 0, .int 0, .int 7, .int 0, .ref b_l, .int 0, .int 0, .int 0, .int 0, .int 0, .int 0, .int 0, .int 0, .int g, .ref b_d, .ref b_w, .ref b_c, .int 0, .ref b_q, .int 0, .int 0, .int 0, .ref b_s, .int 0])), (b_r, .inl (j_r, 8, .inl (fun _ => 0)))] H := hP
  have hD : va_D A [(b_o, .inr (7, [.ref b_m, .ref b_r, .int 0, .int pc, .int tk, .int 0, .int 0, .int 0, .int 7, .int 0, .ref b_l, .int 0, .int 0, .int 0, .int 0, .int 0, .int 0, .int 0, .int 0, .int g, .ref b_d, .ref b_w, .ref b_c, .int 0, .ref b_q, .int 0, .int 0, .int 0, .ref b_s, .int 0])), (b_r, .inl (j_r, 8, .inl (fun _ => 0)))] := hD
  refine lv_aload_n hx hb dX7_set_19 rfl (lv_at hl 0 rfl) ?_
  refine va_get (D := (dC, dI)) (ci := 7) (v := .int 0) (C := RX7) (T := TX7) (N := 30) hx hb hts zx_7 hown hK hP 0 rfl rfl 29 (by decide) (hts (.fieldLink RX7 39 "KeyboardKitModel" "thrown" "I") zw_749) (fun _ h9 => h9) rfl dX7_set_20 ?_
  refine lv_if_eq (tgt := 27) hx hb dX7_set_23 (by decide) (fun c_3 => ?_) (fun c_3 => absurd c_3 (by decide))
  refine lv_iload_n hx hb dX7_set_27 rfl (lv_at hl 1 rfl) ?_
  refine lv_bipush (v := 8) hx hb dX7_set_28 (by decide) ?_
  refine lv_icmp_ne (tgt := 44) hx hb dX7_set_30 (by decide) (fun c_4 => ?_) (fun c_4 => absurd c_4 (by decide))
  refine lv_iload_n hx hb dX7_set_44 rfl (lv_at hl 1 rfl) ?_
  refine lv_bipush (v := 9) hx hb dX7_set_45 (by decide) ?_
  refine lv_icmp_ne (tgt := 61) hx hb dX7_set_47 (by decide) (fun c_5 => ?_) (fun c_5 => absurd c_5 (by decide))
  refine lv_aload_n hx hb dX7_set_61 rfl (lv_at hl 0 rfl) ?_
  refine va_get (D := (dC, dI)) (ci := 7) (v := .ref b_r) (C := RX7) (T := TX7) (N := 30) hx hb hts zx_7 hown hK hP 0 rfl rfl 1 (by decide) (hts (.fieldLink RX7 13 "KeyboardKitModel" "register" "[I") zw_721) (fun _ h9 => h9) rfl dX7_set_62 ?_
  refine lv_iload_n hx hb dX7_set_65 rfl (lv_at hl 1 rfl) ?_
  refine lv_iload_n hx hb dX7_set_66 rfl (lv_at hl 1 rfl) ?_
  refine lv_bipush (v := 6) hx hb dX7_set_67 (by decide) ?_
  refine lv_icmp_ne (tgt := 80) hx hb dX7_set_69 (by decide) (fun c_6 => ?_) (fun c_6 => absurd c_6 (by decide))
  refine lv_iload_n hx hb dX7_set_80 rfl (lv_at hl 2 rfl) ?_
  refine lv_sipush (v := 255) hx hb dX7_set_81 (by decide) ?_
  refine lv_iand hx hb dX7_set_84 ?_
  refine lv_topi (fun v_7 ev_7 => ?_)
  refine va_iast hx hb hK hP hD hS 1 0 rfl rfl (show ¬ ((7 : Int32) < 0 ∨ 8 ≤ (7 : Int32).toNatClampNeg) by decide) dX7_set_85 (fun H locs hP hD hS => ?_)
  have hP : va_P (dC, dI) vwCl [(b_o, .inr (7, [.ref b_m, .ref b_r, .int 0, .int pc, .int tk, .int 0, .int 0, .int 0, .int 7, .int 0, .ref b_l, .int 0, .int 0, .int 0, .int 0, .int 0, .int 0, .int 0, .int 0, .int g, .ref b_d, .ref b_w, .ref b_c, .int 0, .ref b_q, .int 0, .int 0, .int 0, .ref b_s, .int 0])), (b_r, .inl (j_r, 8, .inl (upd (fun _ => 0) (7 : Int32).toNatClampNeg v_7)))] H := hP
  have hD : va_D A [(b_o, .inr (7, [.ref b_m, .ref b_r, .int 0, .int pc, .int tk, .int 0, .int 0, .int 0, .int 7, .int 0, .ref b_l, .int 0, .int 0, .int 0, .int 0, .int 0, .int 0, .int 0, .int 0, .int g, .ref b_d, .ref b_w, .ref b_c, .int 0, .ref b_q, .int 0, .int 0, .int 0, .ref b_s, .int 0])), (b_r, .inl (j_r, 8, .inl (upd (fun _ => 0) (7 : Int32).toNatClampNeg v_7)))] := hD
  have hP9 := hP.sub (ws' := [(b_o, .inr (7, [.ref b_m, .ref b_r, .int 0, .int pc, .int tk, .int 0, .int 0, .int 0, .int 7, .int 0, .ref b_l, .int 0, .int 0, .int 0, .int 0, .int 0, .int 0, .int 0, .int 0, .int g, .ref b_d, .ref b_w, .ref b_c, .int 0, .ref b_q, .int 0, .int 0, .int 0, .ref b_s, .int 0]))]) [0] rfl
  have hD9 := hD.sub (ws' := [(b_o, .inr (7, [.ref b_m, .ref b_r, .int 0, .int pc, .int tk, .int 0, .int 0, .int 0, .int 7, .int 0, .ref b_l, .int 0, .int 0, .int 0, .int 0, .int 0, .int 0, .int 0, .int 0, .int g, .ref b_d, .ref b_w, .ref b_c, .int 0, .ref b_q, .int 0, .int 0, .int 0, .ref b_s, .int 0]))]) [0] (by decide) rfl
  have hK9 := hK.sub (tys' := [(j_r, .int)]) [0] rfl
  exact W.vret hx hb hr (fun t9 ht hW => ⟨⟨(fun k => match k with | 0 => 0 | _ => pc), rfl, trivial, by rw [ht]; exact hP9, va_K.moved hW.alike hK9, hD9⟩, hS.F ht⟩) hS.2.2 dX7_set_86
set_option maxHeartbeats 4000000 in
set_option maxRecDepth 100000 in
theorem r_set8 (l : Launch) (dC : Nat → ClassId) (dI : Nat → Nat → Nat) (b_o : Nat) (b_m : Nat) (b_r : Nat) (b_l : Nat) (b_d : Nat) (b_w : Nat) (b_c : Nat) (b_q : Nat) (b_s : Nat) (j_r : ClassId) (pc : Int32) (tk : Int32) (g : Int32) (th : Int32) (v : Int32) (sz : Nat) : Met l yX7_set (zq yX7_set cX7_set 3 none) ({ frames := 0, cells := 0, slots := 0, locals := 0 }) (va_Pc [.ref b_o, .int 8, .int v] (zc_P (dC, dI) [(b_o, .inr (7, [.ref b_m, .ref b_r, .int 0, .int pc, .int tk, .int 0, .int 0, .int 0, .int 7, .int 0, .ref b_l, .int 0, .int 0, .int 0, .int 0, .int 0, .int 0, .int 0, .int 0, .int g, .ref b_d, .ref b_w, .ref b_c, .int 0, .ref b_q, .int 0, .int 0, .int 0, .ref b_s, .int th])), (b_r, .inl (j_r, 8, .inl (fun _ => 0)))] [(j_r, .int)] sz)) (va_Qv (fun _ => True) (fun (u : Nat → Int32) t9 => zc_B (dC, dI) (va_A [(b_o, .inr (7, [.ref b_m, .ref b_r, .int 0, .int pc, .int tk, .int 0, .int 0, .int 0, .int 7, .int 0, .ref b_l, .int 0, .int 0, .int 0, .int 0, .int 0, .int 0, .int 0, .int 0, .int g, .ref b_d, .ref b_w, .ref b_c, .int 0, .ref b_q, .int 0, .int 0, .int 0, .ref b_s, .int th])), (b_r, .inl (j_r, 8, .inl (fun _ => 0)))] sz) [(b_o, .inr (7, [.ref b_m, .ref b_r, .int (u 0), .int (u 1), .int tk, .int 0, .int 0, .int 0, .int 7, .int 0, .ref b_l, .int 0, .int 0, .int 0, .int 0, .int 0, .int 0, .int 0, .int 0, .int g, .ref b_d, .ref b_w, .ref b_c, .int 0, .ref b_q, .int 0, .int 0, .int 0, .ref b_s, .int 0]))] [(j_r, .int)] t9) (va_A [(b_o, .inr (7, [.ref b_m, .ref b_r, .int 0, .int pc, .int tk, .int 0, .int 0, .int 0, .int 7, .int 0, .ref b_l, .int 0, .int 0, .int 0, .int 0, .int 0, .int 0, .int 0, .int 0, .int g, .ref b_d, .ref b_w, .ref b_c, .int 0, .ref b_q, .int 0, .int 0, .int 0, .ref b_s, .int th])), (b_r, .inl (j_r, 8, .inl (fun _ => 0)))] sz)) 0 0 (va_A [(b_o, .inr (7, [.ref b_m, .ref b_r, .int 0, .int pc, .int tk, .int 0, .int 0, .int 0, .int 7, .int 0, .ref b_l, .int 0, .int 0, .int 0, .int 0, .int 0, .int 0, .int 0, .int 0, .int g, .ref b_d, .ref b_w, .ref b_c, .int 0, .ref b_q, .int 0, .int 0, .int 0, .ref b_s, .int th])), (b_r, .inl (j_r, 8, .inl (fun _ => 0)))] sz) := by
  refine Met.ofW (cc := cX7_set) (maxL := 3) (ret := none) (by decide) rfl ?_
  intro p e s m args below meth c s₁ B hml hv
  obtain ⟨rfl, hsz, hP, hK, hD0, hN⟩ := hv
  have hx := B.exec
  have hb := B.bytes
  have hr := B.returns
  have hts : ∀ w ∈ zw, w.before _ s = true := fun w h => atoms_spec (ws := (zq yX7_set cX7_set 3 none)) B.pre w (List.mem_cons_of_mem _ h)
  have hown : s.vm.findClass RX7 = some m.cls := findClass_of_methodNamed B.named
  have hlocks := B.notSynchronized
  subst hsz
  have hD := hD0.self (sz := s.heap.size)
  generalize hAe : va_A [(b_o, .inr (7, [.ref b_m, .ref b_r, .int 0, .int pc, .int tk, .int 0, .int 0, .int 0, .int 7, .int 0, .ref b_l, .int 0, .int 0, .int 0, .int 0, .int 0, .int 0, .int 0, .int 0, .int g, .ref b_d, .ref b_w, .ref b_c, .int 0, .ref b_q, .int 0, .int 0, .int 0, .ref b_s, .int th])), (b_r, .inl (j_r, 8, .inl (fun _ => 0)))] s.heap.size = A at hD ⊢
  have hA : ∀ q : Nat, s.heap.size ≤ q → A q := fun q h => by rw [← hAe]; exact Or.inr h
  have hS : va_S A s.heap s.heap [] := va_S.rf
  have hP : va_P (dC, dI) vwCl [(b_o, .inr (7, [.ref b_m, .ref b_r, .int 0, .int pc, .int tk, .int 0, .int 0, .int 0, .int 7, .int 0, .ref b_l, .int 0, .int 0, .int 0, .int 0, .int 0, .int 0, .int 0, .int 0, .int g, .ref b_d, .ref b_w, .ref b_c, .int 0, .ref b_q, .int 0, .int 0, .int 0, .ref b_s, .int th])), (b_r, .inl (j_r, 8, .inl (fun _ => 0)))] s.heap := hP
  have hl := lv_entry ([.ref b_o, .int 8, .int v]) (n := 3) (Nat.le_of_ble_eq_true rfl)
  rw [lg_entry_eq]
  generalize (lg_sl ([.ref b_o, .int 8, .int v]) ++ List.replicate (3 - (lg_sl ([.ref b_o, .int 8, .int v])).length) Slot.unset).toArray = ls at hl ⊢
  have hl : lv_has ls 3 [(0, .ref b_o), (1, .int 8), (2, .int v)] := hl
  refine lv_aload_n hx hb dX7_set_0 rfl (lv_at hl 0 rfl) ?_
  refine lv_iload_n hx hb dX7_set_1 rfl (lv_at hl 1 rfl) ?_
  refine lv_if_lt (tgt := 11) hx hb dX7_set_2 (by decide) (fun c_1 => absurd c_1 (by decide)) (fun c_1 => ?_)
  refine lv_iload_n hx hb dX7_set_5 rfl (lv_at hl 1 rfl) ?_
  refine lv_bipush (v := 9) hx hb dX7_set_6 (by decide) ?_
  refine lv_icmp_le (tgt := 15) hx hb dX7_set_8 (by decide) (fun c_2 => ?_) (fun c_2 => absurd c_2 (by decide))
  refine lv_iconst (v := 0) hx hb dX7_set_15 (by decide) ?_
  refine va_put (D := (dC, dI)) (ci := 7) (v := .int 0) (ty := .int) (C := RX7) (T := TX7) (N := 30) hx hb hts zx_7 tyX7 tyX7_ok nmX7 hown hK hP hD hS 0 rfl rfl 29 (by decide) (hts (.fieldLink RX7 39 "KeyboardKitModel" "thrown" "I") zw_749) (fun _ h9 => h9) rfl (by decide +kernel) rfl rfl (Nat.le_of_ble_eq_true rfl) dX7_set_16 (fun H locs hP hD hS => ?_)
  have hP : va_P (dC, dI) vwCl [(b_o, .inr (7, [.ref b_m, .ref b_r, .int 0, .int pc, .int tk, .int 0, .int 0, .int 0, .int 7, .int 0, .ref b_l, .int 0, .int 0, .int 0, .int 0, .int 0, .int 0, .int 0, .int 0, .int g, .ref b_d, .ref b_w, .ref b_c, .int 0, .ref b_q, .int 0, .int 0, .int 0, .ref b_s, .int 0])), (b_r, .inl (j_r, 8, .inl (fun _ => 0)))] H := hP
  have hD : va_D A [(b_o, .inr (7, [.ref b_m, .ref b_r, .int 0, .int pc, .int tk, .int 0, .int 0, .int 0, .int 7, .int 0, .ref b_l, .int 0, .int 0, .int 0, .int 0, .int 0, .int 0, .int 0, .int 0, .int g, .ref b_d, .ref b_w, .ref b_c, .int 0, .ref b_q, .int 0, .int 0, .int 0, .ref b_s, .int 0])), (b_r, .inl (j_r, 8, .inl (fun _ => 0)))] := hD
  refine lv_aload_n hx hb dX7_set_19 rfl (lv_at hl 0 rfl) ?_
  refine va_get (D := (dC, dI)) (ci := 7) (v := .int 0) (C := RX7) (T := TX7) (N := 30) hx hb hts zx_7 hown hK hP 0 rfl rfl 29 (by decide) (hts (.fieldLink RX7 39 "KeyboardKitModel" "thrown" "I") zw_749) (fun _ h9 => h9) rfl dX7_set_20 ?_
  refine lv_if_eq (tgt := 27) hx hb dX7_set_23 (by decide) (fun c_3 => ?_) (fun c_3 => absurd c_3 (by decide))
  refine lv_iload_n hx hb dX7_set_27 rfl (lv_at hl 1 rfl) ?_
  refine lv_bipush (v := 8) hx hb dX7_set_28 (by decide) ?_
  refine lv_icmp_ne (tgt := 44) hx hb dX7_set_30 (by decide) (fun c_4 => absurd c_4 (by decide)) (fun c_4 => ?_)
  refine lv_aload_n hx hb dX7_set_33 rfl (lv_at hl 0 rfl) ?_
  refine lv_iload_n hx hb dX7_set_34 rfl (lv_at hl 2 rfl) ?_
  refine lv_ldc (v := 65535) hx hb hown (hts (.constant RX7 52 (65535)) zw_843) dX7_set_35 ?_
  refine lv_iand hx hb dX7_set_37 ?_
  refine lv_topi (fun v_5 ev_5 => ?_)
  refine va_put (D := (dC, dI)) (ci := 7) (v := .int v_5) (ty := .int) (C := RX7) (T := TX7) (N := 30) hx hb hts zx_7 tyX7 tyX7_ok nmX7 hown hK hP hD hS 0 rfl rfl 2 (by decide) (hts (.fieldLink RX7 64 "KeyboardKitModel" "sp" "I") zw_722) (fun _ h9 => h9) rfl (by decide +kernel) rfl rfl (Nat.le_of_ble_eq_true rfl) dX7_set_38 (fun H locs hP hD hS => ?_)
  have hP : va_P (dC, dI) vwCl [(b_o, .inr (7, [.ref b_m, .ref b_r, .int v_5, .int pc, .int tk, .int 0, .int 0, .int 0, .int 7, .int 0, .ref b_l, .int 0, .int 0, .int 0, .int 0, .int 0, .int 0, .int 0, .int 0, .int g, .ref b_d, .ref b_w, .ref b_c, .int 0, .ref b_q, .int 0, .int 0, .int 0, .ref b_s, .int 0])), (b_r, .inl (j_r, 8, .inl (fun _ => 0)))] H := hP
  have hD : va_D A [(b_o, .inr (7, [.ref b_m, .ref b_r, .int v_5, .int pc, .int tk, .int 0, .int 0, .int 0, .int 7, .int 0, .ref b_l, .int 0, .int 0, .int 0, .int 0, .int 0, .int 0, .int 0, .int 0, .int g, .ref b_d, .ref b_w, .ref b_c, .int 0, .ref b_q, .int 0, .int 0, .int 0, .ref b_s, .int 0])), (b_r, .inl (j_r, 8, .inl (fun _ => 0)))] := hD
  refine lv_goto (tgt := 86) hx hb dX7_set_41 (by decide) ?_
  have hP9 := hP.sub (ws' := [(b_o, .inr (7, [.ref b_m, .ref b_r, .int v_5, .int pc, .int tk, .int 0, .int 0, .int 0, .int 7, .int 0, .ref b_l, .int 0, .int 0, .int 0, .int 0, .int 0, .int 0, .int 0, .int 0, .int g, .ref b_d, .ref b_w, .ref b_c, .int 0, .ref b_q, .int 0, .int 0, .int 0, .ref b_s, .int 0]))]) [0] rfl
  have hD9 := hD.sub (ws' := [(b_o, .inr (7, [.ref b_m, .ref b_r, .int v_5, .int pc, .int tk, .int 0, .int 0, .int 0, .int 7, .int 0, .ref b_l, .int 0, .int 0, .int 0, .int 0, .int 0, .int 0, .int 0, .int 0, .int g, .ref b_d, .ref b_w, .ref b_c, .int 0, .ref b_q, .int 0, .int 0, .int 0, .ref b_s, .int 0]))]) [0] (by decide) rfl
  have hK9 := hK.sub (tys' := [(j_r, .int)]) [0] rfl
  exact W.vret hx hb hr (fun t9 ht hW => ⟨⟨(fun k => match k with | 0 => v_5 | _ => pc), rfl, trivial, by rw [ht]; exact hP9, va_K.moved hW.alike hK9, hD9⟩, hS.F ht⟩) hS.2.2 dX7_set_86
set_option maxHeartbeats 4000000 in
set_option maxRecDepth 100000 in
theorem r_set9 (l : Launch) (dC : Nat → ClassId) (dI : Nat → Nat → Nat) (b_o : Nat) (b_m : Nat) (b_r : Nat) (b_l : Nat) (b_d : Nat) (b_w : Nat) (b_c : Nat) (b_q : Nat) (b_s : Nat) (j_r : ClassId) (pc : Int32) (tk : Int32) (g : Int32) (th : Int32) (v : Int32) (sz : Nat) : Met l yX7_set (zq yX7_set cX7_set 3 none) ({ frames := 0, cells := 0, slots := 0, locals := 0 }) (va_Pc [.ref b_o, .int 9, .int v] (zc_P (dC, dI) [(b_o, .inr (7, [.ref b_m, .ref b_r, .int 0, .int pc, .int tk, .int 0, .int 0, .int 0, .int 7, .int 0, .ref b_l, .int 0, .int 0, .int 0, .int 0, .int 0, .int 0, .int 0, .int 0, .int g, .ref b_d, .ref b_w, .ref b_c, .int 0, .ref b_q, .int 0, .int 0, .int 0, .ref b_s, .int th])), (b_r, .inl (j_r, 8, .inl (fun _ => 0)))] [(j_r, .int)] sz)) (va_Qv (fun _ => True) (fun (u : Nat → Int32) t9 => zc_B (dC, dI) (va_A [(b_o, .inr (7, [.ref b_m, .ref b_r, .int 0, .int pc, .int tk, .int 0, .int 0, .int 0, .int 7, .int 0, .ref b_l, .int 0, .int 0, .int 0, .int 0, .int 0, .int 0, .int 0, .int 0, .int g, .ref b_d, .ref b_w, .ref b_c, .int 0, .ref b_q, .int 0, .int 0, .int 0, .ref b_s, .int th])), (b_r, .inl (j_r, 8, .inl (fun _ => 0)))] sz) [(b_o, .inr (7, [.ref b_m, .ref b_r, .int (u 0), .int (u 1), .int tk, .int 0, .int 0, .int 0, .int 7, .int 0, .ref b_l, .int 0, .int 0, .int 0, .int 0, .int 0, .int 0, .int 0, .int 0, .int g, .ref b_d, .ref b_w, .ref b_c, .int 0, .ref b_q, .int 0, .int 0, .int 0, .ref b_s, .int 0]))] [(j_r, .int)] t9) (va_A [(b_o, .inr (7, [.ref b_m, .ref b_r, .int 0, .int pc, .int tk, .int 0, .int 0, .int 0, .int 7, .int 0, .ref b_l, .int 0, .int 0, .int 0, .int 0, .int 0, .int 0, .int 0, .int 0, .int g, .ref b_d, .ref b_w, .ref b_c, .int 0, .ref b_q, .int 0, .int 0, .int 0, .ref b_s, .int th])), (b_r, .inl (j_r, 8, .inl (fun _ => 0)))] sz)) 0 0 (va_A [(b_o, .inr (7, [.ref b_m, .ref b_r, .int 0, .int pc, .int tk, .int 0, .int 0, .int 0, .int 7, .int 0, .ref b_l, .int 0, .int 0, .int 0, .int 0, .int 0, .int 0, .int 0, .int 0, .int g, .ref b_d, .ref b_w, .ref b_c, .int 0, .ref b_q, .int 0, .int 0, .int 0, .ref b_s, .int th])), (b_r, .inl (j_r, 8, .inl (fun _ => 0)))] sz) := by
  refine Met.ofW (cc := cX7_set) (maxL := 3) (ret := none) (by decide) rfl ?_
  intro p e s m args below meth c s₁ B hml hv
  obtain ⟨rfl, hsz, hP, hK, hD0, hN⟩ := hv
  have hx := B.exec
  have hb := B.bytes
  have hr := B.returns
  have hts : ∀ w ∈ zw, w.before _ s = true := fun w h => atoms_spec (ws := (zq yX7_set cX7_set 3 none)) B.pre w (List.mem_cons_of_mem _ h)
  have hown : s.vm.findClass RX7 = some m.cls := findClass_of_methodNamed B.named
  have hlocks := B.notSynchronized
  subst hsz
  have hD := hD0.self (sz := s.heap.size)
  generalize hAe : va_A [(b_o, .inr (7, [.ref b_m, .ref b_r, .int 0, .int pc, .int tk, .int 0, .int 0, .int 0, .int 7, .int 0, .ref b_l, .int 0, .int 0, .int 0, .int 0, .int 0, .int 0, .int 0, .int 0, .int g, .ref b_d, .ref b_w, .ref b_c, .int 0, .ref b_q, .int 0, .int 0, .int 0, .ref b_s, .int th])), (b_r, .inl (j_r, 8, .inl (fun _ => 0)))] s.heap.size = A at hD ⊢
  have hA : ∀ q : Nat, s.heap.size ≤ q → A q := fun q h => by rw [← hAe]; exact Or.inr h
  have hS : va_S A s.heap s.heap [] := va_S.rf
  have hP : va_P (dC, dI) vwCl [(b_o, .inr (7, [.ref b_m, .ref b_r, .int 0, .int pc, .int tk, .int 0, .int 0, .int 0, .int 7, .int 0, .ref b_l, .int 0, .int 0, .int 0, .int 0, .int 0, .int 0, .int 0, .int 0, .int g, .ref b_d, .ref b_w, .ref b_c, .int 0, .ref b_q, .int 0, .int 0, .int 0, .ref b_s, .int th])), (b_r, .inl (j_r, 8, .inl (fun _ => 0)))] s.heap := hP
  have hl := lv_entry ([.ref b_o, .int 9, .int v]) (n := 3) (Nat.le_of_ble_eq_true rfl)
  rw [lg_entry_eq]
  generalize (lg_sl ([.ref b_o, .int 9, .int v]) ++ List.replicate (3 - (lg_sl ([.ref b_o, .int 9, .int v])).length) Slot.unset).toArray = ls at hl ⊢
  have hl : lv_has ls 3 [(0, .ref b_o), (1, .int 9), (2, .int v)] := hl
  refine lv_aload_n hx hb dX7_set_0 rfl (lv_at hl 0 rfl) ?_
  refine lv_iload_n hx hb dX7_set_1 rfl (lv_at hl 1 rfl) ?_
  refine lv_if_lt (tgt := 11) hx hb dX7_set_2 (by decide) (fun c_1 => absurd c_1 (by decide)) (fun c_1 => ?_)
  refine lv_iload_n hx hb dX7_set_5 rfl (lv_at hl 1 rfl) ?_
  refine lv_bipush (v := 9) hx hb dX7_set_6 (by decide) ?_
  refine lv_icmp_le (tgt := 15) hx hb dX7_set_8 (by decide) (fun c_2 => ?_) (fun c_2 => absurd c_2 (by decide))
  refine lv_iconst (v := 0) hx hb dX7_set_15 (by decide) ?_
  refine va_put (D := (dC, dI)) (ci := 7) (v := .int 0) (ty := .int) (C := RX7) (T := TX7) (N := 30) hx hb hts zx_7 tyX7 tyX7_ok nmX7 hown hK hP hD hS 0 rfl rfl 29 (by decide) (hts (.fieldLink RX7 39 "KeyboardKitModel" "thrown" "I") zw_749) (fun _ h9 => h9) rfl (by decide +kernel) rfl rfl (Nat.le_of_ble_eq_true rfl) dX7_set_16 (fun H locs hP hD hS => ?_)
  have hP : va_P (dC, dI) vwCl [(b_o, .inr (7, [.ref b_m, .ref b_r, .int 0, .int pc, .int tk, .int 0, .int 0, .int 0, .int 7, .int 0, .ref b_l, .int 0, .int 0, .int 0, .int 0, .int 0, .int 0, .int 0, .int 0, .int g, .ref b_d, .ref b_w, .ref b_c, .int 0, .ref b_q, .int 0, .int 0, .int 0, .ref b_s, .int 0])), (b_r, .inl (j_r, 8, .inl (fun _ => 0)))] H := hP
  have hD : va_D A [(b_o, .inr (7, [.ref b_m, .ref b_r, .int 0, .int pc, .int tk, .int 0, .int 0, .int 0, .int 7, .int 0, .ref b_l, .int 0, .int 0, .int 0, .int 0, .int 0, .int 0, .int 0, .int 0, .int g, .ref b_d, .ref b_w, .ref b_c, .int 0, .ref b_q, .int 0, .int 0, .int 0, .ref b_s, .int 0])), (b_r, .inl (j_r, 8, .inl (fun _ => 0)))] := hD
  refine lv_aload_n hx hb dX7_set_19 rfl (lv_at hl 0 rfl) ?_
  refine va_get (D := (dC, dI)) (ci := 7) (v := .int 0) (C := RX7) (T := TX7) (N := 30) hx hb hts zx_7 hown hK hP 0 rfl rfl 29 (by decide) (hts (.fieldLink RX7 39 "KeyboardKitModel" "thrown" "I") zw_749) (fun _ h9 => h9) rfl dX7_set_20 ?_
  refine lv_if_eq (tgt := 27) hx hb dX7_set_23 (by decide) (fun c_3 => ?_) (fun c_3 => absurd c_3 (by decide))
  refine lv_iload_n hx hb dX7_set_27 rfl (lv_at hl 1 rfl) ?_
  refine lv_bipush (v := 8) hx hb dX7_set_28 (by decide) ?_
  refine lv_icmp_ne (tgt := 44) hx hb dX7_set_30 (by decide) (fun c_4 => ?_) (fun c_4 => absurd c_4 (by decide))
  refine lv_iload_n hx hb dX7_set_44 rfl (lv_at hl 1 rfl) ?_
  refine lv_bipush (v := 9) hx hb dX7_set_45 (by decide) ?_
  refine lv_icmp_ne (tgt := 61) hx hb dX7_set_47 (by decide) (fun c_5 => absurd c_5 (by decide)) (fun c_5 => ?_)
  refine lv_aload_n hx hb dX7_set_50 rfl (lv_at hl 0 rfl) ?_
  refine lv_iload_n hx hb dX7_set_51 rfl (lv_at hl 2 rfl) ?_
  refine lv_ldc (v := 65535) hx hb hown (hts (.constant RX7 52 (65535)) zw_843) dX7_set_52 ?_
  refine lv_iand hx hb dX7_set_54 ?_
  refine lv_topi (fun v_6 ev_6 => ?_)
  refine va_put (D := (dC, dI)) (ci := 7) (v := .int v_6) (ty := .int) (C := RX7) (T := TX7) (N := 30) hx hb hts zx_7 tyX7 tyX7_ok nmX7 hown hK hP hD hS 0 rfl rfl 3 (by decide) (hts (.fieldLink RX7 45 "KeyboardKitModel" "pc" "I") zw_723) (fun _ h9 => h9) rfl (by decide +kernel) rfl rfl (Nat.le_of_ble_eq_true rfl) dX7_set_55 (fun H locs hP hD hS => ?_)
  have hP : va_P (dC, dI) vwCl [(b_o, .inr (7, [.ref b_m, .ref b_r, .int 0, .int v_6, .int tk, .int 0, .int 0, .int 0, .int 7, .int 0, .ref b_l, .int 0, .int 0, .int 0, .int 0, .int 0, .int 0, .int 0, .int 0, .int g, .ref b_d, .ref b_w, .ref b_c, .int 0, .ref b_q, .int 0, .int 0, .int 0, .ref b_s, .int 0])), (b_r, .inl (j_r, 8, .inl (fun _ => 0)))] H := hP
  have hD : va_D A [(b_o, .inr (7, [.ref b_m, .ref b_r, .int 0, .int v_6, .int tk, .int 0, .int 0, .int 0, .int 7, .int 0, .ref b_l, .int 0, .int 0, .int 0, .int 0, .int 0, .int 0, .int 0, .int 0, .int g, .ref b_d, .ref b_w, .ref b_c, .int 0, .ref b_q, .int 0, .int 0, .int 0, .ref b_s, .int 0])), (b_r, .inl (j_r, 8, .inl (fun _ => 0)))] := hD
  refine lv_goto (tgt := 86) hx hb dX7_set_58 (by decide) ?_
  have hP9 := hP.sub (ws' := [(b_o, .inr (7, [.ref b_m, .ref b_r, .int 0, .int v_6, .int tk, .int 0, .int 0, .int 0, .int 7, .int 0, .ref b_l, .int 0, .int 0, .int 0, .int 0, .int 0, .int 0, .int 0, .int 0, .int g, .ref b_d, .ref b_w, .ref b_c, .int 0, .ref b_q, .int 0, .int 0, .int 0, .ref b_s, .int 0]))]) [0] rfl
  have hD9 := hD.sub (ws' := [(b_o, .inr (7, [.ref b_m, .ref b_r, .int 0, .int v_6, .int tk, .int 0, .int 0, .int 0, .int 7, .int 0, .ref b_l, .int 0, .int 0, .int 0, .int 0, .int 0, .int 0, .int 0, .int 0, .int g, .ref b_d, .ref b_w, .ref b_c, .int 0, .ref b_q, .int 0, .int 0, .int 0, .ref b_s, .int 0]))]) [0] (by decide) rfl
  have hK9 := hK.sub (tys' := [(j_r, .int)]) [0] rfl
  exact W.vret hx hb hr (fun t9 ht hW => ⟨⟨(fun k => match k with | 0 => 0 | _ => v_6), rfl, trivial, by rw [ht]; exact hP9, va_K.moved hW.alike hK9, hD9⟩, hS.F ht⟩) hS.2.2 dX7_set_86
