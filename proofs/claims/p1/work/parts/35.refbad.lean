theorem dX7_about_0 : decode cX7_about 0 = .ok (.aload_n 0, 1) := by decide +kernel
theorem dX7_about_1 : decode cX7_about 1 = .ok (.iload_n 1, 1) := by decide +kernel
theorem dX7_about_11 : decode cX7_about 11 = .ok (.iconst 1, 1) := by decide +kernel
theorem dX7_about_12 : decode cX7_about 12 = .ok (.goto 4, 3) := by decide +kernel
theorem dX7_about_16 : decode cX7_about 16 = .ok (.putfield 39, 3) := by decide +kernel
theorem dX7_about_19 : decode cX7_about 19 = .ok (.aload_n 0, 1) := by decide +kernel
theorem dX7_about_2 : decode cX7_about 2 = .ok (.ifCond .lt 9, 3) := by decide +kernel
theorem dX7_about_20 : decode cX7_about 20 = .ok (.getfield 39, 3) := by decide +kernel
theorem dX7_about_23 : decode cX7_about 23 = .ok (.ifCond .eq 5, 3) := by decide +kernel
theorem dX7_about_26 : decode cX7_about 26 = .ok (.iconst 0, 1) := by decide +kernel
theorem dX7_about_27 : decode cX7_about 27 = .ok (.ireturn, 1) := by decide +kernel
theorem dX7_about_5 : decode cX7_about 5 = .ok (.iload_n 1, 1) := by decide +kernel
theorem dX7_about_6 : decode cX7_about 6 = .ok (.bipush 14, 2) := by decide +kernel
theorem dX7_about_8 : decode cX7_about 8 = .ok (.if_icmp .le 7, 3) := by decide +kernel
theorem dX7_key_0 : decode cX7_key 0 = .ok (.aload_n 0, 1) := by decide +kernel
theorem dX7_key_1 : decode cX7_key 1 = .ok (.iload_n 1, 1) := by decide +kernel
theorem dX7_key_11 : decode cX7_key 11 = .ok (.iconst 1, 1) := by decide +kernel
theorem dX7_key_12 : decode cX7_key 12 = .ok (.goto 4, 3) := by decide +kernel
theorem dX7_key_16 : decode cX7_key 16 = .ok (.putfield 39, 3) := by decide +kernel
theorem dX7_key_19 : decode cX7_key 19 = .ok (.aload_n 0, 1) := by decide +kernel
theorem dX7_key_2 : decode cX7_key 2 = .ok (.ifCond .lt 9, 3) := by decide +kernel
theorem dX7_key_20 : decode cX7_key 20 = .ok (.getfield 39, 3) := by decide +kernel
theorem dX7_key_23 : decode cX7_key 23 = .ok (.ifCond .eq 5, 3) := by decide +kernel
theorem dX7_key_26 : decode cX7_key 26 = .ok (.iconst 0, 1) := by decide +kernel
theorem dX7_key_27 : decode cX7_key 27 = .ok (.ireturn, 1) := by decide +kernel
theorem dX7_key_5 : decode cX7_key 5 = .ok (.iload_n 1, 1) := by decide +kernel
theorem dX7_key_6 : decode cX7_key 6 = .ok (.bipush 15, 2) := by decide +kernel
theorem dX7_key_8 : decode cX7_key 8 = .ok (.if_icmp .le 7, 3) := by decide +kernel
theorem dX7_line_0 : decode cX7_line 0 = .ok (.aload_n 0, 1) := by decide +kernel
theorem dX7_line_1 : decode cX7_line 1 = .ok (.iload_n 1, 1) := by decide +kernel
theorem dX7_line_10 : decode cX7_line 10 = .ok (.iconst 1, 1) := by decide +kernel
theorem dX7_line_11 : decode cX7_line 11 = .ok (.goto 4, 3) := by decide +kernel
theorem dX7_line_15 : decode cX7_line 15 = .ok (.putfield 39, 3) := by decide +kernel
theorem dX7_line_18 : decode cX7_line 18 = .ok (.aload_n 0, 1) := by decide +kernel
theorem dX7_line_19 : decode cX7_line 19 = .ok (.getfield 39, 3) := by decide +kernel
theorem dX7_line_2 : decode cX7_line 2 = .ok (.ifCond .lt 8, 3) := by decide +kernel
theorem dX7_line_22 : decode cX7_line 22 = .ok (.ifCond .eq 5, 3) := by decide +kernel
theorem dX7_line_25 : decode cX7_line 25 = .ok (.iconst 0, 1) := by decide +kernel
theorem dX7_line_26 : decode cX7_line 26 = .ok (.ireturn, 1) := by decide +kernel
theorem dX7_line_5 : decode cX7_line 5 = .ok (.iload_n 1, 1) := by decide +kernel
theorem dX7_line_6 : decode cX7_line 6 = .ok (.iconst 1, 1) := by decide +kernel
theorem dX7_line_7 : decode cX7_line 7 = .ok (.if_icmp .le 7, 3) := by decide +kernel
theorem dX7_set_0 : decode cX7_set 0 = .ok (.aload_n 0, 1) := by decide +kernel
theorem dX7_set_1 : decode cX7_set 1 = .ok (.iload_n 1, 1) := by decide +kernel
theorem dX7_set_11 : decode cX7_set 11 = .ok (.iconst 1, 1) := by decide +kernel
theorem dX7_set_12 : decode cX7_set 12 = .ok (.goto 4, 3) := by decide +kernel
theorem dX7_set_16 : decode cX7_set 16 = .ok (.putfield 39, 3) := by decide +kernel
theorem dX7_set_19 : decode cX7_set 19 = .ok (.aload_n 0, 1) := by decide +kernel
theorem dX7_set_2 : decode cX7_set 2 = .ok (.ifCond .lt 9, 3) := by decide +kernel
theorem dX7_set_20 : decode cX7_set 20 = .ok (.getfield 39, 3) := by decide +kernel
theorem dX7_set_23 : decode cX7_set 23 = .ok (.ifCond .eq 4, 3) := by decide +kernel
theorem dX7_set_26 : decode cX7_set 26 = .ok (.return_, 1) := by decide +kernel
theorem dX7_set_5 : decode cX7_set 5 = .ok (.iload_n 1, 1) := by decide +kernel
theorem dX7_set_6 : decode cX7_set 6 = .ok (.bipush 9, 2) := by decide +kernel
theorem dX7_set_8 : decode cX7_set 8 = .ok (.if_icmp .le 7, 3) := by decide +kernel
theorem dX7_shown_0 : decode cX7_shown 0 = .ok (.aload_n 0, 1) := by decide +kernel
theorem dX7_shown_1 : decode cX7_shown 1 = .ok (.iload_n 1, 1) := by decide +kernel
theorem dX7_shown_11 : decode cX7_shown 11 = .ok (.iconst 1, 1) := by decide +kernel
theorem dX7_shown_12 : decode cX7_shown 12 = .ok (.goto 4, 3) := by decide +kernel
theorem dX7_shown_16 : decode cX7_shown 16 = .ok (.putfield 39, 3) := by decide +kernel
theorem dX7_shown_19 : decode cX7_shown 19 = .ok (.aload_n 0, 1) := by decide +kernel
theorem dX7_shown_2 : decode cX7_shown 2 = .ok (.ifCond .lt 9, 3) := by decide +kernel
theorem dX7_shown_20 : decode cX7_shown 20 = .ok (.getfield 39, 3) := by decide +kernel
theorem dX7_shown_23 : decode cX7_shown 23 = .ok (.ifCond .ne 12, 3) := by decide +kernel
theorem dX7_shown_35 : decode cX7_shown 35 = .ok (.iconst 0, 1) := by decide +kernel
theorem dX7_shown_36 : decode cX7_shown 36 = .ok (.ireturn, 1) := by decide +kernel
theorem dX7_shown_5 : decode cX7_shown 5 = .ok (.iload_n 1, 1) := by decide +kernel
theorem dX7_shown_6 : decode cX7_shown 6 = .ok (.bipush 15, 2) := by decide +kernel
theorem dX7_shown_8 : decode cX7_shown 8 = .ok (.if_icmp .le 7, 3) := by decide +kernel
theorem dX7_steps_12 : decode cX7_steps 12 = .ok (.iconst 1, 1) := by decide +kernel
theorem dX7_steps_13 : decode cX7_steps 13 = .ok (.goto 4, 3) := by decide +kernel
set_option maxHeartbeats 4000000 in
set_option maxRecDepth 100000 in
theorem r_steps_neg (l : Launch) (dC : Nat → ClassId) (dI : Nat → Nat → Nat) (b_o : Nat) (b_m : Nat) (b_r : Nat) (b_l : Nat) (b_d : Nat) (b_w : Nat) (b_c : Nat) (b_q : Nat) (b_s : Nat) (pc : Int32) (tk : Int32) (g : Int32) (th : Int32) (n0 : Int32) (hb0 : n0 < 0) (hb2 : n0 ≤ 0) (sz : Nat) : Met l yX7_steps (zq yX7_steps cX7_steps 4 (some .int)) ({ frames := 0, cells := 0, slots := 0, locals := 0 }) (va_Pc [.ref b_o, .int n0] (zc_P (dC, dI) [(b_o, .inr (7, [.ref b_m, .ref b_r, .int 0, .int pc, .int tk, .int 0, .int 0, .int 0, .int 7, .int 0, .ref b_l, .int 0, .int 0, .int 0, .int 0, .int 0, .int 0, .int 0, .int 0, .int g, .ref b_d, .ref b_w, .ref b_c, .int 0, .ref b_q, .int 0, .int 0, .int 0, .ref b_s, .int th]))] [] sz)) (va_Qi (fun r _ => r = 0) (fun (u : Unit) t9 => zc_B (dC, dI) (va_A [(b_o, .inr (7, [.ref b_m, .ref b_r, .int 0, .int pc, .int tk, .int 0, .int 0, .int 0, .int 7, .int 0, .ref b_l, .int 0, .int 0, .int 0, .int 0, .int 0, .int 0, .int 0, .int 0, .int g, .ref b_d, .ref b_w, .ref b_c, .int 0, .ref b_q, .int 0, .int 0, .int 0, .ref b_s, .int th]))] sz) [(b_o, .inr (7, [.ref b_m, .ref b_r, .int 0, .int pc, .int tk, .int 0, .int 0, .int 0, .int 7, .int 0, .ref b_l, .int 0, .int 0, .int 0, .int 0, .int 0, .int 0, .int 0, .int 0, .int g, .ref b_d, .ref b_w, .ref b_c, .int 0, .ref b_q, .int 0, .int 0, .int 0, .ref b_s, .int 1]))] [] t9) (va_A [(b_o, .inr (7, [.ref b_m, .ref b_r, .int 0, .int pc, .int tk, .int 0, .int 0, .int 0, .int 7, .int 0, .ref b_l, .int 0, .int 0, .int 0, .int 0, .int 0, .int 0, .int 0, .int 0, .int g, .ref b_d, .ref b_w, .ref b_c, .int 0, .ref b_q, .int 0, .int 0, .int 0, .ref b_s, .int th]))] sz)) 0 0 (va_A [(b_o, .inr (7, [.ref b_m, .ref b_r, .int 0, .int pc, .int tk, .int 0, .int 0, .int 0, .int 7, .int 0, .ref b_l, .int 0, .int 0, .int 0, .int 0, .int 0, .int 0, .int 0, .int 0, .int g, .ref b_d, .ref b_w, .ref b_c, .int 0, .ref b_q, .int 0, .int 0, .int 0, .ref b_s, .int th]))] sz) := by
  refine Met.ofW (cc := cX7_steps) (maxL := 4) (ret := (some .int)) (by decide) rfl ?_
  intro p e s m args below meth c s₁ B hml hv
  obtain ⟨rfl, hsz, hP, hK, hD0, hN⟩ := hv
  have hx := B.exec
  have hb := B.bytes
  have hr := B.returns
  have hts : ∀ w ∈ zw, w.before _ s = true := fun w h => atoms_spec (ws := (zq yX7_steps cX7_steps 4 (some .int))) B.pre w (List.mem_cons_of_mem _ h)
  have hown : s.vm.findClass RX7 = some m.cls := findClass_of_methodNamed B.named
  have hlocks := B.notSynchronized
  subst hsz
  have hD := hD0.self (sz := s.heap.size)
  generalize hAe : va_A [(b_o, .inr (7, [.ref b_m, .ref b_r, .int 0, .int pc, .int tk, .int 0, .int 0, .int 0, .int 7, .int 0, .ref b_l, .int 0, .int 0, .int 0, .int 0, .int 0, .int 0, .int 0, .int 0, .int g, .ref b_d, .ref b_w, .ref b_c, .int 0, .ref b_q, .int 0, .int 0, .int 0, .ref b_s, .int th]))] s.heap.size = A at hD ⊢
  have hA : ∀ q : Nat, s.heap.size ≤ q → A q := fun q h => by rw [← hAe]; exact Or.inr h
  have hS : va_S A s.heap s.heap [] := va_S.rf
  have hP : va_P (dC, dI) vwCl [(b_o, .inr (7, [.ref b_m, .ref b_r, .int 0, .int pc, .int tk, .int 0, .int 0, .int 0, .int 7, .int 0, .ref b_l, .int 0, .int 0, .int 0, .int 0, .int 0, .int 0, .int 0, .int 0, .int g, .ref b_d, .ref b_w, .ref b_c, .int 0, .ref b_q, .int 0, .int 0, .int 0, .ref b_s, .int th]))] s.heap := hP
  have hl := lv_entry ([.ref b_o, .int n0]) (n := 4) (Nat.le_of_ble_eq_true rfl)
  rw [lg_entry_eq]
  generalize (lg_sl ([.ref b_o, .int n0]) ++ List.replicate (4 - (lg_sl ([.ref b_o, .int n0])).length) Slot.unset).toArray = ls at hl ⊢
  have hl : lv_has ls 4 [(0, .ref b_o), (1, .int n0)] := hl
  refine lv_aload_n hx hb dX7_steps_0 rfl (lv_at hl 0 rfl) ?_
  refine lv_iload_n hx hb dX7_steps_1 rfl (lv_at hl 1 rfl) ?_
  refine lv_if_lt (tgt := 12) hx hb dX7_steps_2 (by decide) (fun c_1 => ?_) (fun c_1 => absurd hb0 c_1)
  refine lv_iconst (v := 1) hx hb dX7_steps_12 (by decide) ?_
  refine lv_goto (tgt := 17) hx hb dX7_steps_13 (by decide) ?_
  refine va_put (D := (dC, dI)) (ci := 7) (v := .int 1) (ty := .int) (C := RX7) (T := TX7) (N := 30) hx hb hts zx_7 tyX7 tyX7_ok nmX7 hown hK hP hD hS 0 rfl rfl 29 (by decide) (hts (.fieldLink RX7 39 "KeyboardKitModel" "thrown" "I") zw_749) (fun _ h9 => h9) rfl (by decide +kernel) rfl rfl (Nat.le_of_ble_eq_true rfl) dX7_steps_17 (fun H locs hP hD hS => ?_)
  have hP : va_P (dC, dI) vwCl [(b_o, .inr (7, [.ref b_m, .ref b_r, .int 0, .int pc, .int tk, .int 0, .int 0, .int 0, .int 7, .int 0, .ref b_l, .int 0, .int 0, .int 0, .int 0, .int 0, .int 0, .int 0, .int 0, .int g, .ref b_d, .ref b_w, .ref b_c, .int 0, .ref b_q, .int 0, .int 0, .int 0, .ref b_s, .int 1]))] H := hP
  have hD : va_D A [(b_o, .inr (7, [.ref b_m, .ref b_r, .int 0, .int pc, .int tk, .int 0, .int 0, .int 0, .int 7, .int 0, .ref b_l, .int 0, .int 0, .int 0, .int 0, .int 0, .int 0, .int 0, .int 0, .int g, .ref b_d, .ref b_w, .ref b_c, .int 0, .ref b_q, .int 0, .int 0, .int 0, .ref b_s, .int 1]))] := hD
  refine lv_iconst (v := 0) hx hb dX7_steps_20 (by decide) ?_
  refine lv_istore_n (lv' := [(2, .int 0), (0, .ref b_o), (1, .int n0)]) hx hb dX7_steps_21 rfl hl (by decide) rfl (fun ls hl => ?_)
  refine lv_iconst (v := 0) hx hb dX7_steps_22 (by decide) ?_
  refine lv_istore_n (lv' := [(3, .int 0), (2, .int 0), (0, .ref b_o), (1, .int n0)]) hx hb dX7_steps_23 rfl hl (by decide) rfl (fun ls hl => ?_)
  refine lv_iload_n hx hb dX7_steps_24 rfl (lv_at hl 0 rfl) ?_
  refine lv_iload_n hx hb dX7_steps_25 rfl (lv_at hl 3 rfl) ?_
  refine lv_icmp_ge (tgt := 49) hx hb dX7_steps_26 (by decide) (fun c_2 => ?_) (fun c_2 => absurd hb2 c_2)
  refine lv_iload_n hx hb dX7_steps_49 rfl (lv_at hl 1 rfl) ?_
  have hP9 := hP.sub (ws' := [(b_o, .inr (7, [.ref b_m, .ref b_r, .int 0, .int pc, .int tk, .int 0, .int 0, .int 0, .int 7, .int 0, .ref b_l, .int 0, .int 0, .int 0, .int 0, .int 0, .int 0, .int 0, .int 0, .int g, .ref b_d, .ref b_w, .ref b_c, .int 0, .ref b_q, .int 0, .int 0, .int 0, .ref b_s, .int 1]))]) [0] rfl
  have hD9 := hD.sub (ws' := [(b_o, .inr (7, [.ref b_m, .ref b_r, .int 0, .int pc, .int tk, .int 0, .int 0, .int 0, .int 7, .int 0, .ref b_l, .int 0, .int 0, .int 0, .int 0, .int 0, .int 0, .int 0, .int 0, .int g, .ref b_d, .ref b_w, .ref b_c, .int 0, .ref b_q, .int 0, .int 0, .int 0, .ref b_s, .int 1]))]) [0] (by decide) rfl
  have hK9 := hK.sub (tys' := []) [] rfl
  exact W.iret (v := 0) hx hb hr (fun t9 ht hW => ⟨⟨0, (), rfl, rfl, by rw [ht]; exact hP9, va_K.moved hW.alike hK9, hD9⟩, hS.F ht⟩) hS.2.2 dX7_steps_50
set_option maxHeartbeats 4000000 in
set_option maxRecDepth 100000 in
theorem r_steps_big (l : Launch) (dC : Nat → ClassId) (dI : Nat → Nat → Nat) (b_o : Nat) (b_m : Nat) (b_r : Nat) (b_l : Nat) (b_d : Nat) (b_w : Nat) (b_c : Nat) (b_q : Nat) (b_s : Nat) (pc : Int32) (tk : Int32) (g : Int32) (th : Int32) (n0 : Int32) (hb0 : ¬ n0 < 0) (hb1 : ¬ n0 ≤ 200) (hb2 : ¬ n0 ≤ 0) (sz : Nat) : Met l yX7_steps (zq yX7_steps cX7_steps 4 (some .int)) ({ frames := 0, cells := 0, slots := 0, locals := 0 }) (va_Pc [.ref b_o, .int n0] (zc_P (dC, dI) [(b_o, .inr (7, [.ref b_m, .ref b_r, .int 0, .int pc, .int tk, .int 0, .int 0, .int 0, .int 7, .int 0, .ref b_l, .int 0, .int 0, .int 0, .int 0, .int 0, .int 0, .int 0, .int 0, .int g, .ref b_d, .ref b_w, .ref b_c, .int 0, .ref b_q, .int 0, .int 0, .int 0, .ref b_s, .int th]))] [] sz)) (va_Qi (fun r _ => r = 0) (fun (u : Unit) t9 => zc_B (dC, dI) (va_A [(b_o, .inr (7, [.ref b_m, .ref b_r, .int 0, .int pc, .int tk, .int 0, .int 0, .int 0, .int 7, .int 0, .ref b_l, .int 0, .int 0, .int 0, .int 0, .int 0, .int 0, .int 0, .int 0, .int g, .ref b_d, .ref b_w, .ref b_c, .int 0, .ref b_q, .int 0, .int 0, .int 0, .ref b_s, .int th]))] sz) [(b_o, .inr (7, [.ref b_m, .ref b_r, .int 0, .int pc, .int tk, .int 0, .int 0, .int 0, .int 7, .int 0, .ref b_l, .int 0, .int 0, .int 0, .int 0, .int 0, .int 0, .int 0, .int 0, .int g, .ref b_d, .ref b_w, .ref b_c, .int 0, .ref b_q, .int 0, .int 0, .int 0, .ref b_s, .int 1]))] [] t9) (va_A [(b_o, .inr (7, [.ref b_m, .ref b_r, .int 0, .int pc, .int tk, .int 0, .int 0, .int 0, .int 7, .int 0, .ref b_l, .int 0, .int 0, .int 0, .int 0, .int 0, .int 0, .int 0, .int 0, .int g, .ref b_d, .ref b_w, .ref b_c, .int 0, .ref b_q, .int 0, .int 0, .int 0, .ref b_s, .int th]))] sz)) 0 0 (va_A [(b_o, .inr (7, [.ref b_m, .ref b_r, .int 0, .int pc, .int tk, .int 0, .int 0, .int 0, .int 7, .int 0, .ref b_l, .int 0, .int 0, .int 0, .int 0, .int 0, .int 0, .int 0, .int 0, .int g, .ref b_d, .ref b_w, .ref b_c, .int 0, .ref b_q, .int 0, .int 0, .int 0, .ref b_s, .int th]))] sz) := by
  refine Met.ofW (cc := cX7_steps) (maxL := 4) (ret := (some .int)) (by decide) rfl ?_
  intro p e s m args below meth c s₁ B hml hv
  obtain ⟨rfl, hsz, hP, hK, hD0, hN⟩ := hv
  have hx := B.exec
  have hb := B.bytes
  have hr := B.returns
  have hts : ∀ w ∈ zw, w.before _ s = true := fun w h => atoms_spec (ws := (zq yX7_steps cX7_steps 4 (some .int))) B.pre w (List.mem_cons_of_mem _ h)
  have hown : s.vm.findClass RX7 = some m.cls := findClass_of_methodNamed B.named
  have hlocks := B.notSynchronized
  subst hsz
  have hD := hD0.self (sz := s.heap.size)
  generalize hAe : va_A [(b_o, .inr (7, [.ref b_m, .ref b_r, .int 0, .int pc, .int tk, .int 0, .int 0, .int 0, .int 7, .int 0, .ref b_l, .int 0, .int 0, .int 0, .int 0, .int 0, .int 0, .int 0, .int 0, .int g, .ref b_d, .ref b_w, .ref b_c, .int 0, .ref b_q, .int 0, .int 0, .int 0, .ref b_s, .int th]))] s.heap.size = A at hD ⊢
  have hA : ∀ q : Nat, s.heap.size ≤ q → A q := fun q h => by rw [← hAe]; exact Or.inr h
  have hS : va_S A s.heap s.heap [] := va_S.rf
  have hP : va_P (dC, dI) vwCl [(b_o, .inr (7, [.ref b_m, .ref b_r, .int 0, .int pc, .int tk, .int 0, .int 0, .int 0, .int 7, .int 0, .ref b_l, .int 0, .int 0, .int 0, .int 0, .int 0, .int 0, .int 0, .int 0, .int g, .ref b_d, .ref b_w, .ref b_c, .int 0, .ref b_q, .int 0, .int 0, .int 0, .ref b_s, .int th]))] s.heap := hP
  have hl := lv_entry ([.ref b_o, .int n0]) (n := 4) (Nat.le_of_ble_eq_true rfl)
  rw [lg_entry_eq]
  generalize (lg_sl ([.ref b_o, .int n0]) ++ List.replicate (4 - (lg_sl ([.ref b_o, .int n0])).length) Slot.unset).toArray = ls at hl ⊢
  have hl : lv_has ls 4 [(0, .ref b_o), (1, .int n0)] := hl
  refine lv_aload_n hx hb dX7_steps_0 rfl (lv_at hl 0 rfl) ?_
  refine lv_iload_n hx hb dX7_steps_1 rfl (lv_at hl 1 rfl) ?_
  refine lv_if_lt (tgt := 12) hx hb dX7_steps_2 (by decide) (fun c_1 => absurd c_1 hb0) (fun c_1 => ?_)
  refine lv_iload_n hx hb dX7_steps_5 rfl (lv_at hl 1 rfl) ?_
  refine lv_sipush (v := 200) hx hb dX7_steps_6 (by decide) ?_
  refine lv_icmp_le (tgt := 16) hx hb dX7_steps_9 (by decide) (fun c_2 => absurd c_2 hb1) (fun c_2 => ?_)
  refine lv_iconst (v := 1) hx hb dX7_steps_12 (by decide) ?_
  refine lv_goto (tgt := 17) hx hb dX7_steps_13 (by decide) ?_
  refine va_put (D := (dC, dI)) (ci := 7) (v := .int 1) (ty := .int) (C := RX7) (T := TX7) (N := 30) hx hb hts zx_7 tyX7 tyX7_ok nmX7 hown hK hP hD hS 0 rfl rfl 29 (by decide) (hts (.fieldLink RX7 39 "KeyboardKitModel" "thrown" "I") zw_749) (fun _ h9 => h9) rfl (by decide +kernel) rfl rfl (Nat.le_of_ble_eq_true rfl) dX7_steps_17 (fun H locs hP hD hS => ?_)
  have hP : va_P (dC, dI) vwCl [(b_o, .inr (7, [.ref b_m, .ref b_r, .int 0, .int pc, .int tk, .int 0, .int 0, .int 0, .int 7, .int 0, .ref b_l, .int 0, .int 0, .int 0, .int 0, .int 0, .int 0, .int 0, .int 0, .int g, .ref b_d, .ref b_w, .ref b_c, .int 0, .ref b_q, .int 0, .int 0, .int 0, .ref b_s, .int 1]))] H := hP
  have hD : va_D A [(b_o, .inr (7, [.ref b_m, .ref b_r, .int 0, .int pc, .int tk, .int 0, .int 0, .int 0, .int 7, .int 0, .ref b_l, .int 0, .int 0, .int 0, .int 0, .int 0, .int 0, .int 0, .int 0, .int g, .ref b_d, .ref b_w, .ref b_c, .int 0, .ref b_q, .int 0, .int 0, .int 0, .ref b_s, .int 1]))] := hD
  refine lv_iconst (v := 0) hx hb dX7_steps_20 (by decide) ?_
  refine lv_istore_n (lv' := [(2, .int 0), (0, .ref b_o), (1, .int n0)]) hx hb dX7_steps_21 rfl hl (by decide) rfl (fun ls hl => ?_)
  refine lv_iconst (v := 0) hx hb dX7_steps_22 (by decide) ?_
  refine lv_istore_n (lv' := [(3, .int 0), (2, .int 0), (0, .ref b_o), (1, .int n0)]) hx hb dX7_steps_23 rfl hl (by decide) rfl (fun ls hl => ?_)
  refine lv_iload_n hx hb dX7_steps_24 rfl (lv_at hl 0 rfl) ?_
  refine lv_iload_n hx hb dX7_steps_25 rfl (lv_at hl 3 rfl) ?_
  refine lv_icmp_ge (tgt := 49) hx hb dX7_steps_26 (by decide) (fun c_3 => absurd c_3 hb2) (fun c_3 => ?_)
  refine lv_aload_n hx hb dX7_steps_29 rfl (lv_at hl 2 rfl) ?_
  refine va_get (D := (dC, dI)) (ci := 7) (v := .int 1) (C := RX7) (T := TX7) (N := 30) hx hb hts zx_7 hown hK hP 0 rfl rfl 29 (by decide) (hts (.fieldLink RX7 39 "KeyboardKitModel" "thrown" "I") zw_749) (fun _ h9 => h9) rfl dX7_steps_30 ?_
  refine lv_if_ne (tgt := 49) hx hb dX7_steps_33 (by decide) (fun c_4 => ?_) (fun c_4 => absurd c_4 (by decide))
  refine lv_iload_n hx hb dX7_steps_49 rfl (lv_at hl 1 rfl) ?_
  have hP9 := hP.sub (ws' := [(b_o, .inr (7, [.ref b_m, .ref b_r, .int 0, .int pc, .int tk, .int 0, .int 0, .int 0, .int 7, .int 0, .ref b_l, .int 0, .int 0, .int 0, .int 0, .int 0, .int 0, .int 0, .int 0, .int g, .ref b_d, .ref b_w, .ref b_c, .int 0, .ref b_q, .int 0, .int 0, .int 0, .ref b_s, .int 1]))]) [0] rfl
  have hD9 := hD.sub (ws' := [(b_o, .inr (7, [.ref b_m, .ref b_r, .int 0, .int pc, .int tk, .int 0, .int 0, .int 0, .int 7, .int 0, .ref b_l, .int 0, .int 0, .int 0, .int 0, .int 0, .int 0, .int 0, .int 0, .int g, .ref b_d, .ref b_w, .ref b_c, .int 0, .ref b_q, .int 0, .int 0, .int 0, .ref b_s, .int 1]))]) [0] (by decide) rfl
  have hK9 := hK.sub (tys' := []) [] rfl
  exact W.iret (v := 0) hx hb hr (fun t9 ht hW => ⟨⟨0, (), rfl, rfl, by rw [ht]; exact hP9, va_K.moved hW.alike hK9, hD9⟩, hS.F ht⟩) hS.2.2 dX7_steps_50
set_option maxHeartbeats 4000000 in
set_option maxRecDepth 100000 in
theorem r_key_neg (l : Launch) (dC : Nat → ClassId) (dI : Nat → Nat → Nat) (b_o : Nat) (b_m : Nat) (b_r : Nat) (b_l : Nat) (b_d : Nat) (b_w : Nat) (b_c : Nat) (b_q : Nat) (b_s : Nat) (pc : Int32) (tk : Int32) (g : Int32) (th : Int32) (k : Int32) (b : Int32) (hb0 : k < 0) (sz : Nat) : Met l yX7_key (zq yX7_key cX7_key 4 (some .boolean)) ({ frames := 0, cells := 0, slots := 0, locals := 0 }) (va_Pc [.ref b_o, .int k, .int b] (zc_P (dC, dI) [(b_o, .inr (7, [.ref b_m, .ref b_r, .int 0, .int pc, .int tk, .int 0, .int 0, .int 0, .int 7, .int 0, .ref b_l, .int 0, .int 0, .int 0, .int 0, .int 0, .int 0, .int 0, .int 0, .int g, .ref b_d, .ref b_w, .ref b_c, .int 0, .ref b_q, .int 0, .int 0, .int 0, .ref b_s, .int th]))] [] sz)) (va_Qi (fun r _ => r = 0) (fun (u : Unit) t9 => zc_B (dC, dI) (va_A [(b_o, .inr (7, [.ref b_m, .ref b_r, .int 0, .int pc, .int tk, .int 0, .int 0, .int 0, .int 7, .int 0, .ref b_l, .int 0, .int 0, .int 0, .int 0, .int 0, .int 0, .int 0, .int 0, .int g, .ref b_d, .ref b_w, .ref b_c, .int 0, .ref b_q, .int 0, .int 0, .int 0, .ref b_s, .int th]))] sz) [(b_o, .inr (7, [.ref b_m, .ref b_r, .int 0, .int pc, .int tk, .int 0, .int 0, .int 0, .int 7, .int 0, .ref b_l, .int 0, .int 0, .int 0, .int 0, .int 0, .int 0, .int 0, .int 0, .int g, .ref b_d, .ref b_w, .ref b_c, .int 0, .ref b_q, .int 0, .int 0, .int 0, .ref b_s, .int 1]))] [] t9) (va_A [(b_o, .inr (7, [.ref b_m, .ref b_r, .int 0, .int pc, .int tk, .int 0, .int 0, .int 0, .int 7, .int 0, .ref b_l, .int 0, .int 0, .int 0, .int 0, .int 0, .int 0, .int 0, .int 0, .int g, .ref b_d, .ref b_w, .ref b_c, .int 0, .ref b_q, .int 0, .int 0, .int 0, .ref b_s, .int th]))] sz)) 0 0 (va_A [(b_o, .inr (7, [.ref b_m, .ref b_r, .int 0, .int pc, .int tk, .int 0, .int 0, .int 0, .int 7, .int 0, .ref b_l, .int 0, .int 0, .int 0, .int 0, .int 0, .int 0, .int 0, .int 0, .int g, .ref b_d, .ref b_w, .ref b_c, .int 0, .ref b_q, .int 0, .int 0, .int 0, .ref b_s, .int th]))] sz) := by
  refine Met.ofW (cc := cX7_key) (maxL := 4) (ret := (some .boolean)) (by decide) rfl ?_
  intro p e s m args below meth c s₁ B hml hv
  obtain ⟨rfl, hsz, hP, hK, hD0, hN⟩ := hv
  have hx := B.exec
  have hb := B.bytes
  have hr := B.returns
  have hts : ∀ w ∈ zw, w.before _ s = true := fun w h => atoms_spec (ws := (zq yX7_key cX7_key 4 (some .boolean))) B.pre w (List.mem_cons_of_mem _ h)
  have hown : s.vm.findClass RX7 = some m.cls := findClass_of_methodNamed B.named
  have hlocks := B.notSynchronized
  subst hsz
  have hD := hD0.self (sz := s.heap.size)
  generalize hAe : va_A [(b_o, .inr (7, [.ref b_m, .ref b_r, .int 0, .int pc, .int tk, .int 0, .int 0, .int 0, .int 7, .int 0, .ref b_l, .int 0, .int 0, .int 0, .int 0, .int 0, .int 0, .int 0, .int 0, .int g, .ref b_d, .ref b_w, .ref b_c, .int 0, .ref b_q, .int 0, .int 0, .int 0, .ref b_s, .int th]))] s.heap.size = A at hD ⊢
  have hA : ∀ q : Nat, s.heap.size ≤ q → A q := fun q h => by rw [← hAe]; exact Or.inr h
  have hS : va_S A s.heap s.heap [] := va_S.rf
  have hP : va_P (dC, dI) vwCl [(b_o, .inr (7, [.ref b_m, .ref b_r, .int 0, .int pc, .int tk, .int 0, .int 0, .int 0, .int 7, .int 0, .ref b_l, .int 0, .int 0, .int 0, .int 0, .int 0, .int 0, .int 0, .int 0, .int g, .ref b_d, .ref b_w, .ref b_c, .int 0, .ref b_q, .int 0, .int 0, .int 0, .ref b_s, .int th]))] s.heap := hP
  have hl := lv_entry ([.ref b_o, .int k, .int b]) (n := 4) (Nat.le_of_ble_eq_true rfl)
  rw [lg_entry_eq]
  generalize (lg_sl ([.ref b_o, .int k, .int b]) ++ List.replicate (4 - (lg_sl ([.ref b_o, .int k, .int b])).length) Slot.unset).toArray = ls at hl ⊢
  have hl : lv_has ls 4 [(0, .ref b_o), (1, .int k), (2, .int b)] := hl
  refine lv_aload_n hx hb dX7_key_0 rfl (lv_at hl 0 rfl) ?_
  refine lv_iload_n hx hb dX7_key_1 rfl (lv_at hl 1 rfl) ?_
  refine lv_if_lt (tgt := 11) hx hb dX7_key_2 (by decide) (fun c_1 => ?_) (fun c_1 => absurd hb0 c_1)
  refine lv_iconst (v := 1) hx hb dX7_key_11 (by decide) ?_
  refine lv_goto (tgt := 16) hx hb dX7_key_12 (by decide) ?_
  refine va_put (D := (dC, dI)) (ci := 7) (v := .int 1) (ty := .int) (C := RX7) (T := TX7) (N := 30) hx hb hts zx_7 tyX7 tyX7_ok nmX7 hown hK hP hD hS 0 rfl rfl 29 (by decide) (hts (.fieldLink RX7 39 "KeyboardKitModel" "thrown" "I") zw_749) (fun _ h9 => h9) rfl (by decide +kernel) rfl rfl (Nat.le_of_ble_eq_true rfl) dX7_key_16 (fun H locs hP hD hS => ?_)
  have hP : va_P (dC, dI) vwCl [(b_o, .inr (7, [.ref b_m, .ref b_r, .int 0, .int pc, .int tk, .int 0, .int 0, .int 0, .int 7, .int 0, .ref b_l, .int 0, .int 0, .int 0, .int 0, .int 0, .int 0, .int 0, .int 0, .int g, .ref b_d, .ref b_w, .ref b_c, .int 0, .ref b_q, .int 0, .int 0, .int 0, .ref b_s, .int 1]))] H := hP
  have hD : va_D A [(b_o, .inr (7, [.ref b_m, .ref b_r, .int 0, .int pc, .int tk, .int 0, .int 0, .int 0, .int 7, .int 0, .ref b_l, .int 0, .int 0, .int 0, .int 0, .int 0, .int 0, .int 0, .int 0, .int g, .ref b_d, .ref b_w, .ref b_c, .int 0, .ref b_q, .int 0, .int 0, .int 0, .ref b_s, .int 1]))] := hD
  refine lv_aload_n hx hb dX7_key_19 rfl (lv_at hl 0 rfl) ?_
  refine va_get (D := (dC, dI)) (ci := 7) (v := .int 1) (C := RX7) (T := TX7) (N := 30) hx hb hts zx_7 hown hK hP 0 rfl rfl 29 (by decide) (hts (.fieldLink RX7 39 "KeyboardKitModel" "thrown" "I") zw_749) (fun _ h9 => h9) rfl dX7_key_20 ?_
  refine lv_if_eq (tgt := 28) hx hb dX7_key_23 (by decide) (fun c_2 => absurd c_2 (by decide)) (fun c_2 => ?_)
  refine lv_iconst (v := 0) hx hb dX7_key_26 (by decide) ?_
  have hP9 := hP.sub (ws' := [(b_o, .inr (7, [.ref b_m, .ref b_r, .int 0, .int pc, .int tk, .int 0, .int 0, .int 0, .int 7, .int 0, .ref b_l, .int 0, .int 0, .int 0, .int 0, .int 0, .int 0, .int 0, .int 0, .int g, .ref b_d, .ref b_w, .ref b_c, .int 0, .ref b_q, .int 0, .int 0, .int 0, .ref b_s, .int 1]))]) [0] rfl
  have hD9 := hD.sub (ws' := [(b_o, .inr (7, [.ref b_m, .ref b_r, .int 0, .int pc, .int tk, .int 0, .int 0, .int 0, .int 7, .int 0, .ref b_l, .int 0, .int 0, .int 0, .int 0, .int 0, .int 0, .int 0, .int 0, .int g, .ref b_d, .ref b_w, .ref b_c, .int 0, .ref b_q, .int 0, .int 0, .int 0, .ref b_s, .int 1]))]) [0] (by decide) rfl
  have hK9 := hK.sub (tys' := []) [] rfl
  exact W.zret (v := 0) hx hb hr rfl (fun t9 ht hW => ⟨⟨0, (), rfl, rfl, by rw [ht]; exact hP9, va_K.moved hW.alike hK9, hD9⟩, hS.F ht⟩) hS.2.2 dX7_key_27
set_option maxHeartbeats 4000000 in
set_option maxRecDepth 100000 in
theorem r_key_big (l : Launch) (dC : Nat → ClassId) (dI : Nat → Nat → Nat) (b_o : Nat) (b_m : Nat) (b_r : Nat) (b_l : Nat) (b_d : Nat) (b_w : Nat) (b_c : Nat) (b_q : Nat) (b_s : Nat) (pc : Int32) (tk : Int32) (g : Int32) (th : Int32) (k : Int32) (b : Int32) (hb0 : ¬ k < 0) (hb1 : ¬ k ≤ 15) (sz : Nat) : Met l yX7_key (zq yX7_key cX7_key 4 (some .boolean)) ({ frames := 0, cells := 0, slots := 0, locals := 0 }) (va_Pc [.ref b_o, .int k, .int b] (zc_P (dC, dI) [(b_o, .inr (7, [.ref b_m, .ref b_r, .int 0, .int pc, .int tk, .int 0, .int 0, .int 0, .int 7, .int 0, .ref b_l, .int 0, .int 0, .int 0, .int 0, .int 0, .int 0, .int 0, .int 0, .int g, .ref b_d, .ref b_w, .ref b_c, .int 0, .ref b_q, .int 0, .int 0, .int 0, .ref b_s, .int th]))] [] sz)) (va_Qi (fun r _ => r = 0) (fun (u : Unit) t9 => zc_B (dC, dI) (va_A [(b_o, .inr (7, [.ref b_m, .ref b_r, .int 0, .int pc, .int tk, .int 0, .int 0, .int 0, .int 7, .int 0, .ref b_l, .int 0, .int 0, .int 0, .int 0, .int 0, .int 0, .int 0, .int 0, .int g, .ref b_d, .ref b_w, .ref b_c, .int 0, .ref b_q, .int 0, .int 0, .int 0, .ref b_s, .int th]))] sz) [(b_o, .inr (7, [.ref b_m, .ref b_r, .int 0, .int pc, .int tk, .int 0, .int 0, .int 0, .int 7, .int 0, .ref b_l, .int 0, .int 0, .int 0, .int 0, .int 0, .int 0, .int 0, .int 0, .int g, .ref b_d, .ref b_w, .ref b_c, .int 0, .ref b_q, .int 0, .int 0, .int 0, .ref b_s, .int 1]))] [] t9) (va_A [(b_o, .inr (7, [.ref b_m, .ref b_r, .int 0, .int pc, .int tk, .int 0, .int 0, .int 0, .int 7, .int 0, .ref b_l, .int 0, .int 0, .int 0, .int 0, .int 0, .int 0, .int 0, .int 0, .int g, .ref b_d, .ref b_w, .ref b_c, .int 0, .ref b_q, .int 0, .int 0, .int 0, .ref b_s, .int th]))] sz)) 0 0 (va_A [(b_o, .inr (7, [.ref b_m, .ref b_r, .int 0, .int pc, .int tk, .int 0, .int 0, .int 0, .int 7, .int 0, .ref b_l, .int 0, .int 0, .int 0, .int 0, .int 0, .int 0, .int 0, .int 0, .int g, .ref b_d, .ref b_w, .ref b_c, .int 0, .ref b_q, .int 0, .int 0, .int 0, .ref b_s, .int th]))] sz) := by
  refine Met.ofW (cc := cX7_key) (maxL := 4) (ret := (some .boolean)) (by decide) rfl ?_
  intro p e s m args below meth c s₁ B hml hv
  obtain ⟨rfl, hsz, hP, hK, hD0, hN⟩ := hv
  have hx := B.exec
  have hb := B.bytes
  have hr := B.returns
  have hts : ∀ w ∈ zw, w.before _ s = true := fun w h => atoms_spec (ws := (zq yX7_key cX7_key 4 (some .boolean))) B.pre w (List.mem_cons_of_mem _ h)
  have hown : s.vm.findClass RX7 = some m.cls := findClass_of_methodNamed B.named
  have hlocks := B.notSynchronized
  subst hsz
  have hD := hD0.self (sz := s.heap.size)
  generalize hAe : va_A [(b_o, .inr (7, [.ref b_m, .ref b_r, .int 0, .int pc, .int tk, .int 0, .int 0, .int 0, .int 7, .int 0, .ref b_l, .int 0, .int 0, .int 0, .int 0, .int 0, .int 0, .int 0, .int 0, .int g, .ref b_d, .ref b_w, .ref b_c, .int 0, .ref b_q, .int 0, .int 0, .int 0, .ref b_s, .int th]))] s.heap.size = A at hD ⊢
  have hA : ∀ q : Nat, s.heap.size ≤ q → A q := fun q h => by rw [← hAe]; exact Or.inr h
  have hS : va_S A s.heap s.heap [] := va_S.rf
  have hP : va_P (dC, dI) vwCl [(b_o, .inr (7, [.ref b_m, .ref b_r, .int 0, .int pc, .int tk, .int 0, .int 0, .int 0, .int 7, .int 0, .ref b_l, .int 0, .int 0, .int 0, .int 0, .int 0, .int 0, .int 0, .int 0, .int g, .ref b_d, .ref b_w, .ref b_c, .int 0, .ref b_q, .int 0, .int 0, .int 0, .ref b_s, .int th]))] s.heap := hP
  have hl := lv_entry ([.ref b_o, .int k, .int b]) (n := 4) (Nat.le_of_ble_eq_true rfl)
  rw [lg_entry_eq]
  generalize (lg_sl ([.ref b_o, .int k, .int b]) ++ List.replicate (4 - (lg_sl ([.ref b_o, .int k, .int b])).length) Slot.unset).toArray = ls at hl ⊢
  have hl : lv_has ls 4 [(0, .ref b_o), (1, .int k), (2, .int b)] := hl
  refine lv_aload_n hx hb dX7_key_0 rfl (lv_at hl 0 rfl) ?_
  refine lv_iload_n hx hb dX7_key_1 rfl (lv_at hl 1 rfl) ?_
  refine lv_if_lt (tgt := 11) hx hb dX7_key_2 (by decide) (fun c_1 => absurd c_1 hb0) (fun c_1 => ?_)
  refine lv_iload_n hx hb dX7_key_5 rfl (lv_at hl 1 rfl) ?_
  refine lv_bipush (v := 15) hx hb dX7_key_6 (by decide) ?_
  refine lv_icmp_le (tgt := 15) hx hb dX7_key_8 (by decide) (fun c_2 => absurd c_2 hb1) (fun c_2 => ?_)
  refine lv_iconst (v := 1) hx hb dX7_key_11 (by decide) ?_
  refine lv_goto (tgt := 16) hx hb dX7_key_12 (by decide) ?_
  refine va_put (D := (dC, dI)) (ci := 7) (v := .int 1) (ty := .int) (C := RX7) (T := TX7) (N := 30) hx hb hts zx_7 tyX7 tyX7_ok nmX7 hown hK hP hD hS 0 rfl rfl 29 (by decide) (hts (.fieldLink RX7 39 "KeyboardKitModel" "thrown" "I") zw_749) (fun _ h9 => h9) rfl (by decide +kernel) rfl rfl (Nat.le_of_ble_eq_true rfl) dX7_key_16 (fun H locs hP hD hS => ?_)
  have hP : va_P (dC, dI) vwCl [(b_o, .inr (7, [.ref b_m, .ref b_r, .int 0, .int pc, .int tk, .int 0, .int 0, .int 0, .int 7, .int 0, .ref b_l, .int 0, .int 0, .int 0, .int 0, .int 0, .int 0, .int 0, .int 0, .int g, .ref b_d, .ref b_w, .ref b_c, .int 0, .ref b_q, .int 0, .int 0, .int 0, .ref b_s, .int 1]))] H := hP
  have hD : va_D A [(b_o, .inr (7, [.ref b_m, .ref b_r, .int 0, .int pc, .int tk, .int 0, .int 0, .int 0, .int 7, .int 0, .ref b_l, .int 0, .int 0, .int 0, .int 0, .int 0, .int 0, .int 0, .int 0, .int g, .ref b_d, .ref b_w, .ref b_c, .int 0, .ref b_q, .int 0, .int 0, .int 0, .ref b_s, .int 1]))] := hD
  refine lv_aload_n hx hb dX7_key_19 rfl (lv_at hl 0 rfl) ?_
  refine va_get (D := (dC, dI)) (ci := 7) (v := .int 1) (C := RX7) (T := TX7) (N := 30) hx hb hts zx_7 hown hK hP 0 rfl rfl 29 (by decide) (hts (.fieldLink RX7 39 "KeyboardKitModel" "thrown" "I") zw_749) (fun _ h9 => h9) rfl dX7_key_20 ?_
  refine lv_if_eq (tgt := 28) hx hb dX7_key_23 (by decide) (fun c_3 => absurd c_3 (by decide)) (fun c_3 => ?_)
  refine lv_iconst (v := 0) hx hb dX7_key_26 (by decide) ?_
  have hP9 := hP.sub (ws' := [(b_o, .inr (7, [.ref b_m, .ref b_r, .int 0, .int pc, .int tk, .int 0, .int 0, .int 0, .int 7, .int 0, .ref b_l, .int 0, .int 0, .int 0, .int 0, .int 0, .int 0, .int 0, .int 0, .int g, .ref b_d, .ref b_w, .ref b_c, .int 0, .ref b_q, .int 0, .int 0, .int 0, .ref b_s, .int 1]))]) [0] rfl
  have hD9 := hD.sub (ws' := [(b_o, .inr (7, [.ref b_m, .ref b_r, .int 0, .int pc, .int tk, .int 0, .int 0, .int 0, .int 7, .int 0, .ref b_l, .int 0, .int 0, .int 0, .int 0, .int 0, .int 0, .int 0, .int 0, .int g, .ref b_d, .ref b_w, .ref b_c, .int 0, .ref b_q, .int 0, .int 0, .int 0, .ref b_s, .int 1]))]) [0] (by decide) rfl
  have hK9 := hK.sub (tys' := []) [] rfl
  exact W.zret (v := 0) hx hb hr rfl (fun t9 ht hW => ⟨⟨0, (), rfl, rfl, by rw [ht]; exact hP9, va_K.moved hW.alike hK9, hD9⟩, hS.F ht⟩) hS.2.2 dX7_key_27
set_option maxHeartbeats 4000000 in
set_option maxRecDepth 100000 in
theorem r_line_neg (l : Launch) (dC : Nat → ClassId) (dI : Nat → Nat → Nat) (b_o : Nat) (b_m : Nat) (b_r : Nat) (b_l : Nat) (b_d : Nat) (b_w : Nat) (b_c : Nat) (b_q : Nat) (b_s : Nat) (pc : Int32) (tk : Int32) (g : Int32) (th : Int32) (k : Int32) (b : Int32) (hb0 : k < 0) (sz : Nat) : Met l yX7_line (zq yX7_line cX7_line 4 (some .boolean)) ({ frames := 0, cells := 0, slots := 0, locals := 0 }) (va_Pc [.ref b_o, .int k, .int b] (zc_P (dC, dI) [(b_o, .inr (7, [.ref b_m, .ref b_r, .int 0, .int pc, .int tk, .int 0, .int 0, .int 0, .int 7, .int 0, .ref b_l, .int 0, .int 0, .int 0, .int 0, .int 0, .int 0, .int 0, .int 0, .int g, .ref b_d, .ref b_w, .ref b_c, .int 0, .ref b_q, .int 0, .int 0, .int 0, .ref b_s, .int th]))] [] sz)) (va_Qi (fun r _ => r = 0) (fun (u : Unit) t9 => zc_B (dC, dI) (va_A [(b_o, .inr (7, [.ref b_m, .ref b_r, .int 0, .int pc, .int tk, .int 0, .int 0, .int 0, .int 7, .int 0, .ref b_l, .int 0, .int 0, .int 0, .int 0, .int 0, .int 0, .int 0, .int 0, .int g, .ref b_d, .ref b_w, .ref b_c, .int 0, .ref b_q, .int 0, .int 0, .int 0, .ref b_s, .int th]))] sz) [(b_o, .inr (7, [.ref b_m, .ref b_r, .int 0, .int pc, .int tk, .int 0, .int 0, .int 0, .int 7, .int 0, .ref b_l, .int 0, .int 0, .int 0, .int 0, .int 0, .int 0, .int 0, .int 0, .int g, .ref b_d, .ref b_w, .ref b_c, .int 0, .ref b_q, .int 0, .int 0, .int 0, .ref b_s, .int 1]))] [] t9) (va_A [(b_o, .inr (7, [.ref b_m, .ref b_r, .int 0, .int pc, .int tk, .int 0, .int 0, .int 0, .int 7, .int 0, .ref b_l, .int 0, .int 0, .int 0, .int 0, .int 0, .int 0, .int 0, .int 0, .int g, .ref b_d, .ref b_w, .ref b_c, .int 0, .ref b_q, .int 0, .int 0, .int 0, .ref b_s, .int th]))] sz)) 0 0 (va_A [(b_o, .inr (7, [.ref b_m, .ref b_r, .int 0, .int pc, .int tk, .int 0, .int 0, .int 0, .int 7, .int 0, .ref b_l, .int 0, .int 0, .int 0, .int 0, .int 0, .int 0, .int 0, .int 0, .int g, .ref b_d, .ref b_w, .ref b_c, .int 0, .ref b_q, .int 0, .int 0, .int 0, .ref b_s, .int th]))] sz) := by
  refine Met.ofW (cc := cX7_line) (maxL := 4) (ret := (some .boolean)) (by decide) rfl ?_
  intro p e s m args below meth c s₁ B hml hv
  obtain ⟨rfl, hsz, hP, hK, hD0, hN⟩ := hv
  have hx := B.exec
  have hb := B.bytes
  have hr := B.returns
  have hts : ∀ w ∈ zw, w.before _ s = true := fun w h => atoms_spec (ws := (zq yX7_line cX7_line 4 (some .boolean))) B.pre w (List.mem_cons_of_mem _ h)
  have hown : s.vm.findClass RX7 = some m.cls := findClass_of_methodNamed B.named
  have hlocks := B.notSynchronized
  subst hsz
  have hD := hD0.self (sz := s.heap.size)
  generalize hAe : va_A [(b_o, .inr (7, [.ref b_m, .ref b_r, .int 0, .int pc, .int tk, .int 0, .int 0, .int 0, .int 7, .int 0, .ref b_l, .int 0, .int 0, .int 0, .int 0, .int 0, .int 0, .int 0, .int 0, .int g, .ref b_d, .ref b_w, .ref b_c, .int 0, .ref b_q, .int 0, .int 0, .int 0, .ref b_s, .int th]))] s.heap.size = A at hD ⊢
  have hA : ∀ q : Nat, s.heap.size ≤ q → A q := fun q h => by rw [← hAe]; exact Or.inr h
  have hS : va_S A s.heap s.heap [] := va_S.rf
  have hP : va_P (dC, dI) vwCl [(b_o, .inr (7, [.ref b_m, .ref b_r, .int 0, .int pc, .int tk, .int 0, .int 0, .int 0, .int 7, .int 0, .ref b_l, .int 0, .int 0, .int 0, .int 0, .int 0, .int 0, .int 0, .int 0, .int g, .ref b_d, .ref b_w, .ref b_c, .int 0, .ref b_q, .int 0, .int 0, .int 0, .ref b_s, .int th]))] s.heap := hP
  have hl := lv_entry ([.ref b_o, .int k, .int b]) (n := 4) (Nat.le_of_ble_eq_true rfl)
  rw [lg_entry_eq]
  generalize (lg_sl ([.ref b_o, .int k, .int b]) ++ List.replicate (4 - (lg_sl ([.ref b_o, .int k, .int b])).length) Slot.unset).toArray = ls at hl ⊢
  have hl : lv_has ls 4 [(0, .ref b_o), (1, .int k), (2, .int b)] := hl
  refine lv_aload_n hx hb dX7_line_0 rfl (lv_at hl 0 rfl) ?_
  refine lv_iload_n hx hb dX7_line_1 rfl (lv_at hl 1 rfl) ?_
  refine lv_if_lt (tgt := 10) hx hb dX7_line_2 (by decide) (fun c_1 => ?_) (fun c_1 => absurd hb0 c_1)
  refine lv_iconst (v := 1) hx hb dX7_line_10 (by decide) ?_
  refine lv_goto (tgt := 15) hx hb dX7_line_11 (by decide) ?_
  refine va_put (D := (dC, dI)) (ci := 7) (v := .int 1) (ty := .int) (C := RX7) (T := TX7) (N := 30) hx hb hts zx_7 tyX7 tyX7_ok nmX7 hown hK hP hD hS 0 rfl rfl 29 (by decide) (hts (.fieldLink RX7 39 "KeyboardKitModel" "thrown" "I") zw_749) (fun _ h9 => h9) rfl (by decide +kernel) rfl rfl (Nat.le_of_ble_eq_true rfl) dX7_line_15 (fun H locs hP hD hS => ?_)
  have hP : va_P (dC, dI) vwCl [(b_o, .inr (7, [.ref b_m, .ref b_r, .int 0, .int pc, .int tk, .int 0, .int 0, .int 0, .int 7, .int 0, .ref b_l, .int 0, .int 0, .int 0, .int 0, .int 0, .int 0, .int 0, .int 0, .int g, .ref b_d, .ref b_w, .ref b_c, .int 0, .ref b_q, .int 0, .int 0, .int 0, .ref b_s, .int 1]))] H := hP
  have hD : va_D A [(b_o, .inr (7, [.ref b_m, .ref b_r, .int 0, .int pc, .int tk, .int 0, .int 0, .int 0, .int 7, .int 0, .ref b_l, .int 0, .int 0, .int 0, .int 0, .int 0, .int 0, .int 0, .int 0, .int g, .ref b_d, .ref b_w, .ref b_c, .int 0, .ref b_q, .int 0, .int 0, .int 0, .ref b_s, .int 1]))] := hD
  refine lv_aload_n hx hb dX7_line_18 rfl (lv_at hl 0 rfl) ?_
  refine va_get (D := (dC, dI)) (ci := 7) (v := .int 1) (C := RX7) (T := TX7) (N := 30) hx hb hts zx_7 hown hK hP 0 rfl rfl 29 (by decide) (hts (.fieldLink RX7 39 "KeyboardKitModel" "thrown" "I") zw_749) (fun _ h9 => h9) rfl dX7_line_19 ?_
  refine lv_if_eq (tgt := 27) hx hb dX7_line_22 (by decide) (fun c_2 => absurd c_2 (by decide)) (fun c_2 => ?_)
  refine lv_iconst (v := 0) hx hb dX7_line_25 (by decide) ?_
  have hP9 := hP.sub (ws' := [(b_o, .inr (7, [.ref b_m, .ref b_r, .int 0, .int pc, .int tk, .int 0, .int 0, .int 0, .int 7, .int 0, .ref b_l, .int 0, .int 0, .int 0, .int 0, .int 0, .int 0, .int 0, .int 0, .int g, .ref b_d, .ref b_w, .ref b_c, .int 0, .ref b_q, .int 0, .int 0, .int 0, .ref b_s, .int 1]))]) [0] rfl
  have hD9 := hD.sub (ws' := [(b_o, .inr (7, [.ref b_m, .ref b_r, .int 0, .int pc, .int tk, .int 0, .int 0, .int 0, .int 7, .int 0, .ref b_l, .int 0, .int 0, .int 0, .int 0, .int 0, .int 0, .int 0, .int 0, .int g, .ref b_d, .ref b_w, .ref b_c, .int 0, .ref b_q, .int 0, .int 0, .int 0, .ref b_s, .int 1]))]) [0] (by decide) rfl
  have hK9 := hK.sub (tys' := []) [] rfl
  exact W.zret (v := 0) hx hb hr rfl (fun t9 ht hW => ⟨⟨0, (), rfl, rfl, by rw [ht]; exact hP9, va_K.moved hW.alike hK9, hD9⟩, hS.F ht⟩) hS.2.2 dX7_line_26
set_option maxHeartbeats 4000000 in
set_option maxRecDepth 100000 in
theorem r_line_big (l : Launch) (dC : Nat → ClassId) (dI : Nat → Nat → Nat) (b_o : Nat) (b_m : Nat) (b_r : Nat) (b_l : Nat) (b_d : Nat) (b_w : Nat) (b_c : Nat) (b_q : Nat) (b_s : Nat) (pc : Int32) (tk : Int32) (g : Int32) (th : Int32) (k : Int32) (b : Int32) (hb0 : ¬ k < 0) (hb1 : ¬ k ≤ 1) (sz : Nat) : Met l yX7_line (zq yX7_line cX7_line 4 (some .boolean)) ({ frames := 0, cells := 0, slots := 0, locals := 0 }) (va_Pc [.ref b_o, .int k, .int b] (zc_P (dC, dI) [(b_o, .inr (7, [.ref b_m, .ref b_r, .int 0, .int pc, .int tk, .int 0, .int 0, .int 0, .int 7, .int 0, .ref b_l, .int 0, .int 0, .int 0, .int 0, .int 0, .int 0, .int 0, .int 0, .int g, .ref b_d, .ref b_w, .ref b_c, .int 0, .ref b_q, .int 0, .int 0, .int 0, .ref b_s, .int th]))] [] sz)) (va_Qi (fun r _ => r = 0) (fun (u : Unit) t9 => zc_B (dC, dI) (va_A [(b_o, .inr (7, [.ref b_m, .ref b_r, .int 0, .int pc, .int tk, .int 0, .int 0, .int 0, .int 7, .int 0, .ref b_l, .int 0, .int 0, .int 0, .int 0, .int 0, .int 0, .int 0, .int 0, .int g, .ref b_d, .ref b_w, .ref b_c, .int 0, .ref b_q, .int 0, .int 0, .int 0, .ref b_s, .int th]))] sz) [(b_o, .inr (7, [.ref b_m, .ref b_r, .int 0, .int pc, .int tk, .int 0, .int 0, .int 0, .int 7, .int 0, .ref b_l, .int 0, .int 0, .int 0, .int 0, .int 0, .int 0, .int 0, .int 0, .int g, .ref b_d, .ref b_w, .ref b_c, .int 0, .ref b_q, .int 0, .int 0, .int 0, .ref b_s, .int 1]))] [] t9) (va_A [(b_o, .inr (7, [.ref b_m, .ref b_r, .int 0, .int pc, .int tk, .int 0, .int 0, .int 0, .int 7, .int 0, .ref b_l, .int 0, .int 0, .int 0, .int 0, .int 0, .int 0, .int 0, .int 0, .int g, .ref b_d, .ref b_w, .ref b_c, .int 0, .ref b_q, .int 0, .int 0, .int 0, .ref b_s, .int th]))] sz)) 0 0 (va_A [(b_o, .inr (7, [.ref b_m, .ref b_r, .int 0, .int pc, .int tk, .int 0, .int 0, .int 0, .int 7, .int 0, .ref b_l, .int 0, .int 0, .int 0, .int 0, .int 0, .int 0, .int 0, .int 0, .int g, .ref b_d, .ref b_w, .ref b_c, .int 0, .ref b_q, .int 0, .int 0, .int 0, .ref b_s, .int th]))] sz) := by
  refine Met.ofW (cc := cX7_line) (maxL := 4) (ret := (some .boolean)) (by decide) rfl ?_
  intro p e s m args below meth c s₁ B hml hv
  obtain ⟨rfl, hsz, hP, hK, hD0, hN⟩ := hv
  have hx := B.exec
  have hb := B.bytes
  have hr := B.returns
  have hts : ∀ w ∈ zw, w.before _ s = true := fun w h => atoms_spec (ws := (zq yX7_line cX7_line 4 (some .boolean))) B.pre w (List.mem_cons_of_mem _ h)
  have hown : s.vm.findClass RX7 = some m.cls := findClass_of_methodNamed B.named
  have hlocks := B.notSynchronized
  subst hsz
  have hD := hD0.self (sz := s.heap.size)
  generalize hAe : va_A [(b_o, .inr (7, [.ref b_m, .ref b_r, .int 0, .int pc, .int tk, .int 0, .int 0, .int 0, .int 7, .int 0, .ref b_l, .int 0, .int 0, .int 0, .int 0, .int 0, .int 0, .int 0, .int 0, .int g, .ref b_d, .ref b_w, .ref b_c, .int 0, .ref b_q, .int 0, .int 0, .int 0, .ref b_s, .int th]))] s.heap.size = A at hD ⊢
  have hA : ∀ q : Nat, s.heap.size ≤ q → A q := fun q h => by rw [← hAe]; exact Or.inr h
  have hS : va_S A s.heap s.heap [] := va_S.rf
  have hP : va_P (dC, dI) vwCl [(b_o, .inr (7, [.ref b_m, .ref b_r, .int 0, .int pc, .int tk, .int 0, .int 0, .int 0, .int 7, .int 0, .ref b_l, .int 0, .int 0, .int 0, .int 0, .int 0, .int 0, .int 0, .int 0, .int g, .ref b_d, .ref b_w, .ref b_c, .int 0, .ref b_q, .int 0, .int 0, .int 0, .ref b_s, .int th]))] s.heap := hP
  have hl := lv_entry ([.ref b_o, .int k, .int b]) (n := 4) (Nat.le_of_ble_eq_true rfl)
  rw [lg_entry_eq]
  generalize (lg_sl ([.ref b_o, .int k, .int b]) ++ List.replicate (4 - (lg_sl ([.ref b_o, .int k, .int b])).length) Slot.unset).toArray = ls at hl ⊢
  have hl : lv_has ls 4 [(0, .ref b_o), (1, .int k), (2, .int b)] := hl
  refine lv_aload_n hx hb dX7_line_0 rfl (lv_at hl 0 rfl) ?_
  refine lv_iload_n hx hb dX7_line_1 rfl (lv_at hl 1 rfl) ?_
  refine lv_if_lt (tgt := 10) hx hb dX7_line_2 (by decide) (fun c_1 => absurd c_1 hb0) (fun c_1 => ?_)
  refine lv_iload_n hx hb dX7_line_5 rfl (lv_at hl 1 rfl) ?_
  refine lv_iconst (v := 1) hx hb dX7_line_6 (by decide) ?_
  refine lv_icmp_le (tgt := 14) hx hb dX7_line_7 (by decide) (fun c_2 => absurd c_2 hb1) (fun c_2 => ?_)
  refine lv_iconst (v := 1) hx hb dX7_line_10 (by decide) ?_
  refine lv_goto (tgt := 15) hx hb dX7_line_11 (by decide) ?_
  refine va_put (D := (dC, dI)) (ci := 7) (v := .int 1) (ty := .int) (C := RX7) (T := TX7) (N := 30) hx hb hts zx_7 tyX7 tyX7_ok nmX7 hown hK hP hD hS 0 rfl rfl 29 (by decide) (hts (.fieldLink RX7 39 "KeyboardKitModel" "thrown" "I") zw_749) (fun _ h9 => h9) rfl (by decide +kernel) rfl rfl (Nat.le_of_ble_eq_true rfl) dX7_line_15 (fun H locs hP hD hS => ?_)
  have hP : va_P (dC, dI) vwCl [(b_o, .inr (7, [.ref b_m, .ref b_r, .int 0, .int pc, .int tk, .int 0, .int 0, .int 0, .int 7, .int 0, .ref b_l, .int 0, .int 0, .int 0, .int 0, .int 0, .int 0, .int 0, .int 0, .int g, .ref b_d, .ref b_w, .ref b_c, .int 0, .ref b_q, .int 0, .int 0, .int 0, .ref b_s, .int 1]))] H := hP
  have hD : va_D A [(b_o, .inr (7, [.ref b_m, .ref b_r, .int 0, .int pc, .int tk, .int 0, .int 0, .int 0, .int 7, .int 0, .ref b_l, .int 0, .int 0, .int 0, .int 0, .int 0, .int 0, .int 0, .int 0, .int g, .ref b_d, .ref b_w, .ref b_c, .int 0, .ref b_q, .int 0, .int 0, .int 0, .ref b_s, .int 1]))] := hD
  refine lv_aload_n hx hb dX7_line_18 rfl (lv_at hl 0 rfl) ?_
  refine va_get (D := (dC, dI)) (ci := 7) (v := .int 1) (C := RX7) (T := TX7) (N := 30) hx hb hts zx_7 hown hK hP 0 rfl rfl 29 (by decide) (hts (.fieldLink RX7 39 "KeyboardKitModel" "thrown" "I") zw_749) (fun _ h9 => h9) rfl dX7_line_19 ?_
  refine lv_if_eq (tgt := 27) hx hb dX7_line_22 (by decide) (fun c_3 => absurd c_3 (by decide)) (fun c_3 => ?_)
  refine lv_iconst (v := 0) hx hb dX7_line_25 (by decide) ?_
  have hP9 := hP.sub (ws' := [(b_o, .inr (7, [.ref b_m, .ref b_r, .int 0, .int pc, .int tk, .int 0, .int 0, .int 0, .int 7, .int 0, .ref b_l, .int 0, .int 0, .int 0, .int 0, .int 0, .int 0, .int 0, .int 0, .int g, .ref b_d, .ref b_w, .ref b_c, .int 0, .ref b_q, .int 0, .int 0, .int 0, .ref b_s, .int 1]))]) [0] rfl
  have hD9 := hD.sub (ws' := [(b_o, .inr (7, [.ref b_m, .ref b_r, .int 0, .int pc, .int tk, .int 0, .int 0, .int 0, .int 7, .int 0, .ref b_l, .int 0, .int 0, .int 0, .int 0, .int 0, .int 0, .int 0, .int 0, .int g, .ref b_d, .ref b_w, .ref b_c, .int 0, .ref b_q, .int 0, .int 0, .int 0, .ref b_s, .int 1]))]) [0] (by decide) rfl
  have hK9 := hK.sub (tys' := []) [] rfl
  exact W.zret (v := 0) hx hb hr rfl (fun t9 ht hW => ⟨⟨0, (), rfl, rfl, by rw [ht]; exact hP9, va_K.moved hW.alike hK9, hD9⟩, hS.F ht⟩) hS.2.2 dX7_line_26
set_option maxHeartbeats 4000000 in
set_option maxRecDepth 100000 in
theorem r_about_neg (l : Launch) (dC : Nat → ClassId) (dI : Nat → Nat → Nat) (b_o : Nat) (b_m : Nat) (b_r : Nat) (b_l : Nat) (b_d : Nat) (b_w : Nat) (b_c : Nat) (b_q : Nat) (b_s : Nat) (pc : Int32) (tk : Int32) (g : Int32) (th : Int32) (k : Int32) (hb0 : k < 0) (sz : Nat) : Met l yX7_about (zq yX7_about cX7_about 2 (some .int)) ({ frames := 0, cells := 0, slots := 0, locals := 0 }) (va_Pc [.ref b_o, .int k] (zc_P (dC, dI) [(b_o, .inr (7, [.ref b_m, .ref b_r, .int 0, .int pc, .int tk, .int 0, .int 0, .int 0, .int 7, .int 0, .ref b_l, .int 0, .int 0, .int 0, .int 0, .int 0, .int 0, .int 0, .int 0, .int g, .ref b_d, .ref b_w, .ref b_c, .int 0, .ref b_q, .int 0, .int 0, .int 0, .ref b_s, .int th]))] [] sz)) (va_Qi (fun r _ => r = 0) (fun (u : Unit) t9 => zc_B (dC, dI) (va_A [(b_o, .inr (7, [.ref b_m, .ref b_r, .int 0, .int pc, .int tk, .int 0, .int 0, .int 0, .int 7, .int 0, .ref b_l, .int 0, .int 0, .int 0, .int 0, .int 0, .int 0, .int 0, .int 0, .int g, .ref b_d, .ref b_w, .ref b_c, .int 0, .ref b_q, .int 0, .int 0, .int 0, .ref b_s, .int th]))] sz) [(b_o, .inr (7, [.ref b_m, .ref b_r, .int 0, .int pc, .int tk, .int 0, .int 0, .int 0, .int 7, .int 0, .ref b_l, .int 0, .int 0, .int 0, .int 0, .int 0, .int 0, .int 0, .int 0, .int g, .ref b_d, .ref b_w, .ref b_c, .int 0, .ref b_q, .int 0, .int 0, .int 0, .ref b_s, .int 1]))] [] t9) (va_A [(b_o, .inr (7, [.ref b_m, .ref b_r, .int 0, .int pc, .int tk, .int 0, .int 0, .int 0, .int 7, .int 0, .ref b_l, .int 0, .int 0, .int 0, .int 0, .int 0, .int 0, .int 0, .int 0, .int g, .ref b_d, .ref b_w, .ref b_c, .int 0, .ref b_q, .int 0, .int 0, .int 0, .ref b_s, .int th]))] sz)) 0 0 (va_A [(b_o, .inr (7, [.ref b_m, .ref b_r, .int 0, .int pc, .int tk, .int 0, .int 0, .int 0, .int 7, .int 0, .ref b_l, .int 0, .int 0, .int 0, .int 0, .int 0, .int 0, .int 0, .int 0, .int g, .ref b_d, .ref b_w, .ref b_c, .int 0, .ref b_q, .int 0, .int 0, .int 0, .ref b_s, .int th]))] sz) := by
  refine Met.ofW (cc := cX7_about) (maxL := 2) (ret := (some .int)) (by decide) rfl ?_
  intro p e s m args below meth c s₁ B hml hv
  obtain ⟨rfl, hsz, hP, hK, hD0, hN⟩ := hv
  have hx := B.exec
  have hb := B.bytes
  have hr := B.returns
  have hts : ∀ w ∈ zw, w.before _ s = true := fun w h => atoms_spec (ws := (zq yX7_about cX7_about 2 (some .int))) B.pre w (List.mem_cons_of_mem _ h)
  have hown : s.vm.findClass RX7 = some m.cls := findClass_of_methodNamed B.named
  have hlocks := B.notSynchronized
  subst hsz
  have hD := hD0.self (sz := s.heap.size)
  generalize hAe : va_A [(b_o, .inr (7, [.ref b_m, .ref b_r, .int 0, .int pc, .int tk, .int 0, .int 0, .int 0, .int 7, .int 0, .ref b_l, .int 0, .int 0, .int 0, .int 0, .int 0, .int 0, .int 0, .int 0, .int g, .ref b_d, .ref b_w, .ref b_c, .int 0, .ref b_q, .int 0, .int 0, .int 0, .ref b_s, .int th]))] s.heap.size = A at hD ⊢
  have hA : ∀ q : Nat, s.heap.size ≤ q → A q := fun q h => by rw [← hAe]; exact Or.inr h
  have hS : va_S A s.heap s.heap [] := va_S.rf
  have hP : va_P (dC, dI) vwCl [(b_o, .inr (7, [.ref b_m, .ref b_r, .int 0, .int pc, .int tk, .int 0, .int 0, .int 0, .int 7, .int 0, .ref b_l, .int 0, .int 0, .int 0, .int 0, .int 0, .int 0, .int 0, .int 0, .int g, .ref b_d, .ref b_w, .ref b_c, .int 0, .ref b_q, .int 0, .int 0, .int 0, .ref b_s, .int th]))] s.heap := hP
  have hl := lv_entry ([.ref b_o, .int k]) (n := 2) (Nat.le_of_ble_eq_true rfl)
  rw [lg_entry_eq]
  generalize (lg_sl ([.ref b_o, .int k]) ++ List.replicate (2 - (lg_sl ([.ref b_o, .int k])).length) Slot.unset).toArray = ls at hl ⊢
  have hl : lv_has ls 2 [(0, .ref b_o), (1, .int k)] := hl
  refine lv_aload_n hx hb dX7_about_0 rfl (lv_at hl 0 rfl) ?_
  refine lv_iload_n hx hb dX7_about_1 rfl (lv_at hl 1 rfl) ?_
  refine lv_if_lt (tgt := 11) hx hb dX7_about_2 (by decide) (fun c_1 => ?_) (fun c_1 => absurd hb0 c_1)
  refine lv_iconst (v := 1) hx hb dX7_about_11 (by decide) ?_
  refine lv_goto (tgt := 16) hx hb dX7_about_12 (by decide) ?_
  refine va_put (D := (dC, dI)) (ci := 7) (v := .int 1) (ty := .int) (C := RX7) (T := TX7) (N := 30) hx hb hts zx_7 tyX7 tyX7_ok nmX7 hown hK hP hD hS 0 rfl rfl 29 (by decide) (hts (.fieldLink RX7 39 "KeyboardKitModel" "thrown" "I") zw_749) (fun _ h9 => h9) rfl (by decide +kernel) rfl rfl (Nat.le_of_ble_eq_true rfl) dX7_about_16 (fun H locs hP hD hS => ?_)
  have hP : va_P (dC, dI) vwCl [(b_o, .inr (7, [.ref b_m, .ref b_r, .int 0, .int pc, .int tk, .int 0, .int 0, .int 0, .int 7, .int 0, .ref b_l, .int 0, .int 0, .int 0, .int 0, .int 0, .int 0, .int 0, .int 0, .int g, .ref b_d, .ref b_w, .ref b_c, .int 0, .ref b_q, .int 0, .int 0, .int 0, .ref b_s, .int 1]))] H := hP
  have hD : va_D A [(b_o, .inr (7, [.ref b_m, .ref b_r, .int 0, .int pc, .int tk, .int 0, .int 0, .int 0, .int 7, .int 0, .ref b_l, .int 0, .int 0, .int 0, .int 0, .int 0, .int 0, .int 0, .int 0, .int g, .ref b_d, .ref b_w, .ref b_c, .int 0, .ref b_q, .int 0, .int 0, .int 0, .ref b_s, .int 1]))] := hD
  refine lv_aload_n hx hb dX7_about_19 rfl (lv_at hl 0 rfl) ?_
  refine va_get (D := (dC, dI)) (ci := 7) (v := .int 1) (C := RX7) (T := TX7) (N := 30) hx hb hts zx_7 hown hK hP 0 rfl rfl 29 (by decide) (hts (.fieldLink RX7 39 "KeyboardKitModel" "thrown" "I") zw_749) (fun _ h9 => h9) rfl dX7_about_20 ?_
  refine lv_if_eq (tgt := 28) hx hb dX7_about_23 (by decide) (fun c_2 => absurd c_2 (by decide)) (fun c_2 => ?_)
  refine lv_iconst (v := 0) hx hb dX7_about_26 (by decide) ?_
  have hP9 := hP.sub (ws' := [(b_o, .inr (7, [.ref b_m, .ref b_r, .int 0, .int pc, .int tk, .int 0, .int 0, .int 0, .int 7, .int 0, .ref b_l, .int 0, .int 0, .int 0, .int 0, .int 0, .int 0, .int 0, .int 0, .int g, .ref b_d, .ref b_w, .ref b_c, .int 0, .ref b_q, .int 0, .int 0, .int 0, .ref b_s, .int 1]))]) [0] rfl
  have hD9 := hD.sub (ws' := [(b_o, .inr (7, [.ref b_m, .ref b_r, .int 0, .int pc, .int tk, .int 0, .int 0, .int 0, .int 7, .int 0, .ref b_l, .int 0, .int 0, .int 0, .int 0, .int 0, .int 0, .int 0, .int 0, .int g, .ref b_d, .ref b_w, .ref b_c, .int 0, .ref b_q, .int 0, .int 0, .int 0, .ref b_s, .int 1]))]) [0] (by decide) rfl
  have hK9 := hK.sub (tys' := []) [] rfl
  exact W.iret (v := 0) hx hb hr (fun t9 ht hW => ⟨⟨0, (), rfl, rfl, by rw [ht]; exact hP9, va_K.moved hW.alike hK9, hD9⟩, hS.F ht⟩) hS.2.2 dX7_about_27
set_option maxHeartbeats 4000000 in
set_option maxRecDepth 100000 in
theorem r_about_big (l : Launch) (dC : Nat → ClassId) (dI : Nat → Nat → Nat) (b_o : Nat) (b_m : Nat) (b_r : Nat) (b_l : Nat) (b_d : Nat) (b_w : Nat) (b_c : Nat) (b_q : Nat) (b_s : Nat) (pc : Int32) (tk : Int32) (g : Int32) (th : Int32) (k : Int32) (hb0 : ¬ k < 0) (hb1 : ¬ k ≤ 14) (sz : Nat) : Met l yX7_about (zq yX7_about cX7_about 2 (some .int)) ({ frames := 0, cells := 0, slots := 0, locals := 0 }) (va_Pc [.ref b_o, .int k] (zc_P (dC, dI) [(b_o, .inr (7, [.ref b_m, .ref b_r, .int 0, .int pc, .int tk, .int 0, .int 0, .int 0, .int 7, .int 0, .ref b_l, .int 0, .int 0, .int 0, .int 0, .int 0, .int 0, .int 0, .int 0, .int g, .ref b_d, .ref b_w, .ref b_c, .int 0, .ref b_q, .int 0, .int 0, .int 0, .ref b_s, .int th]))] [] sz)) (va_Qi (fun r _ => r = 0) (fun (u : Unit) t9 => zc_B (dC, dI) (va_A [(b_o, .inr (7, [.ref b_m, .ref b_r, .int 0, .int pc, .int tk, .int 0, .int 0, .int 0, .int 7, .int 0, .ref b_l, .int 0, .int 0, .int 0, .int 0, .int 0, .int 0, .int 0, .int 0, .int g, .ref b_d, .ref b_w, .ref b_c, .int 0, .ref b_q, .int 0, .int 0, .int 0, .ref b_s, .int th]))] sz) [(b_o, .inr (7, [.ref b_m, .ref b_r, .int 0, .int pc, .int tk, .int 0, .int 0, .int 0, .int 7, .int 0, .ref b_l, .int 0, .int 0, .int 0, .int 0, .int 0, .int 0, .int 0, .int 0, .int g, .ref b_d, .ref b_w, .ref b_c, .int 0, .ref b_q, .int 0, .int 0, .int 0, .ref b_s, .int 1]))] [] t9) (va_A [(b_o, .inr (7, [.ref b_m, .ref b_r, .int 0, .int pc, .int tk, .int 0, .int 0, .int 0, .int 7, .int 0, .ref b_l, .int 0, .int 0, .int 0, .int 0, .int 0, .int 0, .int 0, .int 0, .int g, .ref b_d, .ref b_w, .ref b_c, .int 0, .ref b_q, .int 0, .int 0, .int 0, .ref b_s, .int th]))] sz)) 0 0 (va_A [(b_o, .inr (7, [.ref b_m, .ref b_r, .int 0, .int pc, .int tk, .int 0, .int 0, .int 0, .int 7, .int 0, .ref b_l, .int 0, .int 0, .int 0, .int 0, .int 0, .int 0, .int 0, .int 0, .int g, .ref b_d, .ref b_w, .ref b_c, .int 0, .ref b_q, .int 0, .int 0, .int 0, .ref b_s, .int th]))] sz) := by
  refine Met.ofW (cc := cX7_about) (maxL := 2) (ret := (some .int)) (by decide) rfl ?_
  intro p e s m args below meth c s₁ B hml hv
  obtain ⟨rfl, hsz, hP, hK, hD0, hN⟩ := hv
  have hx := B.exec
  have hb := B.bytes
  have hr := B.returns
  have hts : ∀ w ∈ zw, w.before _ s = true := fun w h => atoms_spec (ws := (zq yX7_about cX7_about 2 (some .int))) B.pre w (List.mem_cons_of_mem _ h)
  have hown : s.vm.findClass RX7 = some m.cls := findClass_of_methodNamed B.named
  have hlocks := B.notSynchronized
  subst hsz
  have hD := hD0.self (sz := s.heap.size)
  generalize hAe : va_A [(b_o, .inr (7, [.ref b_m, .ref b_r, .int 0, .int pc, .int tk, .int 0, .int 0, .int 0, .int 7, .int 0, .ref b_l, .int 0, .int 0, .int 0, .int 0, .int 0, .int 0, .int 0, .int 0, .int g, .ref b_d, .ref b_w, .ref b_c, .int 0, .ref b_q, .int 0, .int 0, .int 0, .ref b_s, .int th]))] s.heap.size = A at hD ⊢
  have hA : ∀ q : Nat, s.heap.size ≤ q → A q := fun q h => by rw [← hAe]; exact Or.inr h
  have hS : va_S A s.heap s.heap [] := va_S.rf
  have hP : va_P (dC, dI) vwCl [(b_o, .inr (7, [.ref b_m, .ref b_r, .int 0, .int pc, .int tk, .int 0, .int 0, .int 0, .int 7, .int 0, .ref b_l, .int 0, .int 0, .int 0, .int 0, .int 0, .int 0, .int 0, .int 0, .int g, .ref b_d, .ref b_w, .ref b_c, .int 0, .ref b_q, .int 0, .int 0, .int 0, .ref b_s, .int th]))] s.heap := hP
  have hl := lv_entry ([.ref b_o, .int k]) (n := 2) (Nat.le_of_ble_eq_true rfl)
  rw [lg_entry_eq]
  generalize (lg_sl ([.ref b_o, .int k]) ++ List.replicate (2 - (lg_sl ([.ref b_o, .int k])).length) Slot.unset).toArray = ls at hl ⊢
  have hl : lv_has ls 2 [(0, .ref b_o), (1, .int k)] := hl
  refine lv_aload_n hx hb dX7_about_0 rfl (lv_at hl 0 rfl) ?_
  refine lv_iload_n hx hb dX7_about_1 rfl (lv_at hl 1 rfl) ?_
  refine lv_if_lt (tgt := 11) hx hb dX7_about_2 (by decide) (fun c_1 => absurd c_1 hb0) (fun c_1 => ?_)
  refine lv_iload_n hx hb dX7_about_5 rfl (lv_at hl 1 rfl) ?_
  refine lv_bipush (v := 14) hx hb dX7_about_6 (by decide) ?_
  refine lv_icmp_le (tgt := 15) hx hb dX7_about_8 (by decide) (fun c_2 => absurd c_2 hb1) (fun c_2 => ?_)
  refine lv_iconst (v := 1) hx hb dX7_about_11 (by decide) ?_
  refine lv_goto (tgt := 16) hx hb dX7_about_12 (by decide) ?_
  refine va_put (D := (dC, dI)) (ci := 7) (v := .int 1) (ty := .int) (C := RX7) (T := TX7) (N := 30) hx hb hts zx_7 tyX7 tyX7_ok nmX7 hown hK hP hD hS 0 rfl rfl 29 (by decide) (hts (.fieldLink RX7 39 "KeyboardKitModel" "thrown" "I") zw_749) (fun _ h9 => h9) rfl (by decide +kernel) rfl rfl (Nat.le_of_ble_eq_true rfl) dX7_about_16 (fun H locs hP hD hS => ?_)
  have hP : va_P (dC, dI) vwCl [(b_o, .inr (7, [.ref b_m, .ref b_r, .int 0, .int pc, .int tk, .int 0, .int 0, .int 0, .int 7, .int 0, .ref b_l, .int 0, .int 0, .int 0, .int 0, .int 0, .int 0, .int 0, .int 0, .int g, .ref b_d, .ref b_w, .ref b_c, .int 0, .ref b_q, .int 0, .int 0, .int 0, .ref b_s, .int 1]))] H := hP
  have hD : va_D A [(b_o, .inr (7, [.ref b_m, .ref b_r, .int 0, .int pc, .int tk, .int 0, .int 0, .int 0, .int 7, .int 0, .ref b_l, .int 0, .int 0, .int 0, .int 0, .int 0, .int 0, .int 0, .int 0, .int g, .ref b_d, .ref b_w, .ref b_c, .int 0, .ref b_q, .int 0, .int 0, .int 0, .ref b_s, .int 1]))] := hD
  refine lv_aload_n hx hb dX7_about_19 rfl (lv_at hl 0 rfl) ?_
  refine va_get (D := (dC, dI)) (ci := 7) (v := .int 1) (C := RX7) (T := TX7) (N := 30) hx hb hts zx_7 hown hK hP 0 rfl rfl 29 (by decide) (hts (.fieldLink RX7 39 "KeyboardKitModel" "thrown" "I") zw_749) (fun _ h9 => h9) rfl dX7_about_20 ?_
  refine lv_if_eq (tgt := 28) hx hb dX7_about_23 (by decide) (fun c_3 => absurd c_3 (by decide)) (fun c_3 => ?_)
  refine lv_iconst (v := 0) hx hb dX7_about_26 (by decide) ?_
  have hP9 := hP.sub (ws' := [(b_o, .inr (7, [.ref b_m, .ref b_r, .int 0, .int pc, .int tk, .int 0, .int 0, .int 0, .int 7, .int 0, .ref b_l, .int 0, .int 0, .int 0, .int 0, .int 0, .int 0, .int 0, .int 0, .int g, .ref b_d, .ref b_w, .ref b_c, .int 0, .ref b_q, .int 0, .int 0, .int 0, .ref b_s, .int 1]))]) [0] rfl
  have hD9 := hD.sub (ws' := [(b_o, .inr (7, [.ref b_m, .ref b_r, .int 0, .int pc, .int tk, .int 0, .int 0, .int 0, .int 7, .int 0, .ref b_l, .int 0, .int 0, .int 0, .int 0, .int 0, .int 0, .int 0, .int 0, .int g, .ref b_d, .ref b_w, .ref b_c, .int 0, .ref b_q, .int 0, .int 0, .int 0, .ref b_s, .int 1]))]) [0] (by decide) rfl
  have hK9 := hK.sub (tys' := []) [] rfl
  exact W.iret (v := 0) hx hb hr (fun t9 ht hW => ⟨⟨0, (), rfl, rfl, by rw [ht]; exact hP9, va_K.moved hW.alike hK9, hD9⟩, hS.F ht⟩) hS.2.2 dX7_about_27
set_option maxHeartbeats 4000000 in
set_option maxRecDepth 100000 in
theorem r_shown_neg (l : Launch) (dC : Nat → ClassId) (dI : Nat → Nat → Nat) (b_o : Nat) (b_m : Nat) (b_r : Nat) (b_l : Nat) (b_d : Nat) (b_w : Nat) (b_c : Nat) (b_q : Nat) (b_s : Nat) (pc : Int32) (tk : Int32) (g : Int32) (th : Int32) (k : Int32) (hb0 : k < 0) (sz : Nat) : Met l yX7_shown (zq yX7_shown cX7_shown 2 (some .int)) ({ frames := 0, cells := 0, slots := 0, locals := 0 }) (va_Pc [.ref b_o, .int k] (zc_P (dC, dI) [(b_o, .inr (7, [.ref b_m, .ref b_r, .int 0, .int pc, .int tk, .int 0, .int 0, .int 0, .int 7, .int 0, .ref b_l, .int 0, .int 0, .int 0, .int 0, .int 0, .int 0, .int 0, .int 0, .int g, .ref b_d, .ref b_w, .ref b_c, .int 0, .ref b_q, .int 0, .int 0, .int 0, .ref b_s, .int th]))] [] sz)) (va_Qi (fun r _ => r = 0) (fun (u : Unit) t9 => zc_B (dC, dI) (va_A [(b_o, .inr (7, [.ref b_m, .ref b_r, .int 0, .int pc, .int tk, .int 0, .int 0, .int 0, .int 7, .int 0, .ref b_l, .int 0, .int 0, .int 0, .int 0, .int 0, .int 0, .int 0, .int 0, .int g, .ref b_d, .ref b_w, .ref b_c, .int 0, .ref b_q, .int 0, .int 0, .int 0, .ref b_s, .int th]))] sz) [(b_o, .inr (7, [.ref b_m, .ref b_r, .int 0, .int pc, .int tk, .int 0, .int 0, .int 0, .int 7, .int 0, .ref b_l, .int 0, .int 0, .int 0, .int 0, .int 0, .int 0, .int 0, .int 0, .int g, .ref b_d, .ref b_w, .ref b_c, .int 0, .ref b_q, .int 0, .int 0, .int 0, .ref b_s, .int 1]))] [] t9) (va_A [(b_o, .inr (7, [.ref b_m, .ref b_r, .int 0, .int pc, .int tk, .int 0, .int 0, .int 0, .int 7, .int 0, .ref b_l, .int 0, .int 0, .int 0, .int 0, .int 0, .int 0, .int 0, .int 0, .int g, .ref b_d, .ref b_w, .ref b_c, .int 0, .ref b_q, .int 0, .int 0, .int 0, .ref b_s, .int th]))] sz)) 0 0 (va_A [(b_o, .inr (7, [.ref b_m, .ref b_r, .int 0, .int pc, .int tk, .int 0, .int 0, .int 0, .int 7, .int 0, .ref b_l, .int 0, .int 0, .int 0, .int 0, .int 0, .int 0, .int 0, .int 0, .int g, .ref b_d, .ref b_w, .ref b_c, .int 0, .ref b_q, .int 0, .int 0, .int 0, .ref b_s, .int th]))] sz) := by
  refine Met.ofW (cc := cX7_shown) (maxL := 2) (ret := (some .int)) (by decide) rfl ?_
  intro p e s m args below meth c s₁ B hml hv
  obtain ⟨rfl, hsz, hP, hK, hD0, hN⟩ := hv
  have hx := B.exec
  have hb := B.bytes
  have hr := B.returns
  have hts : ∀ w ∈ zw, w.before _ s = true := fun w h => atoms_spec (ws := (zq yX7_shown cX7_shown 2 (some .int))) B.pre w (List.mem_cons_of_mem _ h)
  have hown : s.vm.findClass RX7 = some m.cls := findClass_of_methodNamed B.named
  have hlocks := B.notSynchronized
  subst hsz
  have hD := hD0.self (sz := s.heap.size)
  generalize hAe : va_A [(b_o, .inr (7, [.ref b_m, .ref b_r, .int 0, .int pc, .int tk, .int 0, .int 0, .int 0, .int 7, .int 0, .ref b_l, .int 0, .int 0, .int 0, .int 0, .int 0, .int 0, .int 0, .int 0, .int g, .ref b_d, .ref b_w, .ref b_c, .int 0, .ref b_q, .int 0, .int 0, .int 0, .ref b_s, .int th]))] s.heap.size = A at hD ⊢
  have hA : ∀ q : Nat, s.heap.size ≤ q → A q := fun q h => by rw [← hAe]; exact Or.inr h
  have hS : va_S A s.heap s.heap [] := va_S.rf
  have hP : va_P (dC, dI) vwCl [(b_o, .inr (7, [.ref b_m, .ref b_r, .int 0, .int pc, .int tk, .int 0, .int 0, .int 0, .int 7, .int 0, .ref b_l, .int 0, .int 0, .int 0, .int 0, .int 0, .int 0, .int 0, .int 0, .int g, .ref b_d, .ref b_w, .ref b_c, .int 0, .ref b_q, .int 0, .int 0, .int 0, .ref b_s, .int th]))] s.heap := hP
  have hl := lv_entry ([.ref b_o, .int k]) (n := 2) (Nat.le_of_ble_eq_true rfl)
  rw [lg_entry_eq]
  generalize (lg_sl ([.ref b_o, .int k]) ++ List.replicate (2 - (lg_sl ([.ref b_o, .int k])).length) Slot.unset).toArray = ls at hl ⊢
  have hl : lv_has ls 2 [(0, .ref b_o), (1, .int k)] := hl
  refine lv_aload_n hx hb dX7_shown_0 rfl (lv_at hl 0 rfl) ?_
  refine lv_iload_n hx hb dX7_shown_1 rfl (lv_at hl 1 rfl) ?_
  refine lv_if_lt (tgt := 11) hx hb dX7_shown_2 (by decide) (fun c_1 => ?_) (fun c_1 => absurd hb0 c_1)
  refine lv_iconst (v := 1) hx hb dX7_shown_11 (by decide) ?_
  refine lv_goto (tgt := 16) hx hb dX7_shown_12 (by decide) ?_
  refine va_put (D := (dC, dI)) (ci := 7) (v := .int 1) (ty := .int) (C := RX7) (T := TX7) (N := 30) hx hb hts zx_7 tyX7 tyX7_ok nmX7 hown hK hP hD hS 0 rfl rfl 29 (by decide) (hts (.fieldLink RX7 39 "KeyboardKitModel" "thrown" "I") zw_749) (fun _ h9 => h9) rfl (by decide +kernel) rfl rfl (Nat.le_of_ble_eq_true rfl) dX7_shown_16 (fun H locs hP hD hS => ?_)
  have hP : va_P (dC, dI) vwCl [(b_o, .inr (7, [.ref b_m, .ref b_r, .int 0, .int pc, .int tk, .int 0, .int 0, .int 0, .int 7, .int 0, .ref b_l, .int 0, .int 0, .int 0, .int 0, .int 0, .int 0, .int 0, .int 0, .int g, .ref b_d, .ref b_w, .ref b_c, .int 0, .ref b_q, .int 0, .int 0, .int 0, .ref b_s, .int 1]))] H := hP
  have hD : va_D A [(b_o, .inr (7, [.ref b_m, .ref b_r, .int 0, .int pc, .int tk, .int 0, .int 0, .int 0, .int 7, .int 0, .ref b_l, .int 0, .int 0, .int 0, .int 0, .int 0, .int 0, .int 0, .int 0, .int g, .ref b_d, .ref b_w, .ref b_c, .int 0, .ref b_q, .int 0, .int 0, .int 0, .ref b_s, .int 1]))] := hD
  refine lv_aload_n hx hb dX7_shown_19 rfl (lv_at hl 0 rfl) ?_
  refine va_get (D := (dC, dI)) (ci := 7) (v := .int 1) (C := RX7) (T := TX7) (N := 30) hx hb hts zx_7 hown hK hP 0 rfl rfl 29 (by decide) (hts (.fieldLink RX7 39 "KeyboardKitModel" "thrown" "I") zw_749) (fun _ h9 => h9) rfl dX7_shown_20 ?_
  refine lv_if_ne (tgt := 35) hx hb dX7_shown_23 (by decide) (fun c_2 => ?_) (fun c_2 => absurd c_2 (by decide))
  refine lv_iconst (v := 0) hx hb dX7_shown_35 (by decide) ?_
  have hP9 := hP.sub (ws' := [(b_o, .inr (7, [.ref b_m, .ref b_r, .int 0, .int pc, .int tk, .int 0, .int 0, .int 0, .int 7, .int 0, .ref b_l, .int 0, .int 0, .int 0, .int 0, .int 0, .int 0, .int 0, .int 0, .int g, .ref b_d, .ref b_w, .ref b_c, .int 0, .ref b_q, .int 0, .int 0, .int 0, .ref b_s, .int 1]))]) [0] rfl
  have hD9 := hD.sub (ws' := [(b_o, .inr (7, [.ref b_m, .ref b_r, .int 0, .int pc, .int tk, .int 0, .int 0, .int 0, .int 7, .int 0, .ref b_l, .int 0, .int 0, .int 0, .int 0, .int 0, .int 0, .int 0, .int 0, .int g, .ref b_d, .ref b_w, .ref b_c, .int 0, .ref b_q, .int 0, .int 0, .int 0, .ref b_s, .int 1]))]) [0] (by decide) rfl
  have hK9 := hK.sub (tys' := []) [] rfl
  exact W.iret (v := 0) hx hb hr (fun t9 ht hW => ⟨⟨0, (), rfl, rfl, by rw [ht]; exact hP9, va_K.moved hW.alike hK9, hD9⟩, hS.F ht⟩) hS.2.2 dX7_shown_36
set_option maxHeartbeats 4000000 in
set_option maxRecDepth 100000 in
theorem r_shown_big (l : Launch) (dC : Nat → ClassId) (dI : Nat → Nat → Nat) (b_o : Nat) (b_m : Nat) (b_r : Nat) (b_l : Nat) (b_d : Nat) (b_w : Nat) (b_c : Nat) (b_q : Nat) (b_s : Nat) (pc : Int32) (tk : Int32) (g : Int32) (th : Int32) (k : Int32) (hb0 : ¬ k < 0) (hb1 : ¬ k ≤ 15) (sz : Nat) : Met l yX7_shown (zq yX7_shown cX7_shown 2 (some .int)) ({ frames := 0, cells := 0, slots := 0, locals := 0 }) (va_Pc [.ref b_o, .int k] (zc_P (dC, dI) [(b_o, .inr (7, [.ref b_m, .ref b_r, .int 0, .int pc, .int tk, .int 0, .int 0, .int 0, .int 7, .int 0, .ref b_l, .int 0, .int 0, .int 0, .int 0, .int 0, .int 0, .int 0, .int 0, .int g, .ref b_d, .ref b_w, .ref b_c, .int 0, .ref b_q, .int 0, .int 0, .int 0, .ref b_s, .int th]))] [] sz)) (va_Qi (fun r _ => r = 0) (fun (u : Unit) t9 => zc_B (dC, dI) (va_A [(b_o, .inr (7, [.ref b_m, .ref b_r, .int 0, .int pc, .int tk, .int 0, .int 0, .int 0, .int 7, .int 0, .ref b_l, .int 0, .int 0, .int 0, .int 0, .int 0, .int 0, .int 0, .int 0, .int g, .ref b_d, .ref b_w, .ref b_c, .int 0, .ref b_q, .int 0, .int 0, .int 0, .ref b_s, .int th]))] sz) [(b_o, .inr (7, [.ref b_m, .ref b_r, .int 0, .int pc, .int tk, .int 0, .int 0, .int 0, .int 7, .int 0, .ref b_l, .int 0, .int 0, .int 0, .int 0, .int 0, .int 0, .int 0, .int 0, .int g, .ref b_d, .ref b_w, .ref b_c, .int 0, .ref b_q, .int 0, .int 0, .int 0, .ref b_s, .int 1]))] [] t9) (va_A [(b_o, .inr (7, [.ref b_m, .ref b_r, .int 0, .int pc, .int tk, .int 0, .int 0, .int 0, .int 7, .int 0, .ref b_l, .int 0, .int 0, .int 0, .int 0, .int 0, .int 0, .int 0, .int 0, .int g, .ref b_d, .ref b_w, .ref b_c, .int 0, .ref b_q, .int 0, .int 0, .int 0, .ref b_s, .int th]))] sz)) 0 0 (va_A [(b_o, .inr (7, [.ref b_m, .ref b_r, .int 0, .int pc, .int tk, .int 0, .int 0, .int 0, .int 7, .int 0, .ref b_l, .int 0, .int 0, .int 0, .int 0, .int 0, .int 0, .int 0, .int 0, .int g, .ref b_d, .ref b_w, .ref b_c, .int 0, .ref b_q, .int 0, .int 0, .int 0, .ref b_s, .int th]))] sz) := by
  refine Met.ofW (cc := cX7_shown) (maxL := 2) (ret := (some .int)) (by decide) rfl ?_
  intro p e s m args below meth c s₁ B hml hv
  obtain ⟨rfl, hsz, hP, hK, hD0, hN⟩ := hv
  have hx := B.exec
  have hb := B.bytes
  have hr := B.returns
  have hts : ∀ w ∈ zw, w.before _ s = true := fun w h => atoms_spec (ws := (zq yX7_shown cX7_shown 2 (some .int))) B.pre w (List.mem_cons_of_mem _ h)
  have hown : s.vm.findClass RX7 = some m.cls := findClass_of_methodNamed B.named
  have hlocks := B.notSynchronized
  subst hsz
  have hD := hD0.self (sz := s.heap.size)
  generalize hAe : va_A [(b_o, .inr (7, [.ref b_m, .ref b_r, .int 0, .int pc, .int tk, .int 0, .int 0, .int 0, .int 7, .int 0, .ref b_l, .int 0, .int 0, .int 0, .int 0, .int 0, .int 0, .int 0, .int 0, .int g, .ref b_d, .ref b_w, .ref b_c, .int 0, .ref b_q, .int 0, .int 0, .int 0, .ref b_s, .int th]))] s.heap.size = A at hD ⊢
  have hA : ∀ q : Nat, s.heap.size ≤ q → A q := fun q h => by rw [← hAe]; exact Or.inr h
  have hS : va_S A s.heap s.heap [] := va_S.rf
  have hP : va_P (dC, dI) vwCl [(b_o, .inr (7, [.ref b_m, .ref b_r, .int 0, .int pc, .int tk, .int 0, .int 0, .int 0, .int 7, .int 0, .ref b_l, .int 0, .int 0, .int 0, .int 0, .int 0, .int 0, .int 0, .int 0, .int g, .ref b_d, .ref b_w, .ref b_c, .int 0, .ref b_q, .int 0, .int 0, .int 0, .ref b_s, .int th]))] s.heap := hP
  have hl := lv_entry ([.ref b_o, .int k]) (n := 2) (Nat.le_of_ble_eq_true rfl)
  rw [lg_entry_eq]
  generalize (lg_sl ([.ref b_o, .int k]) ++ List.replicate (2 - (lg_sl ([.ref b_o, .int k])).length) Slot.unset).toArray = ls at hl ⊢
  have hl : lv_has ls 2 [(0, .ref b_o), (1, .int k)] := hl
  refine lv_aload_n hx hb dX7_shown_0 rfl (lv_at hl 0 rfl) ?_
  refine lv_iload_n hx hb dX7_shown_1 rfl (lv_at hl 1 rfl) ?_
  refine lv_if_lt (tgt := 11) hx hb dX7_shown_2 (by decide) (fun c_1 => absurd c_1 hb0) (fun c_1 => ?_)
  refine lv_iload_n hx hb dX7_shown_5 rfl (lv_at hl 1 rfl) ?_
  refine lv_bipush (v := 15) hx hb dX7_shown_6 (by decide) ?_
  refine lv_icmp_le (tgt := 15) hx hb dX7_shown_8 (by decide) (fun c_2 => absurd c_2 hb1) (fun c_2 => ?_)
  refine lv_iconst (v := 1) hx hb dX7_shown_11 (by decide) ?_
  refine lv_goto (tgt := 16) hx hb dX7_shown_12 (by decide) ?_
  refine va_put (D := (dC, dI)) (ci := 7) (v := .int 1) (ty := .int) (C := RX7) (T := TX7) (N := 30) hx hb hts zx_7 tyX7 tyX7_ok nmX7 hown hK hP hD hS 0 rfl rfl 29 (by decide) (hts (.fieldLink RX7 39 "KeyboardKitModel" "thrown" "I") zw_749) (fun _ h9 => h9) rfl (by decide +kernel) rfl rfl (Nat.le_of_ble_eq_true rfl) dX7_shown_16 (fun H locs hP hD hS => ?_)
  have hP : va_P (dC, dI) vwCl [(b_o, .inr (7, [.ref b_m, .ref b_r, .int 0, .int pc, .int tk, .int 0, .int 0, .int 0, .int 7, .int 0, .ref b_l, .int 0, .int 0, .int 0, .int 0, .int 0, .int 0, .int 0, .int 0, .int g, .ref b_d, .ref b_w, .ref b_c, .int 0, .ref b_q, .int 0, .int 0, .int 0, .ref b_s, .int 1]))] H := hP
  have hD : va_D A [(b_o, .inr (7, [.ref b_m, .ref b_r, .int 0, .int pc, .int tk, .int 0, .int 0, .int 0, .int 7, .int 0, .ref b_l, .int 0, .int 0, .int 0, .int 0, .int 0, .int 0, .int 0, .int 0, .int g, .ref b_d, .ref b_w, .ref b_c, .int 0, .ref b_q, .int 0, .int 0, .int 0, .ref b_s, .int 1]))] := hD
  refine lv_aload_n hx hb dX7_shown_19 rfl (lv_at hl 0 rfl) ?_
  refine va_get (D := (dC, dI)) (ci := 7) (v := .int 1) (C := RX7) (T := TX7) (N := 30) hx hb hts zx_7 hown hK hP 0 rfl rfl 29 (by decide) (hts (.fieldLink RX7 39 "KeyboardKitModel" "thrown" "I") zw_749) (fun _ h9 => h9) rfl dX7_shown_20 ?_
  refine lv_if_ne (tgt := 35) hx hb dX7_shown_23 (by decide) (fun c_3 => ?_) (fun c_3 => absurd c_3 (by decide))
  refine lv_iconst (v := 0) hx hb dX7_shown_35 (by decide) ?_
  have hP9 := hP.sub (ws' := [(b_o, .inr (7, [.ref b_m, .ref b_r, .int 0, .int pc, .int tk, .int 0, .int 0, .int 0, .int 7, .int 0, .ref b_l, .int 0, .int 0, .int 0, .int 0, .int 0, .int 0, .int 0, .int 0, .int g, .ref b_d, .ref b_w, .ref b_c, .int 0, .ref b_q, .int 0, .int 0, .int 0, .ref b_s, .int 1]))]) [0] rfl
  have hD9 := hD.sub (ws' := [(b_o, .inr (7, [.ref b_m, .ref b_r, .int 0, .int pc, .int tk, .int 0, .int 0, .int 0, .int 7, .int 0, .ref b_l, .int 0, .int 0, .int 0, .int 0, .int 0, .int 0, .int 0, .int 0, .int g, .ref b_d, .ref b_w, .ref b_c, .int 0, .ref b_q, .int 0, .int 0, .int 0, .ref b_s, .int 1]))]) [0] (by decide) rfl
  have hK9 := hK.sub (tys' := []) [] rfl
  exact W.iret (v := 0) hx hb hr (fun t9 ht hW => ⟨⟨0, (), rfl, rfl, by rw [ht]; exact hP9, va_K.moved hW.alike hK9, hD9⟩, hS.F ht⟩) hS.2.2 dX7_shown_36
set_option maxHeartbeats 4000000 in
set_option maxRecDepth 100000 in
theorem r_set_neg (l : Launch) (dC : Nat → ClassId) (dI : Nat → Nat → Nat) (b_o : Nat) (b_m : Nat) (b_r : Nat) (b_l : Nat) (b_d : Nat) (b_w : Nat) (b_c : Nat) (b_q : Nat) (b_s : Nat) (pc : Int32) (tk : Int32) (g : Int32) (th : Int32) (k : Int32) (v : Int32) (hb0 : k < 0) (sz : Nat) : Met l yX7_set (zq yX7_set cX7_set 3 none) ({ frames := 0, cells := 0, slots := 0, locals := 0 }) (va_Pc [.ref b_o, .int k, .int v] (zc_P (dC, dI) [(b_o, .inr (7, [.ref b_m, .ref b_r, .int 0, .int pc, .int tk, .int 0, .int 0, .int 0, .int 7, .int 0, .ref b_l, .int 0, .int 0, .int 0, .int 0, .int 0, .int 0, .int 0, .int 0, .int g, .ref b_d, .ref b_w, .ref b_c, .int 0, .ref b_q, .int 0, .int 0, .int 0, .ref b_s, .int th]))] [] sz)) (va_Qv (fun _ => True) (fun (u : Unit) t9 => zc_B (dC, dI) (va_A [(b_o, .inr (7, [.ref b_m, .ref b_r, .int 0, .int pc, .int tk, .int 0, .int 0, .int 0, .int 7, .int 0, .ref b_l, .int 0, .int 0, .int 0, .int 0, .int 0, .int 0, .int 0, .int 0, .int g, .ref b_d, .ref b_w, .ref b_c, .int 0, .ref b_q, .int 0, .int 0, .int 0, .ref b_s, .int th]))] sz) [(b_o, .inr (7, [.ref b_m, .ref b_r, .int 0, .int pc, .int tk, .int 0, .int 0, .int 0, .int 7, .int 0, .ref b_l, .int 0, .int 0, .int 0, .int 0, .int 0, .int 0, .int 0, .int 0, .int g, .ref b_d, .ref b_w, .ref b_c, .int 0, .ref b_q, .int 0, .int 0, .int 0, .ref b_s, .int 1]))] [] t9) (va_A [(b_o, .inr (7, [.ref b_m, .ref b_r, .int 0, .int pc, .int tk, .int 0, .int 0, .int 0, .int 7, .int 0, .ref b_l, .int 0, .int 0, .int 0, .int 0, .int 0, .int 0, .int 0, .int 0, .int g, .ref b_d, .ref b_w, .ref b_c, .int 0, .ref b_q, .int 0, .int 0, .int 0, .ref b_s, .int th]))] sz)) 0 0 (va_A [(b_o, .inr (7, [.ref b_m, .ref b_r, .int 0, .int pc, .int tk, .int 0, .int 0, .int 0, .int 7, .int 0, .ref b_l, .int 0, .int 0, .int 0, .int 0, .int 0, .int 0, .int 0, .int 0, .int g, .ref b_d, .ref b_w, .ref b_c, .int 0, .ref b_q, .int 0, .int 0, .int 0, .ref b_s, .int th]))] sz) := by
  refine Met.ofW (cc := cX7_set) (maxL := 3) (ret := none) (by decide) rfl ?_
  intro p e s m args below meth c s₁ B hml hv
  obtain ⟨rfl, hsz, hP, hK, hD0, hN⟩ := hv
  have hx := B.exec
  have hb := B.bytes
  have hr := B.returns
  have hts : ∀ w ∈ zw, w.before _ s = true := fun w h => atoms_spec (ws := (zq yX7_set cX7_set 3 none)) B.pre w (List.mem_cons_of_mem _ h)
  have hown : s.vm.findClass RX7 = some m.cls := findClass_of_methodNamed B.named
  have hlocks := B.notSynchronized
  subst hsz
  have hD := hD0.self (sz := s.heap.size)
  generalize hAe : va_A [(b_o, .inr (7, [.ref b_m, .ref b_r, .int 0, .int pc, .int tk, .int 0, .int 0, .int 0, .int 7, .int 0, .ref b_l, .int 0, .int 0, .int 0, .int 0, .int 0, .int 0, .int 0, .int 0, .int g, .ref b_d, .ref b_w, .ref b_c, .int 0, .ref b_q, .int 0, .int 0, .int 0, .ref b_s, .int th]))] s.heap.size = A at hD ⊢
  have hA : ∀ q : Nat, s.heap.size ≤ q → A q := fun q h => by rw [← hAe]; exact Or.inr h
  have hS : va_S A s.heap s.heap [] := va_S.rf
  have hP : va_P (dC, dI) vwCl [(b_o, .inr (7, [.ref b_m, .ref b_r, .int 0, .int pc, .int tk, .int 0, .int 0, .int 0, .int 7, .int 0, .ref b_l, .int 0, .int 0, .int 0, .int 0, .int 0, .int 0, .int 0, .int 0, .int g, .ref b_d, .ref b_w, .ref b_c, .int 0, .ref b_q, .int 0, .int 0, .int 0, .ref b_s, .int th]))] s.heap := hP
  have hl := lv_entry ([.ref b_o, .int k, .int v]) (n := 3) (Nat.le_of_ble_eq_true rfl)
  rw [lg_entry_eq]
  generalize (lg_sl ([.ref b_o, .int k, .int v]) ++ List.replicate (3 - (lg_sl ([.ref b_o, .int k, .int v])).length) Slot.unset).toArray = ls at hl ⊢
  have hl : lv_has ls 3 [(0, .ref b_o), (1, .int k), (2, .int v)] := hl
  refine lv_aload_n hx hb dX7_set_0 rfl (lv_at hl 0 rfl) ?_
  refine lv_iload_n hx hb dX7_set_1 rfl (lv_at hl 1 rfl) ?_
  refine lv_if_lt (tgt := 11) hx hb dX7_set_2 (by decide) (fun c_1 => ?_) (fun c_1 => absurd hb0 c_1)
  refine lv_iconst (v := 1) hx hb dX7_set_11 (by decide) ?_
  refine lv_goto (tgt := 16) hx hb dX7_set_12 (by decide) ?_
  refine va_put (D := (dC, dI)) (ci := 7) (v := .int 1) (ty := .int) (C := RX7) (T := TX7) (N := 30) hx hb hts zx_7 tyX7 tyX7_ok nmX7 hown hK hP hD hS 0 rfl rfl 29 (by decide) (hts (.fieldLink RX7 39 "KeyboardKitModel" "thrown" "I") zw_749) (fun _ h9 => h9) rfl (by decide +kernel) rfl rfl (Nat.le_of_ble_eq_true rfl) dX7_set_16 (fun H locs hP hD hS => ?_)
  have hP : va_P (dC, dI) vwCl [(b_o, .inr (7, [.ref b_m, .ref b_r, .int 0, .int pc, .int tk, .int 0, .int 0, .int 0, .int 7, .int 0, .ref b_l, .int 0, .int 0, .int 0, .int 0, .int 0, .int 0, .int 0, .int 0, .int g, .ref b_d, .ref b_w, .ref b_c, .int 0, .ref b_q, .int 0, .int 0, .int 0, .ref b_s, .int 1]))] H := hP
  have hD : va_D A [(b_o, .inr (7, [.ref b_m, .ref b_r, .int 0, .int pc, .int tk, .int 0, .int 0, .int 0, .int 7, .int 0, .ref b_l, .int 0, .int 0, .int 0, .int 0, .int 0, .int 0, .int 0, .int 0, .int g, .ref b_d, .ref b_w, .ref b_c, .int 0, .ref b_q, .int 0, .int 0, .int 0, .ref b_s, .int 1]))] := hD
  refine lv_aload_n hx hb dX7_set_19 rfl (lv_at hl 0 rfl) ?_
  refine va_get (D := (dC, dI)) (ci := 7) (v := .int 1) (C := RX7) (T := TX7) (N := 30) hx hb hts zx_7 hown hK hP 0 rfl rfl 29 (by decide) (hts (.fieldLink RX7 39 "KeyboardKitModel" "thrown" "I") zw_749) (fun _ h9 => h9) rfl dX7_set_20 ?_
  refine lv_if_eq (tgt := 27) hx hb dX7_set_23 (by decide) (fun c_2 => absurd c_2 (by decide)) (fun c_2 => ?_)
  have hP9 := hP.sub (ws' := [(b_o, .inr (7, [.ref b_m, .ref b_r, .int 0, .int pc, .int tk, .int 0, .int 0, .int 0, .int 7, .int 0, .ref b_l, .int 0, .int 0, .int 0, .int 0, .int 0, .int 0, .int 0, .int 0, .int g, .ref b_d, .ref b_w, .ref b_c, .int 0, .ref b_q, .int 0, .int 0, .int 0, .ref b_s, .int 1]))]) [0] rfl
  have hD9 := hD.sub (ws' := [(b_o, .inr (7, [.ref b_m, .ref b_r, .int 0, .int pc, .int tk, .int 0, .int 0, .int 0, .int 7, .int 0, .ref b_l, .int 0, .int 0, .int 0, .int 0, .int 0, .int 0, .int 0, .int 0, .int g, .ref b_d, .ref b_w, .ref b_c, .int 0, .ref b_q, .int 0, .int 0, .int 0, .ref b_s, .int 1]))]) [0] (by decide) rfl
  have hK9 := hK.sub (tys' := []) [] rfl
  exact W.vret hx hb hr (fun t9 ht hW => ⟨⟨(), rfl, trivial, by rw [ht]; exact hP9, va_K.moved hW.alike hK9, hD9⟩, hS.F ht⟩) hS.2.2 dX7_set_26
set_option maxHeartbeats 4000000 in
set_option maxRecDepth 100000 in
theorem r_set_big (l : Launch) (dC : Nat → ClassId) (dI : Nat → Nat → Nat) (b_o : Nat) (b_m : Nat) (b_r : Nat) (b_l : Nat) (b_d : Nat) (b_w : Nat) (b_c : Nat) (b_q : Nat) (b_s : Nat) (pc : Int32) (tk : Int32) (g : Int32) (th : Int32) (k : Int32) (v : Int32) (hb0 : ¬ k < 0) (hb1 : ¬ k ≤ 9) (sz : Nat) : Met l yX7_set (zq yX7_set cX7_set 3 none) ({ frames := 0, cells := 0, slots := 0, locals := 0 }) (va_Pc [.ref b_o, .int k, .int v] (zc_P (dC, dI) [(b_o, .inr (7, [.ref b_m, .ref b_r, .int 0, .int pc, .int tk, .int 0, .int 0, .int 0, .int 7, .int 0, .ref b_l, .int 0, .int 0, .int 0, .int 0, .int 0, .int 0, .int 0, .int 0, .int g, .ref b_d, .ref b_w, .ref b_c, .int 0, .ref b_q, .int 0, .int 0, .int 0, .ref b_s, .int th]))] [] sz)) (va_Qv (fun _ => True) (fun (u : Unit) t9 => zc_B (dC, dI) (va_A [(b_o, .inr (7, [.ref b_m, .ref b_r, .int 0, .int pc, .int tk, .int 0, .int 0, .int 0, .int 7, .int 0, .ref b_l, .int 0, .int 0, .int 0, .int 0, .int 0, .int 0, .int 0, .int 0, .int g, .ref b_d, .ref b_w, .ref b_c, .int 0, .ref b_q, .int 0, .int 0, .int 0, .ref b_s, .int th]))] sz) [(b_o, .inr (7, [.ref b_m, .ref b_r, .int 0, .int pc, .int tk, .int 0, .int 0, .int 0, .int 7, .int 0, .ref b_l, .int 0, .int 0, .int 0, .int 0, .int 0, .int 0, .int 0, .int 0, .int g, .ref b_d, .ref b_w, .ref b_c, .int 0, .ref b_q, .int 0, .int 0, .int 0, .ref b_s, .int 1]))] [] t9) (va_A [(b_o, .inr (7, [.ref b_m, .ref b_r, .int 0, .int pc, .int tk, .int 0, .int 0, .int 0, .int 7, .int 0, .ref b_l, .int 0, .int 0, .int 0, .int 0, .int 0, .int 0, .int 0, .int 0, .int g, .ref b_d, .ref b_w, .ref b_c, .int 0, .ref b_q, .int 0, .int 0, .int 0, .ref b_s, .int th]))] sz)) 0 0 (va_A [(b_o, .inr (7, [.ref b_m, .ref b_r, .int 0, .int pc, .int tk, .int 0, .int 0, .int 0, .int 7, .int 0, .ref b_l, .int 0, .int 0, .int 0, .int 0, .int 0, .int 0, .int 0, .int 0, .int g, .ref b_d, .ref b_w, .ref b_c, .int 0, .ref b_q, .int 0, .int 0, .int 0, .ref b_s, .int th]))] sz) := by
  refine Met.ofW (cc := cX7_set) (maxL := 3) (ret := none) (by decide) rfl ?_
  intro p e s m args below meth c s₁ B hml hv
  obtain ⟨rfl, hsz, hP, hK, hD0, hN⟩ := hv
  have hx := B.exec
  have hb := B.bytes
  have hr := B.returns
  have hts : ∀ w ∈ zw, w.before _ s = true := fun w h => atoms_spec (ws := (zq yX7_set cX7_set 3 none)) B.pre w (List.mem_cons_of_mem _ h)
  have hown : s.vm.findClass RX7 = some m.cls := findClass_of_methodNamed B.named
  have hlocks := B.notSynchronized
  subst hsz
  have hD := hD0.self (sz := s.heap.size)
  generalize hAe : va_A [(b_o, .inr (7, [.ref b_m, .ref b_r, .int 0, .int pc, .int tk, .int 0, .int 0, .int 0, .int 7, .int 0, .ref b_l, .int 0, .int 0, .int 0, .int 0, .int 0, .int 0, .int 0, .int 0, .int g, .ref b_d, .ref b_w, .ref b_c, .int 0, .ref b_q, .int 0, .int 0, .int 0, .ref b_s, .int th]))] s.heap.size = A at hD ⊢
  have hA : ∀ q : Nat, s.heap.size ≤ q → A q := fun q h => by rw [← hAe]; exact Or.inr h
  have hS : va_S A s.heap s.heap [] := va_S.rf
  have hP : va_P (dC, dI) vwCl [(b_o, .inr (7, [.ref b_m, .ref b_r, .int 0, .int pc, .int tk, .int 0, .int 0, .int 0, .int 7, .int 0, .ref b_l, .int 0, .int 0, .int 0, .int 0, .int 0, .int 0, .int 0, .int 0, .int g, .ref b_d, .ref b_w, .ref b_c, .int 0, .ref b_q, .int 0, .int 0, .int 0, .ref b_s, .int th]))] s.heap := hP
  have hl := lv_entry ([.ref b_o, .int k, .int v]) (n := 3) (Nat.le_of_ble_eq_true rfl)
  rw [lg_entry_eq]
  generalize (lg_sl ([.ref b_o, .int k, .int v]) ++ List.replicate (3 - (lg_sl ([.ref b_o, .int k, .int v])).length) Slot.unset).toArray = ls at hl ⊢
  have hl : lv_has ls 3 [(0, .ref b_o), (1, .int k), (2, .int v)] := hl
  refine lv_aload_n hx hb dX7_set_0 rfl (lv_at hl 0 rfl) ?_
  refine lv_iload_n hx hb dX7_set_1 rfl (lv_at hl 1 rfl) ?_
  refine lv_if_lt (tgt := 11) hx hb dX7_set_2 (by decide) (fun c_1 => absurd c_1 hb0) (fun c_1 => ?_)
  refine lv_iload_n hx hb dX7_set_5 rfl (lv_at hl 1 rfl) ?_
  refine lv_bipush (v := 9) hx hb dX7_set_6 (by decide) ?_
  refine lv_icmp_le (tgt := 15) hx hb dX7_set_8 (by decide) (fun c_2 => absurd c_2 hb1) (fun c_2 => ?_)
  refine lv_iconst (v := 1) hx hb dX7_set_11 (by decide) ?_
  refine lv_goto (tgt := 16) hx hb dX7_set_12 (by decide) ?_
  refine va_put (D := (dC, dI)) (ci := 7) (v := .int 1) (ty := .int) (C := RX7) (T := TX7) (N := 30) hx hb hts zx_7 tyX7 tyX7_ok nmX7 hown hK hP hD hS 0 rfl rfl 29 (by decide) (hts (.fieldLink RX7 39 "KeyboardKitModel" "thrown" "I") zw_749) (fun _ h9 => h9) rfl (by decide +kernel) rfl rfl (Nat.le_of_ble_eq_true rfl) dX7_set_16 (fun H locs hP hD hS => ?_)
  have hP : va_P (dC, dI) vwCl [(b_o, .inr (7, [.ref b_m, .ref b_r, .int 0, .int pc, .int tk, .int 0, .int 0, .int 0, .int 7, .int 0, .ref b_l, .int 0, .int 0, .int 0, .int 0, .int 0, .int 0, .int 0, .int 0, .int g, .ref b_d, .ref b_w, .ref b_c, .int 0, .ref b_q, .int 0, .int 0, .int 0, .ref b_s, .int 1]))] H := hP
  have hD : va_D A [(b_o, .inr (7, [.ref b_m, .ref b_r, .int 0, .int pc, .int tk, .int 0, .int 0, .int 0, .int 7, .int 0, .ref b_l, .int 0, .int 0, .int 0, .int 0, .int 0, .int 0, .int 0, .int 0, .int g, .ref b_d, .ref b_w, .ref b_c, .int 0, .ref b_q, .int 0, .int 0, .int 0, .ref b_s, .int 1]))] := hD
  refine lv_aload_n hx hb dX7_set_19 rfl (lv_at hl 0 rfl) ?_
  refine va_get (D := (dC, dI)) (ci := 7) (v := .int 1) (C := RX7) (T := TX7) (N := 30) hx hb hts zx_7 hown hK hP 0 rfl rfl 29 (by decide) (hts (.fieldLink RX7 39 "KeyboardKitModel" "thrown" "I") zw_749) (fun _ h9 => h9) rfl dX7_set_20 ?_
  refine lv_if_eq (tgt := 27) hx hb dX7_set_23 (by decide) (fun c_3 => absurd c_3 (by decide)) (fun c_3 => ?_)
  have hP9 := hP.sub (ws' := [(b_o, .inr (7, [.ref b_m, .ref b_r, .int 0, .int pc, .int tk, .int 0, .int 0, .int 0, .int 7, .int 0, .ref b_l, .int 0, .int 0, .int 0, .int 0, .int 0, .int 0, .int 0, .int 0, .int g, .ref b_d, .ref b_w, .ref b_c, .int 0, .ref b_q, .int 0, .int 0, .int 0, .ref b_s, .int 1]))]) [0] rfl
  have hD9 := hD.sub (ws' := [(b_o, .inr (7, [.ref b_m, .ref b_r, .int 0, .int pc, .int tk, .int 0, .int 0, .int 0, .int 7, .int 0, .ref b_l, .int 0, .int 0, .int 0, .int 0, .int 0, .int 0, .int 0, .int 0, .int g, .ref b_d, .ref b_w, .ref b_c, .int 0, .ref b_q, .int 0, .int 0, .int 0, .ref b_s, .int 1]))]) [0] (by decide) rfl
  have hK9 := hK.sub (tys' := []) [] rfl
  exact W.vret hx hb hr (fun t9 ht hW => ⟨⟨(), rfl, trivial, by rw [ht]; exact hP9, va_K.moved hW.alike hK9, hD9⟩, hS.F ht⟩) hS.2.2 dX7_set_26
