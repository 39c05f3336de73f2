theorem dX2_status_0 : decode cX2_status 0 = .ok (.aload_n 0, 1) := by decide +kernel
theorem dX2_status_1 : decode cX2_status 1 = .ok (.getfield 32, 3) := by decide +kernel
theorem dX2_status_11 : decode cX2_status 11 = .ok (.bipush 8, 2) := by decide +kernel
theorem dX2_status_13 : decode cX2_status 13 = .ok (.if_icmp .ne 8, 3) := by decide +kernel
theorem dX2_status_21 : decode cX2_status 21 = .ok (.iconst 0, 1) := by decide +kernel
theorem dX2_status_22 : decode cX2_status 22 = .ok (.iadd, 1) := by decide +kernel
theorem dX2_status_23 : decode cX2_status 23 = .ok (.aload_n 0, 1) := by decide +kernel
theorem dX2_status_24 : decode cX2_status 24 = .ok (.getfield 35, 3) := by decide +kernel
theorem dX2_status_27 : decode cX2_status 27 = .ok (.ifCond .eq 8, 3) := by decide +kernel
theorem dX2_status_35 : decode cX2_status 35 = .ok (.iconst 0, 1) := by decide +kernel
theorem dX2_status_36 : decode cX2_status 36 = .ok (.iadd, 1) := by decide +kernel
theorem dX2_status_37 : decode cX2_status 37 = .ok (.aload_n 0, 1) := by decide +kernel
theorem dX2_status_38 : decode cX2_status 38 = .ok (.getfield 48, 3) := by decide +kernel
theorem dX2_status_4 : decode cX2_status 4 = .ok (.bipush 7, 2) := by decide +kernel
theorem dX2_status_41 : decode cX2_status 41 = .ok (.ifCond .eq 8, 3) := by decide +kernel
theorem dX2_status_49 : decode cX2_status 49 = .ok (.iconst 0, 1) := by decide +kernel
theorem dX2_status_50 : decode cX2_status 50 = .ok (.iadd, 1) := by decide +kernel
theorem dX2_status_51 : decode cX2_status 51 = .ok (.ireturn, 1) := by decide +kernel
theorem dX2_status_6 : decode cX2_status 6 = .ok (.iand, 1) := by decide +kernel
theorem dX2_status_7 : decode cX2_status 7 = .ok (.aload_n 0, 1) := by decide +kernel
theorem dX2_status_8 : decode cX2_status 8 = .ok (.getfield 32, 3) := by decide +kernel
theorem dX6_key_0 : decode cX6_key 0 = .ok (.iload_n 1, 1) := by decide +kernel
theorem dX6_key_1 : decode cX6_key 1 = .ok (.ifCond .lt 9, 3) := by decide +kernel
theorem dX6_key_20 : decode cX6_key 20 = .ok (.aload_n 0, 1) := by decide +kernel
theorem dX6_key_21 : decode cX6_key 21 = .ok (.getfield 23, 3) := by decide +kernel
theorem dX6_key_24 : decode cX6_key 24 = .ok (.getfield 59, 3) := by decide +kernel
theorem dX6_key_27 : decode cX6_key 27 = .ok (.iload_n 1, 1) := by decide +kernel
theorem dX6_key_28 : decode cX6_key 28 = .ok (.baload, 1) := by decide +kernel
theorem dX6_key_29 : decode cX6_key 29 = .ok (.istore_n 3, 1) := by decide +kernel
theorem dX6_key_30 : decode cX6_key 30 = .ok (.aload_n 0, 1) := by decide +kernel
theorem dX6_key_31 : decode cX6_key 31 = .ok (.getfield 23, 3) := by decide +kernel
theorem dX6_key_34 : decode cX6_key 34 = .ok (.getfield 59, 3) := by decide +kernel
theorem dX6_key_37 : decode cX6_key 37 = .ok (.iload_n 1, 1) := by decide +kernel
theorem dX6_key_38 : decode cX6_key 38 = .ok (.iload_n 2, 1) := by decide +kernel
theorem dX6_key_39 : decode cX6_key 39 = .ok (.bastore, 1) := by decide +kernel
theorem dX6_key_4 : decode cX6_key 4 = .ok (.iload_n 1, 1) := by decide +kernel
theorem dX6_key_40 : decode cX6_key 40 = .ok (.iload_n 3, 1) := by decide +kernel
theorem dX6_key_41 : decode cX6_key 41 = .ok (.ireturn, 1) := by decide +kernel
theorem dX6_key_5 : decode cX6_key 5 = .ok (.bipush 16, 2) := by decide +kernel
theorem dX6_key_7 : decode cX6_key 7 = .ok (.if_icmp .lt 13, 3) := by decide +kernel
theorem dX6_line_0 : decode cX6_line 0 = .ok (.iload_n 1, 1) := by decide +kernel
theorem dX6_line_1 : decode cX6_line 1 = .ok (.ifCond .lt 8, 3) := by decide +kernel
theorem dX6_line_19 : decode cX6_line 19 = .ok (.iload_n 1, 1) := by decide +kernel
theorem dX6_line_20 : decode cX6_line 20 = .ok (.ifCond .ne 22, 3) := by decide +kernel
theorem dX6_line_23 : decode cX6_line 23 = .ok (.aload_n 0, 1) := by decide +kernel
theorem dX6_line_24 : decode cX6_line 24 = .ok (.getfield 30, 3) := by decide +kernel
theorem dX6_line_27 : decode cX6_line 27 = .ok (.getfield 65, 3) := by decide +kernel
theorem dX6_line_30 : decode cX6_line 30 = .ok (.istore_n 3, 1) := by decide +kernel
theorem dX6_line_31 : decode cX6_line 31 = .ok (.aload_n 0, 1) := by decide +kernel
theorem dX6_line_32 : decode cX6_line 32 = .ok (.getfield 30, 3) := by decide +kernel
theorem dX6_line_35 : decode cX6_line 35 = .ok (.iload_n 2, 1) := by decide +kernel
theorem dX6_line_36 : decode cX6_line 36 = .ok (.putfield 65, 3) := by decide +kernel
theorem dX6_line_39 : decode cX6_line 39 = .ok (.goto 19, 3) := by decide +kernel
theorem dX6_line_4 : decode cX6_line 4 = .ok (.iload_n 1, 1) := by decide +kernel
theorem dX6_line_42 : decode cX6_line 42 = .ok (.aload_n 0, 1) := by decide +kernel
theorem dX6_line_43 : decode cX6_line 43 = .ok (.getfield 30, 3) := by decide +kernel
theorem dX6_line_46 : decode cX6_line 46 = .ok (.getfield 69, 3) := by decide +kernel
theorem dX6_line_49 : decode cX6_line 49 = .ok (.istore_n 3, 1) := by decide +kernel
theorem dX6_line_5 : decode cX6_line 5 = .ok (.iconst 1, 1) := by decide +kernel
theorem dX6_line_50 : decode cX6_line 50 = .ok (.aload_n 0, 1) := by decide +kernel
theorem dX6_line_51 : decode cX6_line 51 = .ok (.getfield 30, 3) := by decide +kernel
theorem dX6_line_54 : decode cX6_line 54 = .ok (.iload_n 2, 1) := by decide +kernel
theorem dX6_line_55 : decode cX6_line 55 = .ok (.putfield 69, 3) := by decide +kernel
theorem dX6_line_58 : decode cX6_line 58 = .ok (.iload_n 3, 1) := by decide +kernel
theorem dX6_line_59 : decode cX6_line 59 = .ok (.ireturn, 1) := by decide +kernel
theorem dX6_line_6 : decode cX6_line 6 = .ok (.if_icmp .le 13, 3) := by decide +kernel
theorem dX6_shown_0 : decode cX6_shown 0 = .ok (.iload_n 1, 1) := by decide +kernel
theorem dX6_shown_1 : decode cX6_shown 1 = .ok (.ifCond .lt 9, 3) := by decide +kernel
theorem dX6_shown_20 : decode cX6_shown 20 = .ok (.aload_n 0, 1) := by decide +kernel
theorem dX6_shown_21 : decode cX6_shown 21 = .ok (.getfield 23, 3) := by decide +kernel
theorem dX6_shown_24 : decode cX6_shown 24 = .ok (.getfield 113, 3) := by decide +kernel
theorem dX6_shown_27 : decode cX6_shown 27 = .ok (.iload_n 1, 1) := by decide +kernel
theorem dX6_shown_28 : decode cX6_shown 28 = .ok (.iaload, 1) := by decide +kernel
theorem dX6_shown_29 : decode cX6_shown 29 = .ok (.ireturn, 1) := by decide +kernel
theorem dX6_shown_4 : decode cX6_shown 4 = .ok (.iload_n 1, 1) := by decide +kernel
theorem dX6_shown_5 : decode cX6_shown 5 = .ok (.bipush 16, 2) := by decide +kernel
theorem dX6_shown_7 : decode cX6_shown 7 = .ok (.if_icmp .lt 13, 3) := by decide +kernel
set_option maxHeartbeats 4000000 in
set_option maxRecDepth 100000 in
/-- key(k, b) -/
theorem c_key (l : Launch) (dC : Nat → ClassId) (dI : Nat → Nat → Nat) (a_k : Nat) (a_m : Nat) (a_t : Nat) (a_u : Nat) (a_i : Nat) (a_p : Nat) (a_d : Nat) (a_b : Nat) (a_c : Nat) (a_q : Nat) (a_s : Nat) (k_d : ClassId) (t : Int32) (k : Int32) (b : Int32) (hk : vp_in k 16) (sz : Nat) : Met l yX6_key (zq yX6_key cX6_key 4 (some .boolean)) ({ frames := 0, cells := 0, slots := 0, locals := 0 }) (va_Pc [.ref a_k, .int k, .int b] (zc_P (dC, dI) [(a_k, .inr (6, [.ref a_m, .ref a_t, .ref a_u, .ref a_i, .ref a_p])), (a_u, .inr (2, [.ref a_d, .ref a_b, .ref a_c, .ref a_q, .int 0, .int 0, .int 0, .int 0, .ref a_s, .int 0, .int t])), (a_d, .inl (k_d, 16, .inl (fun _ => 0)))] [(k_d, .boolean)] sz)) (va_Qi (fun r _ => r = 0) (fun (u : Unit) t9 => zc_B (dC, dI) (va_A [(a_k, .inr (6, [.ref a_m, .ref a_t, .ref a_u, .ref a_i, .ref a_p])), (a_u, .inr (2, [.ref a_d, .ref a_b, .ref a_c, .ref a_q, .int 0, .int 0, .int 0, .int 0, .ref a_s, .int 0, .int t])), (a_d, .inl (k_d, 16, .inl (fun _ => 0)))] sz) [] [] t9) (va_A [(a_k, .inr (6, [.ref a_m, .ref a_t, .ref a_u, .ref a_i, .ref a_p])), (a_u, .inr (2, [.ref a_d, .ref a_b, .ref a_c, .ref a_q, .int 0, .int 0, .int 0, .int 0, .ref a_s, .int 0, .int t])), (a_d, .inl (k_d, 16, .inl (fun _ => 0)))] sz)) 0 0 (va_A [(a_k, .inr (6, [.ref a_m, .ref a_t, .ref a_u, .ref a_i, .ref a_p])), (a_u, .inr (2, [.ref a_d, .ref a_b, .ref a_c, .ref a_q, .int 0, .int 0, .int 0, .int 0, .ref a_s, .int 0, .int t])), (a_d, .inl (k_d, 16, .inl (fun _ => 0)))] sz) := by
  refine Met.ofW (cc := cX6_key) (maxL := 4) (ret := (some .boolean)) (by decide) rfl ?_
  intro p e s m args below meth c s₁ B hml hv
  obtain ⟨rfl, hsz, hP, hK, hD0, hN⟩ := hv
  have hx := B.exec
  have hb := B.bytes
  have hr := B.returns
  have hts : ∀ w ∈ zw, w.before _ s = true := fun w h => atoms_spec (ws := (zq yX6_key cX6_key 4 (some .boolean))) B.pre w (List.mem_cons_of_mem _ h)
  have hown : s.vm.findClass RX6 = some m.cls := findClass_of_methodNamed B.named
  have hlocks := B.notSynchronized
  subst hsz
  have hD := hD0.self (sz := s.heap.size)
  generalize hAe : va_A [(a_k, .inr (6, [.ref a_m, .ref a_t, .ref a_u, .ref a_i, .ref a_p])), (a_u, .inr (2, [.ref a_d, .ref a_b, .ref a_c, .ref a_q, .int 0, .int 0, .int 0, .int 0, .ref a_s, .int 0, .int t])), (a_d, .inl (k_d, 16, .inl (fun _ => 0)))] s.heap.size = A at hD ⊢
  have hA : ∀ q : Nat, s.heap.size ≤ q → A q := fun q h => by rw [← hAe]; exact Or.inr h
  have hS : va_S A s.heap s.heap [] := va_S.rf
  have hP : va_P (dC, dI) vwCl [(a_k, .inr (6, [.ref a_m, .ref a_t, .ref a_u, .ref a_i, .ref a_p])), (a_u, .inr (2, [.ref a_d, .ref a_b, .ref a_c, .ref a_q, .int 0, .int 0, .int 0, .int 0, .ref a_s, .int 0, .int t])), (a_d, .inl (k_d, 16, .inl (fun _ => 0)))] s.heap := hP
  have hl := lv_entry ([.ref a_k, .int k, .int b]) (n := 4) (Nat.le_of_ble_eq_true rfl)
  rw [lg_entry_eq]
  generalize (lg_sl ([.ref a_k, .int k, .int b]) ++ List.replicate (4 - (lg_sl ([.ref a_k, .int k, .int b])).length) Slot.unset).toArray = ls at hl ⊢
  have hl : lv_has ls 4 [(0, .ref a_k), (1, .int k), (2, .int b)] := hl
  refine lv_iload_n hx hb dX6_key_0 rfl (lv_at hl 1 rfl) ?_
  refine lv_if_lt (tgt := 10) hx hb dX6_key_1 (by decide) (fun c_1 => absurd c_1 (fun q => hk (Or.inl q))) (fun c_1 => ?_)
  refine lv_iload_n hx hb dX6_key_4 rfl (lv_at hl 1 rfl) ?_
  refine lv_bipush (v := 16) hx hb dX6_key_5 (by decide) ?_
  refine lv_icmp_lt (tgt := 20) hx hb dX6_key_7 (by decide) (fun c_2 => ?_) (fun c_2 => absurd (zl_lt (n := 16) hk (by decide)) c_2)
  refine lv_aload_n hx hb dX6_key_20 rfl (lv_at hl 0 rfl) ?_
  refine va_get (D := (dC, dI)) (ci := 6) (v := .ref a_u) (C := RX6) (T := TX6) (N := 5) hx hb hts zx_6 hown hK hP 0 rfl rfl 2 (by decide) (hts (.fieldLink RX6 23 "KeyboardKit" "unit" "LKeyboardKit$KeyUnit;") zw_290) (fun _ h9 => h9) rfl dX6_key_21 ?_
  refine va_getN (D := (dC, dI)) (ci := 2) (v := .ref a_d) (C := RX2) (T := TX2) (N := 11) hx hb hts zx_2 hown hK hP 1 rfl rfl 0 (by decide) (va_Nw.use rfl (nf_3 hN)) (fun _ h9 => h9) rfl dX6_key_24 ?_
  refine lv_iload_n hx hb dX6_key_27 rfl (lv_at hl 1 rfl) ?_
  refine va_zald hx hb hK hP 2 0 rfl rfl hk dX6_key_28 ?_
  refine lv_topi (fun v_3 ev_3 => ?_)
  obtain rfl : v_3 = 0 := ev_3.trans rfl
  refine lv_istore_n (lv' := [(3, .int 0), (0, .ref a_k), (1, .int k), (2, .int b)]) hx hb dX6_key_29 rfl hl (by decide) rfl (fun ls hl => ?_)
  refine lv_aload_n hx hb dX6_key_30 rfl (lv_at hl 1 rfl) ?_
  refine va_get (D := (dC, dI)) (ci := 6) (v := .ref a_u) (C := RX6) (T := TX6) (N := 5) hx hb hts zx_6 hown hK hP 0 rfl rfl 2 (by decide) (hts (.fieldLink RX6 23 "KeyboardKit" "unit" "LKeyboardKit$KeyUnit;") zw_290) (fun _ h9 => h9) rfl dX6_key_31 ?_
  refine va_getN (D := (dC, dI)) (ci := 2) (v := .ref a_d) (C := RX2) (T := TX2) (N := 11) hx hb hts zx_2 hown hK hP 1 rfl rfl 0 (by decide) (va_Nw.use rfl (nf_3 hN)) (fun _ h9 => h9) rfl dX6_key_34 ?_
  refine lv_iload_n hx hb dX6_key_37 rfl (lv_at hl 2 rfl) ?_
  refine lv_iload_n hx hb dX6_key_38 rfl (lv_at hl 3 rfl) ?_
  refine va_zast hx hb hK hP hD hS 2 0 rfl rfl hk dX6_key_39 (fun H locs hP hD hS => ?_)
  have hP : va_P (dC, dI) vwCl [(a_k, .inr (6, [.ref a_m, .ref a_t, .ref a_u, .ref a_i, .ref a_p])), (a_u, .inr (2, [.ref a_d, .ref a_b, .ref a_c, .ref a_q, .int 0, .int 0, .int 0, .int 0, .ref a_s, .int 0, .int t])), (a_d, .inl (k_d, 16, .inl (upd (fun _ => 0) (k : Int32).toNatClampNeg (vp_nar .boolean b))))] H := hP
  have hD : va_D A [(a_k, .inr (6, [.ref a_m, .ref a_t, .ref a_u, .ref a_i, .ref a_p])), (a_u, .inr (2, [.ref a_d, .ref a_b, .ref a_c, .ref a_q, .int 0, .int 0, .int 0, .int 0, .ref a_s, .int 0, .int t])), (a_d, .inl (k_d, 16, .inl (upd (fun _ => 0) (k : Int32).toNatClampNeg (vp_nar .boolean b))))] := hD
  refine lv_iload_n hx hb dX6_key_40 rfl (lv_at hl 0 rfl) ?_
  have hP9 := hP.sub (ws' := []) [] rfl
  have hD9 := hD.sub (ws' := []) [] (by decide) rfl
  have hK9 := hK.sub (tys' := []) [] rfl
  exact W.zret (v := 0) hx hb hr rfl (fun t9 ht hW => ⟨⟨0, (), rfl, rfl, by rw [ht]; exact hP9, va_K.moved hW.alike hK9, hD9⟩, hS.F ht⟩) hS.2.2 dX6_key_41
set_option maxHeartbeats 4000000 in
set_option maxRecDepth 100000 in
/-- shown(k) -/
theorem c_shown (l : Launch) (dC : Nat → ClassId) (dI : Nat → Nat → Nat) (a_k : Nat) (a_m : Nat) (a_t : Nat) (a_u : Nat) (a_i : Nat) (a_p : Nat) (a_d : Nat) (a_b : Nat) (a_c : Nat) (a_q : Nat) (a_s : Nat) (k_s : ClassId) (t : Int32) (k : Int32) (hk : vp_in k 16) (sz : Nat) : Met l yX6_shown (zq yX6_shown cX6_shown 2 (some .int)) ({ frames := 0, cells := 0, slots := 0, locals := 0 }) (va_Pc [.ref a_k, .int k] (zc_P (dC, dI) [(a_k, .inr (6, [.ref a_m, .ref a_t, .ref a_u, .ref a_i, .ref a_p])), (a_u, .inr (2, [.ref a_d, .ref a_b, .ref a_c, .ref a_q, .int 0, .int 0, .int 0, .int 0, .ref a_s, .int 0, .int t])), (a_s, .inl (k_s, 16, .inl (fun _ => 0)))] [(k_s, .int)] sz)) (va_Qi (fun r _ => r = 0) (fun (u : Unit) t9 => zc_B (dC, dI) (va_A [(a_k, .inr (6, [.ref a_m, .ref a_t, .ref a_u, .ref a_i, .ref a_p])), (a_u, .inr (2, [.ref a_d, .ref a_b, .ref a_c, .ref a_q, .int 0, .int 0, .int 0, .int 0, .ref a_s, .int 0, .int t])), (a_s, .inl (k_s, 16, .inl (fun _ => 0)))] sz) [] [] t9) (va_A [(a_k, .inr (6, [.ref a_m, .ref a_t, .ref a_u, .ref a_i, .ref a_p])), (a_u, .inr (2, [.ref a_d, .ref a_b, .ref a_c, .ref a_q, .int 0, .int 0, .int 0, .int 0, .ref a_s, .int 0, .int t])), (a_s, .inl (k_s, 16, .inl (fun _ => 0)))] sz)) 0 0 (va_A [(a_k, .inr (6, [.ref a_m, .ref a_t, .ref a_u, .ref a_i, .ref a_p])), (a_u, .inr (2, [.ref a_d, .ref a_b, .ref a_c, .ref a_q, .int 0, .int 0, .int 0, .int 0, .ref a_s, .int 0, .int t])), (a_s, .inl (k_s, 16, .inl (fun _ => 0)))] sz) := by
  refine Met.ofW (cc := cX6_shown) (maxL := 2) (ret := (some .int)) (by decide) rfl ?_
  intro p e s m args below meth c s₁ B hml hv
  obtain ⟨rfl, hsz, hP, hK, hD0, hN⟩ := hv
  have hx := B.exec
  have hb := B.bytes
  have hr := B.returns
  have hts : ∀ w ∈ zw, w.before _ s = true := fun w h => atoms_spec (ws := (zq yX6_shown cX6_shown 2 (some .int))) B.pre w (List.mem_cons_of_mem _ h)
  have hown : s.vm.findClass RX6 = some m.cls := findClass_of_methodNamed B.named
  have hlocks := B.notSynchronized
  subst hsz
  have hD := hD0.self (sz := s.heap.size)
  generalize hAe : va_A [(a_k, .inr (6, [.ref a_m, .ref a_t, .ref a_u, .ref a_i, .ref a_p])), (a_u, .inr (2, [.ref a_d, .ref a_b, .ref a_c, .ref a_q, .int 0, .int 0, .int 0, .int 0, .ref a_s, .int 0, .int t])), (a_s, .inl (k_s, 16, .inl (fun _ => 0)))] s.heap.size = A at hD ⊢
  have hA : ∀ q : Nat, s.heap.size ≤ q → A q := fun q h => by rw [← hAe]; exact Or.inr h
  have hS : va_S A s.heap s.heap [] := va_S.rf
  have hP : va_P (dC, dI) vwCl [(a_k, .inr (6, [.ref a_m, .ref a_t, .ref a_u, .ref a_i, .ref a_p])), (a_u, .inr (2, [.ref a_d, .ref a_b, .ref a_c, .ref a_q, .int 0, .int 0, .int 0, .int 0, .ref a_s, .int 0, .int t])), (a_s, .inl (k_s, 16, .inl (fun _ => 0)))] s.heap := hP
  have hl := lv_entry ([.ref a_k, .int k]) (n := 2) (Nat.le_of_ble_eq_true rfl)
  rw [lg_entry_eq]
  generalize (lg_sl ([.ref a_k, .int k]) ++ List.replicate (2 - (lg_sl ([.ref a_k, .int k])).length) Slot.unset).toArray = ls at hl ⊢
  have hl : lv_has ls 2 [(0, .ref a_k), (1, .int k)] := hl
  refine lv_iload_n hx hb dX6_shown_0 rfl (lv_at hl 1 rfl) ?_
  refine lv_if_lt (tgt := 10) hx hb dX6_shown_1 (by decide) (fun c_1 => absurd c_1 (fun q => hk (Or.inl q))) (fun c_1 => ?_)
  refine lv_iload_n hx hb dX6_shown_4 rfl (lv_at hl 1 rfl) ?_
  refine lv_bipush (v := 16) hx hb dX6_shown_5 (by decide) ?_
  refine lv_icmp_lt (tgt := 20) hx hb dX6_shown_7 (by decide) (fun c_2 => ?_) (fun c_2 => absurd (zl_lt (n := 16) hk (by decide)) c_2)
  refine lv_aload_n hx hb dX6_shown_20 rfl (lv_at hl 0 rfl) ?_
  refine va_get (D := (dC, dI)) (ci := 6) (v := .ref a_u) (C := RX6) (T := TX6) (N := 5) hx hb hts zx_6 hown hK hP 0 rfl rfl 2 (by decide) (hts (.fieldLink RX6 23 "KeyboardKit" "unit" "LKeyboardKit$KeyUnit;") zw_290) (fun _ h9 => h9) rfl dX6_shown_21 ?_
  refine va_getN (D := (dC, dI)) (ci := 2) (v := .ref a_s) (C := RX2) (T := TX2) (N := 11) hx hb hts zx_2 hown hK hP 1 rfl rfl 8 (by decide) (va_Nw.use rfl (nf_5 hN)) (fun _ h9 => h9) rfl dX6_shown_24 ?_
  refine lv_iload_n hx hb dX6_shown_27 rfl (lv_at hl 1 rfl) ?_
  refine va_iald hx hb hK hP 2 0 rfl rfl hk dX6_shown_28 ?_
  refine lv_topi (fun v_3 ev_3 => ?_)
  obtain rfl : v_3 = 0 := ev_3.trans rfl
  have hP9 := hP.sub (ws' := []) [] rfl
  have hD9 := hD.sub (ws' := []) [] (by decide) rfl
  have hK9 := hK.sub (tys' := []) [] rfl
  exact W.iret (v := 0) hx hb hr (fun t9 ht hW => ⟨⟨0, (), rfl, rfl, by rw [ht]; exact hP9, va_K.moved hW.alike hK9, hD9⟩, hS.F ht⟩) hS.2.2 dX6_shown_29
set_option maxHeartbeats 4000000 in
set_option maxRecDepth 100000 in
/-- line(0, b) -/
theorem c_line0 (l : Launch) (dC : Nat → ClassId) (dI : Nat → Nat → Nat) (a_k : Nat) (a_m : Nat) (a_t : Nat) (a_u : Nat) (a_i : Nat) (a_p : Nat) (b : Int32) (hb1 : b = 0 ∨ b = 1) (sz : Nat) : Met l yX6_line (zq yX6_line cX6_line 4 (some .boolean)) ({ frames := 0, cells := 0, slots := 0, locals := 0 }) (va_Pc [.ref a_k, .int 0, .int b] (zc_P (dC, dI) [(a_k, .inr (6, [.ref a_m, .ref a_t, .ref a_u, .ref a_i, .ref a_p])), (a_i, .inr (1, [.int 0, .int 0, .int 7, .int 0, .int 0, .int 0, .int 0]))] [] sz)) (va_Qi (fun r _ => r = 0) (fun (u : Unit) t9 => zc_B (dC, dI) (va_A [(a_k, .inr (6, [.ref a_m, .ref a_t, .ref a_u, .ref a_i, .ref a_p])), (a_i, .inr (1, [.int 0, .int 0, .int 7, .int 0, .int 0, .int 0, .int 0]))] sz) [] [] t9) (va_A [(a_k, .inr (6, [.ref a_m, .ref a_t, .ref a_u, .ref a_i, .ref a_p])), (a_i, .inr (1, [.int 0, .int 0, .int 7, .int 0, .int 0, .int 0, .int 0]))] sz)) 0 0 (va_A [(a_k, .inr (6, [.ref a_m, .ref a_t, .ref a_u, .ref a_i, .ref a_p])), (a_i, .inr (1, [.int 0, .int 0, .int 7, .int 0, .int 0, .int 0, .int 0]))] sz) := by
  refine Met.ofW (cc := cX6_line) (maxL := 4) (ret := (some .boolean)) (by decide) rfl ?_
  intro p e s m args below meth c s₁ B hml hv
  obtain ⟨rfl, hsz, hP, hK, hD0, hN⟩ := hv
  have hx := B.exec
  have hb := B.bytes
  have hr := B.returns
  have hts : ∀ w ∈ zw, w.before _ s = true := fun w h => atoms_spec (ws := (zq yX6_line cX6_line 4 (some .boolean))) B.pre w (List.mem_cons_of_mem _ h)
  have hown : s.vm.findClass RX6 = some m.cls := findClass_of_methodNamed B.named
  have hlocks := B.notSynchronized
  subst hsz
  have hD := hD0.self (sz := s.heap.size)
  generalize hAe : va_A [(a_k, .inr (6, [.ref a_m, .ref a_t, .ref a_u, .ref a_i, .ref a_p])), (a_i, .inr (1, [.int 0, .int 0, .int 7, .int 0, .int 0, .int 0, .int 0]))] s.heap.size = A at hD ⊢
  have hA : ∀ q : Nat, s.heap.size ≤ q → A q := fun q h => by rw [← hAe]; exact Or.inr h
  have hS : va_S A s.heap s.heap [] := va_S.rf
  have hP : va_P (dC, dI) vwCl [(a_k, .inr (6, [.ref a_m, .ref a_t, .ref a_u, .ref a_i, .ref a_p])), (a_i, .inr (1, [.int 0, .int 0, .int 7, .int 0, .int 0, .int 0, .int 0]))] s.heap := hP
  have hl := lv_entry ([.ref a_k, .int 0, .int b]) (n := 4) (Nat.le_of_ble_eq_true rfl)
  rw [lg_entry_eq]
  generalize (lg_sl ([.ref a_k, .int 0, .int b]) ++ List.replicate (4 - (lg_sl ([.ref a_k, .int 0, .int b])).length) Slot.unset).toArray = ls at hl ⊢
  have hl : lv_has ls 4 [(0, .ref a_k), (1, .int 0), (2, .int b)] := hl
  refine lv_iload_n hx hb dX6_line_0 rfl (lv_at hl 1 rfl) ?_
  refine lv_if_lt (tgt := 9) hx hb dX6_line_1 (by decide) (fun c_1 => absurd c_1 (by decide)) (fun c_1 => ?_)
  refine lv_iload_n hx hb dX6_line_4 rfl (lv_at hl 1 rfl) ?_
  refine lv_iconst (v := 1) hx hb dX6_line_5 (by decide) ?_
  refine lv_icmp_le (tgt := 19) hx hb dX6_line_6 (by decide) (fun c_2 => ?_) (fun c_2 => absurd c_2 (by decide))
  refine lv_iload_n hx hb dX6_line_19 rfl (lv_at hl 1 rfl) ?_
  refine lv_if_ne (tgt := 42) hx hb dX6_line_20 (by decide) (fun c_3 => absurd c_3 (by decide)) (fun c_3 => ?_)
  refine lv_aload_n hx hb dX6_line_23 rfl (lv_at hl 0 rfl) ?_
  refine va_get (D := (dC, dI)) (ci := 6) (v := .ref a_i) (C := RX6) (T := TX6) (N := 5) hx hb hts zx_6 hown hK hP 0 rfl rfl 3 (by decide) (hts (.fieldLink RX6 30 "KeyboardKit" "interrupts" "LKeyboardKit$Interrupts;") zw_291) (fun _ h9 => h9) rfl dX6_line_24 ?_
  refine va_getN (D := (dC, dI)) (ci := 1) (v := .int 0) (C := RX1) (T := TX1) (N := 7) hx hb hts zx_1 hown hK hP 1 rfl rfl 4 (by decide) (va_Nw.use rfl (nf_11 hN)) (fun _ h9 => h9) rfl dX6_line_27 ?_
  refine lv_istore_n (lv' := [(3, .int 0), (0, .ref a_k), (1, .int 0), (2, .int b)]) hx hb dX6_line_30 rfl hl (by decide) rfl (fun ls hl => ?_)
  refine lv_aload_n hx hb dX6_line_31 rfl (lv_at hl 1 rfl) ?_
  refine va_get (D := (dC, dI)) (ci := 6) (v := .ref a_i) (C := RX6) (T := TX6) (N := 5) hx hb hts zx_6 hown hK hP 0 rfl rfl 3 (by decide) (hts (.fieldLink RX6 30 "KeyboardKit" "interrupts" "LKeyboardKit$Interrupts;") zw_291) (fun _ h9 => h9) rfl dX6_line_32 ?_
  refine lv_iload_n hx hb dX6_line_35 rfl (lv_at hl 3 rfl) ?_
  refine va_putN (D := (dC, dI)) (ci := 1) (v := .int b) (ty := .boolean) (C := RX1) (T := TX1) (N := 7) hx hb hts zx_1 tyX1 tyX1_ok nmX1 hown hK hP hD hS 1 rfl rfl 4 (by decide) (va_Nw.use rfl (nf_11 hN)) (fun _ h9 => h9) rfl (by decide +kernel) (zc_nz b hb1) (by rcases hb1 with rfl | rfl <;> rfl) (Nat.le_of_ble_eq_true rfl) dX6_line_36 (fun H locs hP hD hS => ?_)
  have hP : va_P (dC, dI) vwCl [(a_k, .inr (6, [.ref a_m, .ref a_t, .ref a_u, .ref a_i, .ref a_p])), (a_i, .inr (1, [.int 0, .int 0, .int 7, .int 0, .int b, .int 0, .int 0]))] H := hP
  have hD : va_D A [(a_k, .inr (6, [.ref a_m, .ref a_t, .ref a_u, .ref a_i, .ref a_p])), (a_i, .inr (1, [.int 0, .int 0, .int 7, .int 0, .int b, .int 0, .int 0]))] := hD
  refine lv_goto (tgt := 58) hx hb dX6_line_39 (by decide) ?_
  refine lv_iload_n hx hb dX6_line_58 rfl (lv_at hl 0 rfl) ?_
  have hP9 := hP.sub (ws' := []) [] rfl
  have hD9 := hD.sub (ws' := []) [] (by decide) rfl
  have hK9 := hK.sub (tys' := []) [] rfl
  exact W.zret (v := 0) hx hb hr rfl (fun t9 ht hW => ⟨⟨0, (), rfl, rfl, by rw [ht]; exact hP9, va_K.moved hW.alike hK9, hD9⟩, hS.F ht⟩) hS.2.2 dX6_line_59
set_option maxHeartbeats 4000000 in
set_option maxRecDepth 100000 in
/-- line(1, b) -/
theorem c_line1 (l : Launch) (dC : Nat → ClassId) (dI : Nat → Nat → Nat) (a_k : Nat) (a_m : Nat) (a_t : Nat) (a_u : Nat) (a_i : Nat) (a_p : Nat) (b : Int32) (hb1 : b = 0 ∨ b = 1) (sz : Nat) : Met l yX6_line (zq yX6_line cX6_line 4 (some .boolean)) ({ frames := 0, cells := 0, slots := 0, locals := 0 }) (va_Pc [.ref a_k, .int 1, .int b] (zc_P (dC, dI) [(a_k, .inr (6, [.ref a_m, .ref a_t, .ref a_u, .ref a_i, .ref a_p])), (a_i, .inr (1, [.int 0, .int 0, .int 7, .int 0, .int 0, .int 0, .int 0]))] [] sz)) (va_Qi (fun r _ => r = 0) (fun (u : Unit) t9 => zc_B (dC, dI) (va_A [(a_k, .inr (6, [.ref a_m, .ref a_t, .ref a_u, .ref a_i, .ref a_p])), (a_i, .inr (1, [.int 0, .int 0, .int 7, .int 0, .int 0, .int 0, .int 0]))] sz) [] [] t9) (va_A [(a_k, .inr (6, [.ref a_m, .ref a_t, .ref a_u, .ref a_i, .ref a_p])), (a_i, .inr (1, [.int 0, .int 0, .int 7, .int 0, .int 0, .int 0, .int 0]))] sz)) 0 0 (va_A [(a_k, .inr (6, [.ref a_m, .ref a_t, .ref a_u, .ref a_i, .ref a_p])), (a_i, .inr (1, [.int 0, .int 0, .int 7, .int 0, .int 0, .int 0, .int 0]))] sz) := by
  refine Met.ofW (cc := cX6_line) (maxL := 4) (ret := (some .boolean)) (by decide) rfl ?_
  intro p e s m args below meth c s₁ B hml hv
  obtain ⟨rfl, hsz, hP, hK, hD0, hN⟩ := hv
  have hx := B.exec
  have hb := B.bytes
  have hr := B.returns
  have hts : ∀ w ∈ zw, w.before _ s = true := fun w h => atoms_spec (ws := (zq yX6_line cX6_line 4 (some .boolean))) B.pre w (List.mem_cons_of_mem _ h)
  have hown : s.vm.findClass RX6 = some m.cls := findClass_of_methodNamed B.named
  have hlocks := B.notSynchronized
  subst hsz
  have hD := hD0.self (sz := s.heap.size)
  generalize hAe : va_A [(a_k, .inr (6, [.ref a_m, .ref a_t, .ref a_u, .ref a_i, .ref a_p])), (a_i, .inr (1, [.int 0, .int 0, .int 7, .int 0, .int 0, .int 0, .int 0]))] s.heap.size = A at hD ⊢
  have hA : ∀ q : Nat, s.heap.size ≤ q → A q := fun q h => by rw [← hAe]; exact Or.inr h
  have hS : va_S A s.heap s.heap [] := va_S.rf
  have hP : va_P (dC, dI) vwCl [(a_k, .inr (6, [.ref a_m, .ref a_t, .ref a_u, .ref a_i, .ref a_p])), (a_i, .inr (1, [.int 0, .int 0, .int 7, .int 0, .int 0, .int 0, .int 0]))] s.heap := hP
  have hl := lv_entry ([.ref a_k, .int 1, .int b]) (n := 4) (Nat.le_of_ble_eq_true rfl)
  rw [lg_entry_eq]
  generalize (lg_sl ([.ref a_k, .int 1, .int b]) ++ List.replicate (4 - (lg_sl ([.ref a_k, .int 1, .int b])).length) Slot.unset).toArray = ls at hl ⊢
  have hl : lv_has ls 4 [(0, .ref a_k), (1, .int 1), (2, .int b)] := hl
  refine lv_iload_n hx hb dX6_line_0 rfl (lv_at hl 1 rfl) ?_
  refine lv_if_lt (tgt := 9) hx hb dX6_line_1 (by decide) (fun c_1 => absurd c_1 (by decide)) (fun c_1 => ?_)
  refine lv_iload_n hx hb dX6_line_4 rfl (lv_at hl 1 rfl) ?_
  refine lv_iconst (v := 1) hx hb dX6_line_5 (by decide) ?_
  refine lv_icmp_le (tgt := 19) hx hb dX6_line_6 (by decide) (fun c_2 => ?_) (fun c_2 => absurd c_2 (by decide))
  refine lv_iload_n hx hb dX6_line_19 rfl (lv_at hl 1 rfl) ?_
  refine lv_if_ne (tgt := 42) hx hb dX6_line_20 (by decide) (fun c_3 => ?_) (fun c_3 => absurd c_3 (by decide))
  refine lv_aload_n hx hb dX6_line_42 rfl (lv_at hl 0 rfl) ?_
  refine va_get (D := (dC, dI)) (ci := 6) (v := .ref a_i) (C := RX6) (T := TX6) (N := 5) hx hb hts zx_6 hown hK hP 0 rfl rfl 3 (by decide) (hts (.fieldLink RX6 30 "KeyboardKit" "interrupts" "LKeyboardKit$Interrupts;") zw_291) (fun _ h9 => h9) rfl dX6_line_43 ?_
  refine va_getN (D := (dC, dI)) (ci := 1) (v := .int 0) (C := RX1) (T := TX1) (N := 7) hx hb hts zx_1 hown hK hP 1 rfl rfl 5 (by decide) (va_Nw.use rfl (nf_12 hN)) (fun _ h9 => h9) rfl dX6_line_46 ?_
  refine lv_istore_n (lv' := [(3, .int 0), (0, .ref a_k), (1, .int 1), (2, .int b)]) hx hb dX6_line_49 rfl hl (by decide) rfl (fun ls hl => ?_)
  refine lv_aload_n hx hb dX6_line_50 rfl (lv_at hl 1 rfl) ?_
  refine va_get (D := (dC, dI)) (ci := 6) (v := .ref a_i) (C := RX6) (T := TX6) (N := 5) hx hb hts zx_6 hown hK hP 0 rfl rfl 3 (by decide) (hts (.fieldLink RX6 30 "KeyboardKit" "interrupts" "LKeyboardKit$Interrupts;") zw_291) (fun _ h9 => h9) rfl dX6_line_51 ?_
  refine lv_iload_n hx hb dX6_line_54 rfl (lv_at hl 3 rfl) ?_
  refine va_putN (D := (dC, dI)) (ci := 1) (v := .int b) (ty := .boolean) (C := RX1) (T := TX1) (N := 7) hx hb hts zx_1 tyX1 tyX1_ok nmX1 hown hK hP hD hS 1 rfl rfl 5 (by decide) (va_Nw.use rfl (nf_12 hN)) (fun _ h9 => h9) rfl (by decide +kernel) (zc_nz b hb1) (by rcases hb1 with rfl | rfl <;> rfl) (Nat.le_of_ble_eq_true rfl) dX6_line_55 (fun H locs hP hD hS => ?_)
  have hP : va_P (dC, dI) vwCl [(a_k, .inr (6, [.ref a_m, .ref a_t, .ref a_u, .ref a_i, .ref a_p])), (a_i, .inr (1, [.int 0, .int 0, .int 7, .int 0, .int 0, .int b, .int 0]))] H := hP
  have hD : va_D A [(a_k, .inr (6, [.ref a_m, .ref a_t, .ref a_u, .ref a_i, .ref a_p])), (a_i, .inr (1, [.int 0, .int 0, .int 7, .int 0, .int 0, .int b, .int 0]))] := hD
  refine lv_iload_n hx hb dX6_line_58 rfl (lv_at hl 0 rfl) ?_
  have hP9 := hP.sub (ws' := []) [] rfl
  have hD9 := hD.sub (ws' := []) [] (by decide) rfl
  have hK9 := hK.sub (tys' := []) [] rfl
  exact W.zret (v := 0) hx hb hr rfl (fun t9 ht hW => ⟨⟨0, (), rfl, rfl, by rw [ht]; exact hP9, va_K.moved hW.alike hK9, hD9⟩, hS.F ht⟩) hS.2.2 dX6_line_59
set_option maxHeartbeats 4000000 in
set_option maxRecDepth 100000 in
/-- KeyUnit.status -/
theorem c_status (l : Launch) (dC : Nat → ClassId) (dI : Nat → Nat → Nat) (a_u : Nat) (a_d : Nat) (a_b : Nat) (a_c : Nat) (a_q : Nat) (a_s : Nat) (t : Int32) (sz : Nat) : Met l yX2_status (zq yX2_status cX2_status 1 (some .int)) ({ frames := 0, cells := 0, slots := 0, locals := 0 }) (va_Pc [.ref a_u] (zc_P (dC, dI) [(a_u, .inr (2, [.ref a_d, .ref a_b, .ref a_c, .ref a_q, .int 0, .int 0, .int 0, .int 0, .ref a_s, .int 0, .int t]))] [] sz)) (va_Qi (fun r _ => r = 0) (fun (u : Unit) t9 => zc_B (dC, dI) (va_A [(a_u, .inr (2, [.ref a_d, .ref a_b, .ref a_c, .ref a_q, .int 0, .int 0, .int 0, .int 0, .ref a_s, .int 0, .int t]))] sz) [(a_u, .inr (2, [.ref a_d, .ref a_b, .ref a_c, .ref a_q, .int 0, .int 0, .int 0, .int 0, .ref a_s, .int 0, .int t]))] [] t9) (va_A [(a_u, .inr (2, [.ref a_d, .ref a_b, .ref a_c, .ref a_q, .int 0, .int 0, .int 0, .int 0, .ref a_s, .int 0, .int t]))] sz)) 0 0 (va_A [(a_u, .inr (2, [.ref a_d, .ref a_b, .ref a_c, .ref a_q, .int 0, .int 0, .int 0, .int 0, .ref a_s, .int 0, .int t]))] sz) := by
  refine Met.ofW (cc := cX2_status) (maxL := 1) (ret := (some .int)) (by decide) rfl ?_
  intro p e s m args below meth c s₁ B hml hv
  obtain ⟨rfl, hsz, hP, hK, hD0, hN⟩ := hv
  have hx := B.exec
  have hb := B.bytes
  have hr := B.returns
  have hts : ∀ w ∈ zw, w.before _ s = true := fun w h => atoms_spec (ws := (zq yX2_status cX2_status 1 (some .int))) B.pre w (List.mem_cons_of_mem _ h)
  have hown : s.vm.findClass RX2 = some m.cls := findClass_of_methodNamed B.named
  have hlocks := B.notSynchronized
  subst hsz
  have hD := hD0.self (sz := s.heap.size)
  generalize hAe : va_A [(a_u, .inr (2, [.ref a_d, .ref a_b, .ref a_c, .ref a_q, .int 0, .int 0, .int 0, .int 0, .ref a_s, .int 0, .int t]))] s.heap.size = A at hD ⊢
  have hA : ∀ q : Nat, s.heap.size ≤ q → A q := fun q h => by rw [← hAe]; exact Or.inr h
  have hS : va_S A s.heap s.heap [] := va_S.rf
  have hP : va_P (dC, dI) vwCl [(a_u, .inr (2, [.ref a_d, .ref a_b, .ref a_c, .ref a_q, .int 0, .int 0, .int 0, .int 0, .ref a_s, .int 0, .int t]))] s.heap := hP
  have hl := lv_entry ([.ref a_u]) (n := 1) (Nat.le_of_ble_eq_true rfl)
  rw [lg_entry_eq]
  generalize (lg_sl ([.ref a_u]) ++ List.replicate (1 - (lg_sl ([.ref a_u])).length) Slot.unset).toArray = ls at hl ⊢
  have hl : lv_has ls 1 [(0, .ref a_u)] := hl
  refine lv_aload_n hx hb dX2_status_0 rfl (lv_at hl 0 rfl) ?_
  refine va_get (D := (dC, dI)) (ci := 2) (v := .int 0) (C := RX2) (T := TX2) (N := 11) hx hb hts zx_2 hown hK hP 0 rfl rfl 5 (by decide) (hts (.fieldLink RX2 32 "KeyboardKit$KeyUnit" "queued" "I") zw_150) (fun _ h9 => h9) rfl dX2_status_1 ?_
  refine lv_bipush (v := 7) hx hb dX2_status_4 (by decide) ?_
  refine lv_iand hx hb dX2_status_6 ?_
  refine lv_topi (fun v_1 ev_1 => ?_)
  obtain rfl : v_1 = 0 := ev_1.trans (by decide)
  refine lv_aload_n hx hb dX2_status_7 rfl (lv_at hl 0 rfl) ?_
  refine va_get (D := (dC, dI)) (ci := 2) (v := .int 0) (C := RX2) (T := TX2) (N := 11) hx hb hts zx_2 hown hK hP 0 rfl rfl 5 (by decide) (hts (.fieldLink RX2 32 "KeyboardKit$KeyUnit" "queued" "I") zw_150) (fun _ h9 => h9) rfl dX2_status_8 ?_
  refine lv_bipush (v := 8) hx hb dX2_status_11 (by decide) ?_
  refine lv_icmp_ne (tgt := 21) hx hb dX2_status_13 (by decide) (fun c_2 => ?_) (fun c_2 => absurd c_2 (by decide))
  refine lv_iconst (v := 0) hx hb dX2_status_21 (by decide) ?_
  refine lv_iadd hx hb dX2_status_22 ?_
  refine lv_topi (fun v_3 ev_3 => ?_)
  obtain rfl : v_3 = 0 := ev_3.trans (by decide)
  refine lv_aload_n hx hb dX2_status_23 rfl (lv_at hl 0 rfl) ?_
  refine va_get (D := (dC, dI)) (ci := 2) (v := .int 0) (C := RX2) (T := TX2) (N := 11) hx hb hts zx_2 hown hK hP 0 rfl rfl 6 (by decide) (hts (.fieldLink RX2 35 "KeyboardKit$KeyUnit" "underrun" "Z") zw_152) (fun _ h9 => h9) rfl dX2_status_24 ?_
  refine lv_if_eq (tgt := 35) hx hb dX2_status_27 (by decide) (fun c_4 => ?_) (fun c_4 => absurd c_4 (by decide))
  refine lv_iconst (v := 0) hx hb dX2_status_35 (by decide) ?_
  refine lv_iadd hx hb dX2_status_36 ?_
  refine lv_topi (fun v_5 ev_5 => ?_)
  obtain rfl : v_5 = 0 := ev_5.trans (by decide)
  refine lv_aload_n hx hb dX2_status_37 rfl (lv_at hl 0 rfl) ?_
  refine va_get (D := (dC, dI)) (ci := 2) (v := .int 0) (C := RX2) (T := TX2) (N := 11) hx hb hts zx_2 hown hK hP 0 rfl rfl 7 (by decide) (hts (.fieldLink RX2 48 "KeyboardKit$KeyUnit" "overrun" "Z") zw_153) (fun _ h9 => h9) rfl dX2_status_38 ?_
  refine lv_if_eq (tgt := 49) hx hb dX2_status_41 (by decide) (fun c_6 => ?_) (fun c_6 => absurd c_6 (by decide))
  refine lv_iconst (v := 0) hx hb dX2_status_49 (by decide) ?_
  refine lv_iadd hx hb dX2_status_50 ?_
  refine lv_topi (fun v_7 ev_7 => ?_)
  obtain rfl : v_7 = 0 := ev_7.trans (by decide)
  have hP9 := hP.sub (ws' := [(a_u, .inr (2, [.ref a_d, .ref a_b, .ref a_c, .ref a_q, .int 0, .int 0, .int 0, .int 0, .ref a_s, .int 0, .int t]))]) [0] rfl
  have hD9 := hD.sub (ws' := [(a_u, .inr (2, [.ref a_d, .ref a_b, .ref a_c, .ref a_q, .int 0, .int 0, .int 0, .int 0, .ref a_s, .int 0, .int t]))]) [0] (by decide) rfl
  have hK9 := hK.sub (tys' := []) [] rfl
  exact W.iret (v := 0) hx hb hr (fun t9 ht hW => ⟨⟨0, (), rfl, rfl, by rw [ht]; exact hP9, va_K.moved hW.alike hK9, hD9⟩, hS.F ht⟩) hS.2.2 dX2_status_51
