theorem dX7_steps_0 : decode cX7_steps 0 = .ok (.aload_n 0, 1) := by decide +kernel
theorem dX7_steps_1 : decode cX7_steps 1 = .ok (.iload_n 1, 1) := by decide +kernel
theorem dX7_steps_16 : decode cX7_steps 16 = .ok (.iconst 0, 1) := by decide +kernel
theorem dX7_steps_17 : decode cX7_steps 17 = .ok (.putfield 39, 3) := by decide +kernel
theorem dX7_steps_2 : decode cX7_steps 2 = .ok (.ifCond .lt 10, 3) := by decide +kernel
theorem dX7_steps_20 : decode cX7_steps 20 = .ok (.iconst 0, 1) := by decide +kernel
theorem dX7_steps_21 : decode cX7_steps 21 = .ok (.istore_n 2, 1) := by decide +kernel
theorem dX7_steps_22 : decode cX7_steps 22 = .ok (.iconst 0, 1) := by decide +kernel
theorem dX7_steps_23 : decode cX7_steps 23 = .ok (.istore_n 3, 1) := by decide +kernel
theorem dX7_steps_24 : decode cX7_steps 24 = .ok (.iload_n 3, 1) := by decide +kernel
theorem dX7_steps_25 : decode cX7_steps 25 = .ok (.iload_n 1, 1) := by decide +kernel
theorem dX7_steps_26 : decode cX7_steps 26 = .ok (.if_icmp .ge 23, 3) := by decide +kernel
theorem dX7_steps_29 : decode cX7_steps 29 = .ok (.aload_n 0, 1) := by decide +kernel
theorem dX7_steps_30 : decode cX7_steps 30 = .ok (.getfield 39, 3) := by decide +kernel
theorem dX7_steps_33 : decode cX7_steps 33 = .ok (.ifCond .ne 16, 3) := by decide +kernel
theorem dX7_steps_36 : decode cX7_steps 36 = .ok (.iload_n 2, 1) := by decide +kernel
theorem dX7_steps_37 : decode cX7_steps 37 = .ok (.aload_n 0, 1) := by decide +kernel
theorem dX7_steps_38 : decode cX7_steps 38 = .ok (.invokevirtual 232, 3) := by decide +kernel
theorem dX7_steps_41 : decode cX7_steps 41 = .ok (.iadd, 1) := by decide +kernel
theorem dX7_steps_42 : decode cX7_steps 42 = .ok (.istore_n 2, 1) := by decide +kernel
theorem dX7_steps_43 : decode cX7_steps 43 = .ok (.iinc 3 1, 3) := by decide +kernel
theorem dX7_steps_46 : decode cX7_steps 46 = .ok (.goto (-22), 3) := by decide +kernel
theorem dX7_steps_49 : decode cX7_steps 49 = .ok (.iload_n 2, 1) := by decide +kernel
theorem dX7_steps_5 : decode cX7_steps 5 = .ok (.iload_n 1, 1) := by decide +kernel
theorem dX7_steps_50 : decode cX7_steps 50 = .ok (.ireturn, 1) := by decide +kernel
theorem dX7_steps_6 : decode cX7_steps 6 = .ok (.sipush 200, 3) := by decide +kernel
theorem dX7_steps_9 : decode cX7_steps 9 = .ok (.if_icmp .le 7, 3) := by decide +kernel
set_option maxHeartbeats 4000000 in
set_option maxRecDepth 100000 in
/-- reference: steps(n) within 0 .. 200 -/
theorem r_steps (l : Launch) (dC : Nat → ClassId) (dI : Nat → Nat → Nat) (b_o : Nat) (b_m : Nat) (b_r : Nat) (b_l : Nat) (b_d : Nat) (b_w : Nat) (b_c : Nat) (b_q : Nat) (b_s : Nat) (j_d : ClassId) (j_w : ClassId) (j_c : ClassId) (j_m : ClassId) (cnt : Nat) (n0 : Int32) (pc : Int32) (tk : Int32) (g : Int32) (th : Int32) (hn : n0 = nI cnt) (hc : cnt ≤ 200) (sz : Nat) : Met l yX7_steps (zq yX7_steps cX7_steps 4 (some .int)) ({ frames := 4, cells := 0, slots := 0, locals := 88 }) (va_Pc [.ref b_o, .int n0] (zc_P (dC, dI) [(b_o, .inr (7, [.ref b_m, .ref b_r, .int 0, .int pc, .int tk, .int 0, .int 0, .int 0, .int 7, .int 0, .ref b_l, .int 0, .int 0, .int 0, .int 0, .int 0, .int 0, .int 0, .int 0, .int g, .ref b_d, .ref b_w, .ref b_c, .int 0, .ref b_q, .int 0, .int 0, .int 0, .ref b_s, .int th])), (b_d, .inl (j_d, 16, .inl (fun _ => 0))), (b_w, .inl (j_w, 16, .inl (fun _ => 0))), (b_c, .inl (j_c, 16, .inl (fun _ => 0))), (b_m, .inl (j_m, 1024, .inl (fun _ => 0)))] [(j_d, .boolean), (j_w, .boolean), (j_c, .boolean), (j_m, .int)] sz)) (va_Qi (fun r _ => r = nI (4 * cnt)) (fun (u : Nat → Int32) t9 => zc_B (dC, dI) (va_A [(b_o, .inr (7, [.ref b_m, .ref b_r, .int 0, .int pc, .int tk, .int 0, .int 0, .int 0, .int 7, .int 0, .ref b_l, .int 0, .int 0, .int 0, .int 0, .int 0, .int 0, .int 0, .int 0, .int g, .ref b_d, .ref b_w, .ref b_c, .int 0, .ref b_q, .int 0, .int 0, .int 0, .ref b_s, .int th])), (b_d, .inl (j_d, 16, .inl (fun _ => 0))), (b_w, .inl (j_w, 16, .inl (fun _ => 0))), (b_c, .inl (j_c, 16, .inl (fun _ => 0))), (b_m, .inl (j_m, 1024, .inl (fun _ => 0)))] sz) [(b_o, .inr (7, [.ref b_m, .ref b_r, .int 0, .int (u 0), .int (u 1), .int 0, .int 0, .int 0, .int 7, .int 0, .ref b_l, .int 0, .int 0, .int 0, .int 0, .int 0, .int 0, .int 0, .int 0, .int (u 2), .ref b_d, .ref b_w, .ref b_c, .int 0, .ref b_q, .int 0, .int 0, .int 0, .ref b_s, .int 0]))] [(j_d, .boolean), (j_w, .boolean), (j_c, .boolean), (j_m, .int)] t9) (va_A [(b_o, .inr (7, [.ref b_m, .ref b_r, .int 0, .int pc, .int tk, .int 0, .int 0, .int 0, .int 7, .int 0, .ref b_l, .int 0, .int 0, .int 0, .int 0, .int 0, .int 0, .int 0, .int 0, .int g, .ref b_d, .ref b_w, .ref b_c, .int 0, .ref b_q, .int 0, .int 0, .int 0, .ref b_s, .int th])), (b_d, .inl (j_d, 16, .inl (fun _ => 0))), (b_w, .inl (j_w, 16, .inl (fun _ => 0))), (b_c, .inl (j_c, 16, .inl (fun _ => 0))), (b_m, .inl (j_m, 1024, .inl (fun _ => 0)))] sz)) 0 0 (va_A [(b_o, .inr (7, [.ref b_m, .ref b_r, .int 0, .int pc, .int tk, .int 0, .int 0, .int 0, .int 7, .int 0, .ref b_l, .int 0, .int 0, .int 0, .int 0, .int 0, .int 0, .int 0, .int 0, .int g, .ref b_d, .ref b_w, .ref b_c, .int 0, .ref b_q, .int 0, .int 0, .int 0, .ref b_s, .int th])), (b_d, .inl (j_d, 16, .inl (fun _ => 0))), (b_w, .inl (j_w, 16, .inl (fun _ => 0))), (b_c, .inl (j_c, 16, .inl (fun _ => 0))), (b_m, .inl (j_m, 1024, .inl (fun _ => 0)))] sz) := by
  refine Met.ofW (cc := cX7_steps) (maxL := 4) (ret := (some .int)) (by decide) rfl ?_
  intro p e s m args below meth c s₁ B hml hv
  obtain ⟨rfl, hsz, hP, hK, hD0, hN⟩ := hv
  have hx := B.exec
  have hb := B.bytes
  have hr := B.returns
  have hts : ∀ w ∈ zw, w.before _ s = true := fun w h => atoms_spec (ws := (zq yX7_steps cX7_steps 4 (some .int))) B.pre w (List.mem_cons_of_mem _ h)
  have hown : s.vm.findClass RX7 = some m.cls := findClass_of_methodNamed B.named
  have hlocks := B.notSynchronized
  subst hsz
  have hD := hD0.self (sz := s.heap.size)
  generalize hAe : va_A [(b_o, .inr (7, [.ref b_m, .ref b_r, .int 0, .int pc, .int tk, .int 0, .int 0, .int 0, .int 7, .int 0, .ref b_l, .int 0, .int 0, .int 0, .int 0, .int 0, .int 0, .int 0, .int 0, .int g, .ref b_d, .ref b_w, .ref b_c, .int 0, .ref b_q, .int 0, .int 0, .int 0, .ref b_s, .int th])), (b_d, .inl (j_d, 16, .inl (fun _ => 0))), (b_w, .inl (j_w, 16, .inl (fun _ => 0))), (b_c, .inl (j_c, 16, .inl (fun _ => 0))), (b_m, .inl (j_m, 1024, .inl (fun _ => 0)))] s.heap.size = A at hD ⊢
  have hA : ∀ q : Nat, s.heap.size ≤ q → A q := fun q h => by rw [← hAe]; exact Or.inr h
  have hS : va_S A s.heap s.heap [] := va_S.rf
  have hP : va_P (dC, dI) vwCl [(b_o, .inr (7, [.ref b_m, .ref b_r, .int 0, .int pc, .int tk, .int 0, .int 0, .int 0, .int 7, .int 0, .ref b_l, .int 0, .int 0, .int 0, .int 0, .int 0, .int 0, .int 0, .int 0, .int g, .ref b_d, .ref b_w, .ref b_c, .int 0, .ref b_q, .int 0, .int 0, .int 0, .ref b_s, .int th])), (b_d, .inl (j_d, 16, .inl (fun _ => 0))), (b_w, .inl (j_w, 16, .inl (fun _ => 0))), (b_c, .inl (j_c, 16, .inl (fun _ => 0))), (b_m, .inl (j_m, 1024, .inl (fun _ => 0)))] s.heap := hP
  have hl := lv_entry ([.ref b_o, .int n0]) (n := 4) (Nat.le_of_ble_eq_true rfl)
  rw [lg_entry_eq]
  generalize (lg_sl ([.ref b_o, .int n0]) ++ List.replicate (4 - (lg_sl ([.ref b_o, .int n0])).length) Slot.unset).toArray = ls at hl ⊢
  have hl : lv_has ls 4 [(0, .ref b_o), (1, .int n0)] := hl
  refine lv_aload_n hx hb dX7_steps_0 rfl (lv_at hl 0 rfl) ?_
  refine lv_iload_n hx hb dX7_steps_1 rfl (lv_at hl 1 rfl) ?_
  refine lv_if_lt (tgt := 12) hx hb dX7_steps_2 (by decide) (fun c_1 => absurd c_1 (by rw [hn]; exact nI_pos (by omega))) (fun c_1 => ?_)
  refine lv_iload_n hx hb dX7_steps_5 rfl (lv_at hl 1 rfl) ?_
  refine lv_sipush (v := 200) hx hb dX7_steps_6 (by decide) ?_
  refine lv_icmp_le (tgt := 16) hx hb dX7_steps_9 (by decide) (fun c_2 => ?_) (fun c_2 => absurd (by rw [hn]; exact nI_le (b := 200) hc (by decide)) c_2)
  refine lv_iconst (v := 0) hx hb dX7_steps_16 (by decide) ?_
  refine va_put (D := (dC, dI)) (ci := 7) (v := .int 0) (ty := .int) (C := RX7) (T := TX7) (N := 30) hx hb hts zx_7 tyX7 tyX7_ok nmX7 hown hK hP hD hS 0 rfl rfl 29 (by decide) (hts (.fieldLink RX7 39 "KeyboardKitModel" "thrown" "I") zw_749) (fun _ h9 => h9) rfl (by decide +kernel) rfl rfl (Nat.le_of_ble_eq_true rfl) dX7_steps_17 (fun H locs hP hD hS => ?_)
  have hP : va_P (dC, dI) vwCl [(b_o, .inr (7, [.ref b_m, .ref b_r, .int 0, .int pc, .int tk, .int 0, .int 0, .int 0, .int 7, .int 0, .ref b_l, .int 0, .int 0, .int 0, .int 0, .int 0, .int 0, .int 0, .int 0, .int g, .ref b_d, .ref b_w, .ref b_c, .int 0, .ref b_q, .int 0, .int 0, .int 0, .ref b_s, .int 0])), (b_d, .inl (j_d, 16, .inl (fun _ => 0))), (b_w, .inl (j_w, 16, .inl (fun _ => 0))), (b_c, .inl (j_c, 16, .inl (fun _ => 0))), (b_m, .inl (j_m, 1024, .inl (fun _ => 0)))] H := hP
  have hD : va_D A [(b_o, .inr (7, [.ref b_m, .ref b_r, .int 0, .int pc, .int tk, .int 0, .int 0, .int 0, .int 7, .int 0, .ref b_l, .int 0, .int 0, .int 0, .int 0, .int 0, .int 0, .int 0, .int 0, .int g, .ref b_d, .ref b_w, .ref b_c, .int 0, .ref b_q, .int 0, .int 0, .int 0, .ref b_s, .int 0])), (b_d, .inl (j_d, 16, .inl (fun _ => 0))), (b_w, .inl (j_w, 16, .inl (fun _ => 0))), (b_c, .inl (j_c, 16, .inl (fun _ => 0))), (b_m, .inl (j_m, 1024, .inl (fun _ => 0)))] := hD
  refine lv_iconst (v := 0) hx hb dX7_steps_20 (by decide) ?_
  refine lv_istore_n (lv' := [(2, .int 0), (0, .ref b_o), (1, .int n0)]) hx hb dX7_steps_21 rfl hl (by decide) rfl (fun ls hl => ?_)
  refine lv_iconst (v := 0) hx hb dX7_steps_22 (by decide) ?_
  refine lv_istore_n (lv' := [(3, .int 0), (2, .int 0), (0, .ref b_o), (1, .int n0)]) hx hb dX7_steps_23 rfl hl (by decide) rfl (fun ls hl => ?_)
  have loop : ∀ (n j : Nat), cnt + 1 ≤ j + n → j ≤ cnt → ∀ (gp : Int32) (gk : Int32) (gt : Int32) (H : Heap) (locs : List Loc) (ls : Array Slot), va_P (dC, dI) vwCl [(b_o, .inr (7, [.ref b_m, .ref b_r, .int 0, .int gp, .int gk, .int 0, .int 0, .int 0, .int 7, .int 0, .ref b_l, .int 0, .int 0, .int 0, .int 0, .int 0, .int 0, .int 0, .int 0, .int gt, .ref b_d, .ref b_w, .ref b_c, .int 0, .ref b_q, .int 0, .int 0, .int 0, .ref b_s, .int 0])), (b_d, .inl (j_d, 16, .inl (fun _ => 0))), (b_w, .inl (j_w, 16, .inl (fun _ => 0))), (b_c, .inl (j_c, 16, .inl (fun _ => 0))), (b_m, .inl (j_m, 1024, .inl (fun _ => 0)))] H → va_D A [(b_o, .inr (7, [.ref b_m, .ref b_r, .int 0, .int gp, .int gk, .int 0, .int 0, .int 0, .int 7, .int 0, .ref b_l, .int 0, .int 0, .int 0, .int 0, .int 0, .int 0, .int 0, .int 0, .int gt, .ref b_d, .ref b_w, .ref b_c, .int 0, .ref b_q, .int 0, .int 0, .int 0, .ref b_s, .int 0])), (b_d, .inl (j_d, 16, .inl (fun _ => 0))), (b_w, .inl (j_w, 16, .inl (fun _ => 0))), (b_c, .inl (j_c, 16, .inl (fun _ => 0))), (b_m, .inl (j_m, 1024, .inl (fun _ => 0)))] → va_S A s.heap H locs → lv_has ls 4 [(3, .int (nI j)), (2, .int (nI (4 * j))), (0, .ref b_o), (1, .int n0)] → W p l e (headSpec (zq yX7_steps cX7_steps 4 (some .int)) ({ frames := 4, cells := 0, slots := 0, locals := 88 })).room s m ([.ref b_o, .int n0] : List Value).toArray below meth c H locs 0 0 (MQ below (va_Qi (fun r _ => r = nI (4 * cnt)) (fun (u : Nat → Int32) t9 => zc_B (dC, dI) A [(b_o, .inr (7, [.ref b_m, .ref b_r, .int 0, .int (u 0), .int (u 1), .int 0, .int 0, .int 0, .int 7, .int 0, .ref b_l, .int 0, .int 0, .int 0, .int 0, .int 0, .int 0, .int 0, .int 0, .int (u 2), .ref b_d, .ref b_w, .ref b_c, .int 0, .ref b_q, .int 0, .int 0, .int 0, .ref b_s, .int 0]))] [(j_d, .boolean), (j_w, .boolean), (j_c, .boolean), (j_m, .int)] t9) A) ([.ref b_o, .int n0] : List Value).toArray s 0 0 A) (F0 m 24 ls []) := by
    intro n
    induction n with
    | zero => intro j h1 h2; exact absurd h1 (by omega)
    | succ n ih =>
      intro j hj1 hj2 gp gk gt H locs ls hP hD hS hl
      refine lv_iload_n hx hb dX7_steps_24 rfl (lv_at hl 0 rfl) ?_
      refine lv_iload_n hx hb dX7_steps_25 rfl (lv_at hl 3 rfl) ?_
      by_cases hj : j < cnt
      · refine lv_icmp_ge (tgt := 49) hx hb dX7_steps_26 (by decide) (fun c_3 => absurd c_3 (by rw [hn]; exact nI_ge hj (by omega))) (fun c_3 => ?_)
        refine lv_aload_n hx hb dX7_steps_29 rfl (lv_at hl 2 rfl) ?_
        refine va_get (D := (dC, dI)) (ci := 7) (v := .int 0) (C := RX7) (T := TX7) (N := 30) hx hb hts zx_7 hown hK hP 0 rfl rfl 29 (by decide) (hts (.fieldLink RX7 39 "KeyboardKitModel" "thrown" "I") zw_749) (fun _ h9 => h9) rfl dX7_steps_30 ?_
        refine lv_if_ne (tgt := 49) hx hb dX7_steps_33 (by decide) (fun c_4 => absurd c_4 (by decide)) (fun c_4 => ?_)
        refine lv_iload_n hx hb dX7_steps_36 rfl (lv_at hl 1 rfl) ?_
        refine lv_aload_n hx hb dX7_steps_37 rfl (lv_at hl 2 rfl) ?_
        refine zc_i (wr := []) hP hD hS hA [0, 1, 2, 3, 4] [] rfl rfl (by decide) (by decide) (va_runV (As := []) (rest := [.int (nI (4 * j))]) ⟨hx, hb, hml, hown, hts⟩ (r_once l dC dI b_o b_m b_r b_l b_d b_w b_c b_q b_s j_d j_w j_c j_m gp gk gt 0 _) (cwV 0 hts (zg_V zw_827 zw_829 zw_41 zw_90 zw_830) rfl rfl rfl (by decide +kernel) ⟨Nat.le_of_ble_eq_true rfl, Nat.le_of_ble_eq_true rfl⟩) ⟨zc_blind, va_recv hK hP (ci := 7) (q0 := 0) rfl rfl, zc_start hP hD hK hN [0, 1, 2, 3, 4] [0, 1, 2, 3] rfl (by decide) rfl⟩ rfl rfl hl.1 rfl (lv_room (Nat.le_of_ble_eq_true rfl)) dX7_steps_38 ⟨Nat.le_of_ble_eq_true rfl, Nat.le_of_ble_eq_true rfl⟩) (fun r_5 u_5 H locs hw hK1 hP hD hS => ?_)
        have hP : va_P (dC, dI) vwCl [(b_o, .inr (7, [.ref b_m, .ref b_r, .int 0, .int (u_5 0), .int 4, .int 0, .int 0, .int 0, .int 7, .int 0, .ref b_l, .int 0, .int 0, .int 0, .int 0, .int 0, .int 0, .int 0, .int 0, .int (u_5 1), .ref b_d, .ref b_w, .ref b_c, .int 0, .ref b_q, .int 0, .int 0, .int 0, .ref b_s, .int 0])), (b_d, .inl (j_d, 16, .inl (fun _ => 0))), (b_w, .inl (j_w, 16, .inl (fun _ => 0))), (b_c, .inl (j_c, 16, .inl (fun _ => 0))), (b_m, .inl (j_m, 1024, .inl (fun _ => 0)))] H := hP
        have hD : va_D A [(b_o, .inr (7, [.ref b_m, .ref b_r, .int 0, .int (u_5 0), .int 4, .int 0, .int 0, .int 0, .int 7, .int 0, .ref b_l, .int 0, .int 0, .int 0, .int 0, .int 0, .int 0, .int 0, .int 0, .int (u_5 1), .ref b_d, .ref b_w, .ref b_c, .int 0, .ref b_q, .int 0, .int 0, .int 0, .ref b_s, .int 0])), (b_d, .inl (j_d, 16, .inl (fun _ => 0))), (b_w, .inl (j_w, 16, .inl (fun _ => 0))), (b_c, .inl (j_c, 16, .inl (fun _ => 0))), (b_m, .inl (j_m, 1024, .inl (fun _ => 0)))] := hD
        obtain rfl : r_5 = 4 := hw
        refine lv_iadd hx hb dX7_steps_41 ?_
        refine lv_topi (fun v_6 ev_6 => ?_)
        obtain rfl : v_6 = nI (4 * (j + 1)) := ev_6.trans (zl_4 j)
        refine lv_istore_n (lv' := [(2, .int (nI (4 * (j + 1)))), (3, .int (nI j)), (0, .ref b_o), (1, .int n0)]) hx hb dX7_steps_42 rfl hl (by decide) rfl (fun ls hl => ?_)
        refine lv_iinc (v := (nI (j + 1))) (lv' := [(3, .int (nI (j + 1))), (2, .int (nI (4 * (j + 1)))), (0, .ref b_o), (1, .int n0)]) hx hb dX7_steps_43 hl (k := 1) rfl (nI_1 j) (by decide) rfl (fun ls hl => ?_)
        refine lv_goto (tgt := 24) hx hb dX7_steps_46 (by decide) ?_
        exact ih (j + 1) (by omega) (by omega) (u_5 0) 4 (u_5 1) _ _ _ (hP.sub [0, 1, 2, 3, 4] rfl) (hD.sub [0, 1, 2, 3, 4] (by decide) rfl) hS (lv_sub hl [0, 1, 2, 3] rfl)
      · refine lv_icmp_ge (tgt := 49) hx hb dX7_steps_26 (by decide) (fun c_7 => ?_) (fun c_7 => absurd (by rw [hn]; exact nI_le (by omega) (by omega)) c_7)
        refine lv_iload_n hx hb dX7_steps_49 rfl (lv_at hl 1 rfl) ?_
        have hP9 := hP.sub (ws' := [(b_o, .inr (7, [.ref b_m, .ref b_r, .int 0, .int gp, .int gk, .int 0, .int 0, .int 0, .int 7, .int 0, .ref b_l, .int 0, .int 0, .int 0, .int 0, .int 0, .int 0, .int 0, .int 0, .int gt, .ref b_d, .ref b_w, .ref b_c, .int 0, .ref b_q, .int 0, .int 0, .int 0, .ref b_s, .int 0]))]) [0] rfl
        have hD9 := hD.sub (ws' := [(b_o, .inr (7, [.ref b_m, .ref b_r, .int 0, .int gp, .int gk, .int 0, .int 0, .int 0, .int 7, .int 0, .ref b_l, .int 0, .int 0, .int 0, .int 0, .int 0, .int 0, .int 0, .int 0, .int gt, .ref b_d, .ref b_w, .ref b_c, .int 0, .ref b_q, .int 0, .int 0, .int 0, .ref b_s, .int 0]))]) [0] (by decide) rfl
        have hK9 := hK.sub (tys' := [(j_d, .boolean), (j_w, .boolean), (j_c, .boolean), (j_m, .int)]) [0, 1, 2, 3] rfl
        exact W.iret (v := (nI (4 * j))) hx hb hr (fun t9 ht hW => ⟨⟨(nI (4 * j)), (fun k => match k with | 0 => gp | 1 => gk | _ => gt), rfl, (by rw [show j = cnt by omega]), by rw [ht]; exact hP9, va_K.moved hW.alike hK9, hD9⟩, hS.F ht⟩) hS.2.2 dX7_steps_50
  exact loop (cnt + 1) 0 (by omega) (by omega) pc tk g _ _ _ hP hD hS (lv_sub hl [0, 1, 2, 3] (by simp only [Nat.mul_zero, nI_0]; rfl))
