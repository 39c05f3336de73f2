theorem dX6_steps_0 : decode cX6_steps 0 = .ok (.iload_n 1, 1) := by decide +kernel
theorem dX6_steps_1 : decode cX6_steps 1 = .ok (.ifCond .lt 10, 3) := by decide +kernel
theorem dX6_steps_21 : decode cX6_steps 21 = .ok (.iconst 0, 1) := by decide +kernel
theorem dX6_steps_22 : decode cX6_steps 22 = .ok (.istore_n 2, 1) := by decide +kernel
theorem dX6_steps_23 : decode cX6_steps 23 = .ok (.iconst 0, 1) := by decide +kernel
theorem dX6_steps_24 : decode cX6_steps 24 = .ok (.istore_n 3, 1) := by decide +kernel
theorem dX6_steps_25 : decode cX6_steps 25 = .ok (.iload_n 3, 1) := by decide +kernel
theorem dX6_steps_26 : decode cX6_steps 26 = .ok (.iload_n 1, 1) := by decide +kernel
theorem dX6_steps_27 : decode cX6_steps 27 = .ok (.if_icmp .ge 19, 3) := by decide +kernel
theorem dX6_steps_30 : decode cX6_steps 30 = .ok (.iload_n 2, 1) := by decide +kernel
theorem dX6_steps_31 : decode cX6_steps 31 = .ok (.aload_n 0, 1) := by decide +kernel
theorem dX6_steps_32 : decode cX6_steps 32 = .ok (.getfield 39, 3) := by decide +kernel
theorem dX6_steps_35 : decode cX6_steps 35 = .ok (.invokevirtual 43, 3) := by decide +kernel
theorem dX6_steps_38 : decode cX6_steps 38 = .ok (.iadd, 1) := by decide +kernel
theorem dX6_steps_39 : decode cX6_steps 39 = .ok (.istore_n 2, 1) := by decide +kernel
theorem dX6_steps_4 : decode cX6_steps 4 = .ok (.iload_n 1, 1) := by decide +kernel
theorem dX6_steps_40 : decode cX6_steps 40 = .ok (.iinc 3 1, 3) := by decide +kernel
theorem dX6_steps_43 : decode cX6_steps 43 = .ok (.goto (-18), 3) := by decide +kernel
theorem dX6_steps_46 : decode cX6_steps 46 = .ok (.iload_n 2, 1) := by decide +kernel
theorem dX6_steps_47 : decode cX6_steps 47 = .ok (.ireturn, 1) := by decide +kernel
theorem dX6_steps_5 : decode cX6_steps 5 = .ok (.sipush 200, 3) := by decide +kernel
theorem dX6_steps_8 : decode cX6_steps 8 = .ok (.if_icmp .le 13, 3) := by decide +kernel
set_option maxHeartbeats 4000000 in
set_option maxRecDepth 100000 in
/-- steps(n) within 0 .. 200: four ticks each -/
theorem c_steps (l : Launch) (dC : Nat → ClassId) (dI : Nat → Nat → Nat) (a_k : Nat) (a_m : Nat) (a_t : Nat) (a_u : Nat) (a_i : Nat) (a_p : Nat) (a_o : Nat) (a_r : Nat) (a_f : Nat) (a_d : Nat) (a_b : Nat) (a_c : Nat) (a_q : Nat) (a_s : Nat) (k_d : ClassId) (k_b : ClassId) (k_c : ClassId) (k_m : ClassId) (cnt : Nat) (n0 : Int32) (pc : Int32) (tk : Int32) (t : Int32) (hn : n0 = nI cnt) (hc : cnt ≤ 200) (sz : Nat) : Met l yX6_steps (zq yX6_steps cX6_steps 4 (some .int)) ({ frames := 4, cells := 0, slots := 0, locals := 88 }) (va_Pc [.ref a_k, .int n0] (zc_P (dC, dI) [(a_k, .inr (6, [.ref a_m, .ref a_t, .ref a_u, .ref a_i, .ref a_p])), (a_p, .inr (4, [.ref a_m, .ref a_t, .ref a_u, .ref a_i, .ref a_o, .ref a_r, .ref a_f, .int 0, .int pc, .int 0, .int tk])), (a_t, .inr (5, [.int 0, .int 0, .int 0, .int 0, .int 0, .int 0, .int 0])), (a_u, .inr (2, [.ref a_d, .ref a_b, .ref a_c, .ref a_q, .int 0, .int 0, .int 0, .int 0, .ref a_s, .int 0, .int t])), (a_d, .inl (k_d, 16, .inl (fun _ => 0))), (a_b, .inl (k_b, 16, .inl (fun _ => 0))), (a_c, .inl (k_c, 16, .inl (fun _ => 0))), (a_i, .inr (1, [.int 0, .int 0, .int 7, .int 0, .int 0, .int 0, .int 0])), (a_m, .inl (k_m, 1024, .inl (fun _ => 0)))] [(k_d, .boolean), (k_b, .boolean), (k_c, .boolean), (k_m, .int)] sz)) (va_Qi (fun r _ => r = nI (4 * cnt)) (fun (u : Unit) t9 => zc_B (dC, dI) (va_A [(a_k, .inr (6, [.ref a_m, .ref a_t, .ref a_u, .ref a_i, .ref a_p])), (a_p, .inr (4, [.ref a_m, .ref a_t, .ref a_u, .ref a_i, .ref a_o, .ref a_r, .ref a_f, .int 0, .int pc, .int 0, .int tk])), (a_t, .inr (5, [.int 0, .int 0, .int 0, .int 0, .int 0, .int 0, .int 0])), (a_u, .inr (2, [.ref a_d, .ref a_b, .ref a_c, .ref a_q, .int 0, .int 0, .int 0, .int 0, .ref a_s, .int 0, .int t])), (a_d, .inl (k_d, 16, .inl (fun _ => 0))), (a_b, .inl (k_b, 16, .inl (fun _ => 0))), (a_c, .inl (k_c, 16, .inl (fun _ => 0))), (a_i, .inr (1, [.int 0, .int 0, .int 7, .int 0, .int 0, .int 0, .int 0])), (a_m, .inl (k_m, 1024, .inl (fun _ => 0)))] sz) [] [] t9) (va_A [(a_k, .inr (6, [.ref a_m, .ref a_t, .ref a_u, .ref a_i, .ref a_p])), (a_p, .inr (4, [.ref a_m, .ref a_t, .ref a_u, .ref a_i, .ref a_o, .ref a_r, .ref a_f, .int 0, .int pc, .int 0, .int tk])), (a_t, .inr (5, [.int 0, .int 0, .int 0, .int 0, .int 0, .int 0, .int 0])), (a_u, .inr (2, [.ref a_d, .ref a_b, .ref a_c, .ref a_q, .int 0, .int 0, .int 0, .int 0, .ref a_s, .int 0, .int t])), (a_d, .inl (k_d, 16, .inl (fun _ => 0))), (a_b, .inl (k_b, 16, .inl (fun _ => 0))), (a_c, .inl (k_c, 16, .inl (fun _ => 0))), (a_i, .inr (1, [.int 0, .int 0, .int 7, .int 0, .int 0, .int 0, .int 0])), (a_m, .inl (k_m, 1024, .inl (fun _ => 0)))] sz)) 0 0 (va_A [(a_k, .inr (6, [.ref a_m, .ref a_t, .ref a_u, .ref a_i, .ref a_p])), (a_p, .inr (4, [.ref a_m, .ref a_t, .ref a_u, .ref a_i, .ref a_o, .ref a_r, .ref a_f, .int 0, .int pc, .int 0, .int tk])), (a_t, .inr (5, [.int 0, .int 0, .int 0, .int 0, .int 0, .int 0, .int 0])), (a_u, .inr (2, [.ref a_d, .ref a_b, .ref a_c, .ref a_q, .int 0, .int 0, .int 0, .int 0, .ref a_s, .int 0, .int t])), (a_d, .inl (k_d, 16, .inl (fun _ => 0))), (a_b, .inl (k_b, 16, .inl (fun _ => 0))), (a_c, .inl (k_c, 16, .inl (fun _ => 0))), (a_i, .inr (1, [.int 0, .int 0, .int 7, .int 0, .int 0, .int 0, .int 0])), (a_m, .inl (k_m, 1024, .inl (fun _ => 0)))] sz) := by
  refine Met.ofW (cc := cX6_steps) (maxL := 4) (ret := (some .int)) (by decide) rfl ?_
  intro p e s m args below meth c s₁ B hml hv
  obtain ⟨rfl, hsz, hP, hK, hD0, hN⟩ := hv
  have hx := B.exec
  have hb := B.bytes
  have hr := B.returns
  have hts : ∀ w ∈ zw, w.before _ s = true := fun w h => atoms_spec (ws := (zq yX6_steps cX6_steps 4 (some .int))) B.pre w (List.mem_cons_of_mem _ h)
  have hown : s.vm.findClass RX6 = some m.cls := findClass_of_methodNamed B.named
  have hlocks := B.notSynchronized
  subst hsz
  have hD := hD0.self (sz := s.heap.size)
  generalize hAe : va_A [(a_k, .inr (6, [.ref a_m, .ref a_t, .ref a_u, .ref a_i, .ref a_p])), (a_p, .inr (4, [.ref a_m, .ref a_t, .ref a_u, .ref a_i, .ref a_o, .ref a_r, .ref a_f, .int 0, .int pc, .int 0, .int tk])), (a_t, .inr (5, [.int 0, .int 0, .int 0, .int 0, .int 0, .int 0, .int 0])), (a_u, .inr (2, [.ref a_d, .ref a_b, .ref a_c, .ref a_q, .int 0, .int 0, .int 0, .int 0, .ref a_s, .int 0, .int t])), (a_d, .inl (k_d, 16, .inl (fun _ => 0))), (a_b, .inl (k_b, 16, .inl (fun _ => 0))), (a_c, .inl (k_c, 16, .inl (fun _ => 0))), (a_i, .inr (1, [.int 0, .int 0, .int 7, .int 0, .int 0, .int 0, .int 0])), (a_m, .inl (k_m, 1024, .inl (fun _ => 0)))] s.heap.size = A at hD ⊢
  have hA : ∀ q : Nat, s.heap.size ≤ q → A q := fun q h => by rw [← hAe]; exact Or.inr h
  have hS : va_S A s.heap s.heap [] := va_S.rf
  have hP : va_P (dC, dI) vwCl [(a_k, .inr (6, [.ref a_m, .ref a_t, .ref a_u, .ref a_i, .ref a_p])), (a_p, .inr (4, [.ref a_m, .ref a_t, .ref a_u, .ref a_i, .ref a_o, .ref a_r, .ref a_f, .int 0, .int pc, .int 0, .int tk])), (a_t, .inr (5, [.int 0, .int 0, .int 0, .int 0, .int 0, .int 0, .int 0])), (a_u, .inr (2, [.ref a_d, .ref a_b, .ref a_c, .ref a_q, .int 0, .int 0, .int 0, .int 0, .ref a_s, .int 0, .int t])), (a_d, .inl (k_d, 16, .inl (fun _ => 0))), (a_b, .inl (k_b, 16, .inl (fun _ => 0))), (a_c, .inl (k_c, 16, .inl (fun _ => 0))), (a_i, .inr (1, [.int 0, .int 0, .int 7, .int 0, .int 0, .int 0, .int 0])), (a_m, .inl (k_m, 1024, .inl (fun _ => 0)))] s.heap := hP
  have hl := lv_entry ([.ref a_k, .int n0]) (n := 4) (Nat.le_of_ble_eq_true rfl)
  rw [lg_entry_eq]
  generalize (lg_sl ([.ref a_k, .int n0]) ++ List.replicate (4 - (lg_sl ([.ref a_k, .int n0])).length) Slot.unset).toArray = ls at hl ⊢
  have hl : lv_has ls 4 [(0, .ref a_k), (1, .int n0)] := hl
  refine lv_iload_n hx hb dX6_steps_0 rfl (lv_at hl 1 rfl) ?_
  refine lv_if_lt (tgt := 11) hx hb dX6_steps_1 (by decide) (fun c_1 => absurd c_1 (by rw [hn]; exact nI_pos (by omega))) (fun c_1 => ?_)
  refine lv_iload_n hx hb dX6_steps_4 rfl (lv_at hl 1 rfl) ?_
  refine lv_sipush (v := 200) hx hb dX6_steps_5 (by decide) ?_
  refine lv_icmp_le (tgt := 21) hx hb dX6_steps_8 (by decide) (fun c_2 => ?_) (fun c_2 => absurd (by rw [hn]; exact nI_le (b := 200) hc (by decide)) c_2)
  refine lv_iconst (v := 0) hx hb dX6_steps_21 (by decide) ?_
  refine lv_istore_n (lv' := [(2, .int 0), (0, .ref a_k), (1, .int n0)]) hx hb dX6_steps_22 rfl hl (by decide) rfl (fun ls hl => ?_)
  refine lv_iconst (v := 0) hx hb dX6_steps_23 (by decide) ?_
  refine lv_istore_n (lv' := [(3, .int 0), (2, .int 0), (0, .ref a_k), (1, .int n0)]) hx hb dX6_steps_24 rfl hl (by decide) rfl (fun ls hl => ?_)
  have loop : ∀ (n j : Nat), cnt + 1 ≤ j + n → j ≤ cnt → ∀ (gp : Int32) (gk : Int32) (gt : Int32) (H : Heap) (locs : List Loc) (ls : Array Slot), va_P (dC, dI) vwCl [(a_k, .inr (6, [.ref a_m, .ref a_t, .ref a_u, .ref a_i, .ref a_p])), (a_p, .inr (4, [.ref a_m, .ref a_t, .ref a_u, .ref a_i, .ref a_o, .ref a_r, .ref a_f, .int 0, .int gp, .int 0, .int gk])), (a_t, .inr (5, [.int 0, .int 0, .int 0, .int 0, .int 0, .int 0, .int 0])), (a_u, .inr (2, [.ref a_d, .ref a_b, .ref a_c, .ref a_q, .int 0, .int 0, .int 0, .int 0, .ref a_s, .int 0, .int gt])), (a_d, .inl (k_d, 16, .inl (fun _ => 0))), (a_b, .inl (k_b, 16, .inl (fun _ => 0))), (a_c, .inl (k_c, 16, .inl (fun _ => 0))), (a_i, .inr (1, [.int 0, .int 0, .int 7, .int 0, .int 0, .int 0, .int 0])), (a_m, .inl (k_m, 1024, .inl (fun _ => 0)))] H → va_D A [(a_k, .inr (6, [.ref a_m, .ref a_t, .ref a_u, .ref a_i, .ref a_p])), (a_p, .inr (4, [.ref a_m, .ref a_t, .ref a_u, .ref a_i, .ref a_o, .ref a_r, .ref a_f, .int 0, .int gp, .int 0, .int gk])), (a_t, .inr (5, [.int 0, .int 0, .int 0, .int 0, .int 0, .int 0, .int 0])), (a_u, .inr (2, [.ref a_d, .ref a_b, .ref a_c, .ref a_q, .int 0, .int 0, .int 0, .int 0, .ref a_s, .int 0, .int gt])), (a_d, .inl (k_d, 16, .inl (fun _ => 0))), (a_b, .inl (k_b, 16, .inl (fun _ => 0))), (a_c, .inl (k_c, 16, .inl (fun _ => 0))), (a_i, .inr (1, [.int 0, .int 0, .int 7, .int 0, .int 0, .int 0, .int 0])), (a_m, .inl (k_m, 1024, .inl (fun _ => 0)))] → va_S A s.heap H locs → lv_has ls 4 [(3, .int (nI j)), (2, .int (nI (4 * j))), (0, .ref a_k), (1, .int n0)] → W p l e (headSpec (zq yX6_steps cX6_steps 4 (some .int)) ({ frames := 4, cells := 0, slots := 0, locals := 88 })).room s m ([.ref a_k, .int n0] : List Value).toArray below meth c H locs 0 0 (MQ below (va_Qi (fun r _ => r = nI (4 * cnt)) (fun (u : Unit) t9 => zc_B (dC, dI) A [] [] t9) A) ([.ref a_k, .int n0] : List Value).toArray s 0 0 A) (F0 m 25 ls []) := by
    intro n
    induction n with
    | zero => intro j h1 h2; exact absurd h1 (by omega)
    | succ n ih =>
      intro j hj1 hj2 gp gk gt H locs ls hP hD hS hl
      refine lv_iload_n hx hb dX6_steps_25 rfl (lv_at hl 0 rfl) ?_
      refine lv_iload_n hx hb dX6_steps_26 rfl (lv_at hl 3 rfl) ?_
      by_cases hj : j < cnt
      · refine lv_icmp_ge (tgt := 46) hx hb dX6_steps_27 (by decide) (fun c_3 => absurd c_3 (by rw [hn]; exact nI_ge hj (by omega))) (fun c_3 => ?_)
        refine lv_iload_n hx hb dX6_steps_30 rfl (lv_at hl 1 rfl) ?_
        refine lv_aload_n hx hb dX6_steps_31 rfl (lv_at hl 2 rfl) ?_
        refine va_get (D := (dC, dI)) (ci := 6) (v := .ref a_p) (C := RX6) (T := TX6) (N := 5) hx hb hts zx_6 hown hK hP 0 rfl rfl 4 (by decide) (hts (.fieldLink RX6 39 "KeyboardKit" "processor" "LKeyboardKit$Processor;") zw_292) (fun _ h9 => h9) rfl dX6_steps_32 ?_
        refine zc_i (wr := [(a_k, .inr (6, [.ref a_m, .ref a_t, .ref a_u, .ref a_i, .ref a_p]))]) hP hD hS hA [1, 2, 3, 4, 5, 6, 7, 8] [0] rfl rfl (by decide) (by decide) (va_runV (As := []) (rest := [.int (nI (4 * j))]) ⟨hx, hb, hml, hown, hts⟩ (c_adv l dC dI a_p a_m a_t a_u a_i a_o a_r a_f a_d a_b a_c a_q a_s k_d k_b k_c k_m gp gk gt _) (cwV 0 hts (zg_V zw_316 zw_317 zw_318 zw_87 zw_319) rfl rfl rfl (by decide +kernel) ⟨Nat.le_of_ble_eq_true rfl, Nat.le_of_ble_eq_true rfl⟩) ⟨zc_blind, va_recv hK hP (ci := 4) (q0 := 1) rfl rfl, zc_start hP hD hK hN [1, 2, 3, 4, 5, 6, 7, 8] [0, 1, 2, 3] rfl (by decide) rfl⟩ rfl rfl hl.1 rfl (lv_room (Nat.le_of_ble_eq_true rfl)) dX6_steps_35 ⟨Nat.le_of_ble_eq_true rfl, Nat.le_of_ble_eq_true rfl⟩) (fun r_4 u_4 H locs hw hK1 hP hD hS => ?_)
        have hP : va_P (dC, dI) vwCl [(a_k, .inr (6, [.ref a_m, .ref a_t, .ref a_u, .ref a_i, .ref a_p])), (a_p, .inr (4, [.ref a_m, .ref a_t, .ref a_u, .ref a_i, .ref a_o, .ref a_r, .ref a_f, .int 0, .int (u_4 0), .int 0, .int 4])), (a_t, .inr (5, [.int 0, .int 0, .int 0, .int 0, .int 0, .int 0, .int 0])), (a_u, .inr (2, [.ref a_d, .ref a_b, .ref a_c, .ref a_q, .int 0, .int 0, .int 0, .int 0, .ref a_s, .int 0, .int (u_4 1)])), (a_d, .inl (k_d, 16, .inl (fun _ => 0))), (a_b, .inl (k_b, 16, .inl (fun _ => 0))), (a_c, .inl (k_c, 16, .inl (fun _ => 0))), (a_i, .inr (1, [.int 0, .int 0, .int 7, .int 0, .int 0, .int 0, .int 0])), (a_m, .inl (k_m, 1024, .inl (fun _ => 0)))] H := hP
        have hD : va_D A [(a_k, .inr (6, [.ref a_m, .ref a_t, .ref a_u, .ref a_i, .ref a_p])), (a_p, .inr (4, [.ref a_m, .ref a_t, .ref a_u, .ref a_i, .ref a_o, .ref a_r, .ref a_f, .int 0, .int (u_4 0), .int 0, .int 4])), (a_t, .inr (5, [.int 0, .int 0, .int 0, .int 0, .int 0, .int 0, .int 0])), (a_u, .inr (2, [.ref a_d, .ref a_b, .ref a_c, .ref a_q, .int 0, .int 0, .int 0, .int 0, .ref a_s, .int 0, .int (u_4 1)])), (a_d, .inl (k_d, 16, .inl (fun _ => 0))), (a_b, .inl (k_b, 16, .inl (fun _ => 0))), (a_c, .inl (k_c, 16, .inl (fun _ => 0))), (a_i, .inr (1, [.int 0, .int 0, .int 7, .int 0, .int 0, .int 0, .int 0])), (a_m, .inl (k_m, 1024, .inl (fun _ => 0)))] := hD
        obtain rfl : r_4 = 4 := hw
        refine lv_iadd hx hb dX6_steps_38 ?_
        refine lv_topi (fun v_5 ev_5 => ?_)
        obtain rfl : v_5 = nI (4 * (j + 1)) := ev_5.trans (zl_4 j)
        refine lv_istore_n (lv' := [(2, .int (nI (4 * (j + 1)))), (3, .int (nI j)), (0, .ref a_k), (1, .int n0)]) hx hb dX6_steps_39 rfl hl (by decide) rfl (fun ls hl => ?_)
        refine lv_iinc (v := (nI (j + 1))) (lv' := [(3, .int (nI (j + 1))), (2, .int (nI (4 * (j + 1)))), (0, .ref a_k), (1, .int n0)]) hx hb dX6_steps_40 hl (k := 1) rfl (nI_1 j) (by decide) rfl (fun ls hl => ?_)
        refine lv_goto (tgt := 25) hx hb dX6_steps_43 (by decide) ?_
        exact ih (j + 1) (by omega) (by omega) (u_4 0) 4 (u_4 1) _ _ _ (hP.sub [0, 1, 2, 3, 4, 5, 6, 7, 8] rfl) (hD.sub [0, 1, 2, 3, 4, 5, 6, 7, 8] (by decide) rfl) hS (lv_sub hl [0, 1, 2, 3] rfl)
      · refine lv_icmp_ge (tgt := 46) hx hb dX6_steps_27 (by decide) (fun c_6 => ?_) (fun c_6 => absurd (by rw [hn]; exact nI_le (by omega) (by omega)) c_6)
        refine lv_iload_n hx hb dX6_steps_46 rfl (lv_at hl 1 rfl) ?_
        have hP9 := hP.sub (ws' := []) [] rfl
        have hD9 := hD.sub (ws' := []) [] (by decide) rfl
        have hK9 := hK.sub (tys' := []) [] rfl
        exact W.iret (v := (nI (4 * j))) hx hb hr (fun t9 ht hW => ⟨⟨(nI (4 * j)), (), rfl, (by rw [show j = cnt by omega]), by rw [ht]; exact hP9, va_K.moved hW.alike hK9, hD9⟩, hS.F ht⟩) hS.2.2 dX6_steps_47
  exact loop (cnt + 1) 0 (by omega) (by omega) pc tk t _ _ _ hP hD hS (lv_sub hl [0, 1, 2, 3] (by simp only [Nat.mul_zero, nI_0]; rfl))
