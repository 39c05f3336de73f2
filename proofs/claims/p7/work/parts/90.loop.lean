theorem dL_law_23 : decode cL_law 23 = .ok (.iload 4, 2) := by decide +kernel
theorem dL_law_25 : decode cL_law 25 = .ok (.aload_n 0, 1) := by decide +kernel
theorem dL_law_26 : decode cL_law 26 = .ok (.arraylength, 1) := by decide +kernel
theorem dL_law_27 : decode cL_law 27 = .ok (.iconst 3, 1) := by decide +kernel
theorem dL_law_28 : decode cL_law 28 = .ok (.isub, 1) := by decide +kernel
theorem dL_law_29 : decode cL_law 29 = .ok (.if_icmp .gt 408, 3) := by decide +kernel
theorem dL_law_32 : decode cL_law 32 = .ok (.aload_n 0, 1) := by decide +kernel
theorem dL_law_33 : decode cL_law 33 = .ok (.iload 4, 2) := by decide +kernel
theorem dL_law_35 : decode cL_law 35 = .ok (.iaload, 1) := by decide +kernel
theorem dL_law_36 : decode cL_law 36 = .ok (.bipush 15, 2) := by decide +kernel
theorem dL_law_38 : decode cL_law 38 = .ok (.iand, 1) := by decide +kernel
theorem dL_law_39 : decode cL_law 39 = .ok (.tableswitch 392 0 8 #[49, 86, 111, 124, 152, 208, 299, 327, 355], 49) := by decide +kernel
theorem dL_law_431 : decode cL_law 431 = .ok (.iinc 4 3, 3) := by decide +kernel
theorem dL_law_434 : decode cL_law 434 = .ok (.goto (-411), 3) := by decide +kernel
theorem dL_law_437 : decode cL_law 437 = .ok (.iconst 1, 1) := by decide +kernel
theorem dL_law_438 : decode cL_law 438 = .ok (.ireturn, 1) := by decide +kernel
set_option maxHeartbeats 4000000 in
set_option maxRecDepth 100000 in
theorem law_loop {p : Program} {l : Launch} {e : Env} {s : State} {m : MethodId} {below : List Frame} {meth : Method} {c : Code} {b L : Nat} {xs : Nat → Int32} {dC : Nat → ClassId} {dI : Nat → Nat → Nat} {a_k : Nat} {a_p : Nat} {a_m : Nat} {a_t : Nat} {a_i : Nat} {a_o : Nat} {a_r : Nat} {a_f : Nat} {a_u : Nat} {a_d : Nat} {a_b : Nat} {a_c : Nat} {a_q : Nat} {a_s : Nat} {b_o : Nat} {b_m : Nat} {b_r : Nat} {b_l : Nat} {b_d : Nat} {b_w : Nat} {b_c : Nat} {b_q : Nat} {b_s : Nat} {o_l : Nat} {k_d : ClassId} {k_b : ClassId} {k_c : ClassId} {k_q : ClassId} {k_s : ClassId} {k_m : ClassId} {k_r : ClassId} {j_m : ClassId} {j_r : ClassId} {j_l : ClassId} {j_d : ClassId} {j_w : ClassId} {j_c : ClassId} {j_q : ClassId} {j_s : ClassId} {k_l : ClassId} (hf : l.flags = pinnedFlags ++ [noTraceFlag]) (C0 : lw_At p s m meth c b L xs) (hL : L ≤ 1536) (hN : nk s) (hZ : za (fun q : Nat => s.heap.size ≤ q) s s.heap) (hK : va_K (dC, dI) vwCl [(k_d, .boolean), (k_b, .boolean), (k_c, .boolean), (k_q, .int), (k_s, .int), (k_m, .int), (k_r, .int), (j_m, .int), (j_r, .int), (j_l, .boolean), (j_d, .boolean), (j_w, .boolean), (j_c, .boolean), (j_q, .int), (j_s, .int), (k_l, .long)] s) : ∀ (n_ q : Nat), L + 1 ≤ 3 * q + 3 * n_ → 3 * q ≤ L → ∀ (g : Nat → Int32) (n : Nat → Nat) (f : Nat → Nat → Int32) (fd : Nat → Int32) (ln : Int32) (se : Int32) (g2 : Nat → Int32) (n2 : Nat → Nat) (f2 : Nat → Nat → Int32) (fl : Nat → Int32) (fo : Nat → Int64) (H : Heap) (locs : List Loc) (ls : Array Slot), zL_I n n2 fd fl ln se → va_P (dC, dI) vwCl [(a_k, .inr (6, [.ref a_m, .ref a_t, .ref a_u, .ref a_i, .ref a_p])), (a_p, .inr (4, [.ref a_m, .ref a_t, .ref a_u, .ref a_i, .ref a_o, .ref a_r, .ref a_f, .int (g 21), .int (g 22), .int (g 23), .int (g 24)])), (a_m, .inl (k_m, 1024, .inl (f 0))), (a_t, .inr (5, [.int (g 0), .int (g 1), .int (g 2), .int (g 3), .int (g 4), .int (g 5), .int (g 6)])), (a_u, .inr (2, [.ref a_d, .ref a_b, .ref a_c, .ref a_q, .int (nI (n 0)), .int (nI (n 1)), .int (g 9), .int (g 10), .ref a_s, .int (nI (n 2)), .int (g 12)])), (a_d, .inl (k_d, 16, .inl fd)), (a_b, .inl (k_b, 16, .inl (f 2))), (a_c, .inl (k_c, 16, .inl (f 3))), (a_q, .inl (k_q, 8, .inl (f 4))), (a_s, .inl (k_s, 16, .inl (f 5))), (a_i, .inr (1, [.int (g 13), .int (g 14), .int (g 15), .int (g 16), .int ln, .int se, .int (g 19)])), (a_o, .inr (3, [.ref a_t, .ref a_u])), (a_r, .inl (k_r, 8, .inl (f 6))), (a_f, .inr (0, [.int (g 20)])), (b_o, .inr (7, [.ref b_m, .ref b_r, .int (g2 0), .int (g2 1), .int (g2 2), .int (g2 3), .int (g2 4), .int (g2 5), .int (g2 6), .int (g2 7), .ref b_l, .int (g2 8), .int (g2 9), .int (g2 10), .int (g2 11), .int (g2 12), .int (g2 13), .int (g2 14), .int (g2 15), .int (g2 16), .ref b_d, .ref b_w, .ref b_c, .int (nI (n2 0)), .ref b_q, .int (g2 17), .int (g2 18), .int (nI (n2 1)), .ref b_s, .int (g2 19)])), (b_m, .inl (j_m, 1024, .inl (f2 0))), (b_r, .inl (j_r, 8, .inl (f2 1))), (b_l, .inl (j_l, 2, .inl fl)), (b_d, .inl (j_d, 16, .inl fd)), (b_w, .inl (j_w, 16, .inl (f2 2))), (b_c, .inl (j_c, 16, .inl (f2 3))), (b_q, .inl (j_q, 8, .inl (f2 4))), (b_s, .inl (j_s, 16, .inl (f2 5))), (o_l, .inl (k_l, 1, .inr (.inl fo)))] H → va_D (fun q : Nat => s.heap.size ≤ q) [(a_k, .inr (6, [.ref a_m, .ref a_t, .ref a_u, .ref a_i, .ref a_p])), (a_p, .inr (4, [.ref a_m, .ref a_t, .ref a_u, .ref a_i, .ref a_o, .ref a_r, .ref a_f, .int (g 21), .int (g 22), .int (g 23), .int (g 24)])), (a_m, .inl (k_m, 1024, .inl (f 0))), (a_t, .inr (5, [.int (g 0), .int (g 1), .int (g 2), .int (g 3), .int (g 4), .int (g 5), .int (g 6)])), (a_u, .inr (2, [.ref a_d, .ref a_b, .ref a_c, .ref a_q, .int (nI (n 0)), .int (nI (n 1)), .int (g 9), .int (g 10), .ref a_s, .int (nI (n 2)), .int (g 12)])), (a_d, .inl (k_d, 16, .inl fd)), (a_b, .inl (k_b, 16, .inl (f 2))), (a_c, .inl (k_c, 16, .inl (f 3))), (a_q, .inl (k_q, 8, .inl (f 4))), (a_s, .inl (k_s, 16, .inl (f 5))), (a_i, .inr (1, [.int (g 13), .int (g 14), .int (g 15), .int (g 16), .int ln, .int se, .int (g 19)])), (a_o, .inr (3, [.ref a_t, .ref a_u])), (a_r, .inl (k_r, 8, .inl (f 6))), (a_f, .inr (0, [.int (g 20)])), (b_o, .inr (7, [.ref b_m, .ref b_r, .int (g2 0), .int (g2 1), .int (g2 2), .int (g2 3), .int (g2 4), .int (g2 5), .int (g2 6), .int (g2 7), .ref b_l, .int (g2 8), .int (g2 9), .int (g2 10), .int (g2 11), .int (g2 12), .int (g2 13), .int (g2 14), .int (g2 15), .int (g2 16), .ref b_d, .ref b_w, .ref b_c, .int (nI (n2 0)), .ref b_q, .int (g2 17), .int (g2 18), .int (nI (n2 1)), .ref b_s, .int (g2 19)])), (b_m, .inl (j_m, 1024, .inl (f2 0))), (b_r, .inl (j_r, 8, .inl (f2 1))), (b_l, .inl (j_l, 2, .inl fl)), (b_d, .inl (j_d, 16, .inl fd)), (b_w, .inl (j_w, 16, .inl (f2 2))), (b_c, .inl (j_c, 16, .inl (f2 3))), (b_q, .inl (j_q, 8, .inl (f2 4))), (b_s, .inl (j_s, 16, .inl (f2 5))), (o_l, .inl (k_l, 1, .inr (.inl fo)))] → va_S (fun q : Nat => s.heap.size ≤ q) s.heap H locs → lv_has ls 7 [(4, .int (nI (3 * q))), (3, .ref o_l), (2, .ref b_o), (1, .ref a_k), (0, .ref b)] → W p l e room_1 s m #[Value.ref b] below meth c H locs (24 + q) (2285 + 6 * q) (lw_Z below #[Value.ref b] s) (F0 m 23 ls []) := by
  obtain ⟨hx, hb, hr, hml, hown, hts0, hX, hbl, hlocks, hgv⟩ := id C0
  have hA : ∀ q : Nat, s.heap.size ≤ q → (fun q : Nat => s.heap.size ≤ q) q := fun _ h => h
  have hbA : ¬ (fun q : Nat => s.heap.size ≤ q) b := Nat.not_le.mpr hbl
  have hown : s.vm.findClass RL = some m.cls := hown
  have hts : ∀ w ∈ zw, w.before _ s = true := fun w h => hts0 w (zw_sub w h)
  intro n_
  induction n_ with
  | zero => intro q h1 h2; exact absurd h1 (by omega)
  | succ n_ ih =>
    intro q hq1 hq2 g n f fd ln se g2 n2 f2 fl fo H locs ls hI hP hD hS hl
    have kk : 3 * q + 3 ≤ L → ∀ (g : Nat → Int32) (n : Nat → Nat) (f : Nat → Nat → Int32) (fd : Nat → Int32) (ln : Int32) (se : Int32) (g2 : Nat → Int32) (n2 : Nat → Nat) (f2 : Nat → Nat → Int32) (fl : Nat → Int32) (fo : Nat → Int64) (H : Heap) (locs : List Loc) (ls : Array Slot), zL_I n n2 fd fl ln se → va_P (dC, dI) vwCl [(a_k, .inr (6, [.ref a_m, .ref a_t, .ref a_u, .ref a_i, .ref a_p])), (a_p, .inr (4, [.ref a_m, .ref a_t, .ref a_u, .ref a_i, .ref a_o, .ref a_r, .ref a_f, .int (g 21), .int (g 22), .int (g 23), .int (g 24)])), (a_m, .inl (k_m, 1024, .inl (f 0))), (a_t, .inr (5, [.int (g 0), .int (g 1), .int (g 2), .int (g 3), .int (g 4), .int (g 5), .int (g 6)])), (a_u, .inr (2, [.ref a_d, .ref a_b, .ref a_c, .ref a_q, .int (nI (n 0)), .int (nI (n 1)), .int (g 9), .int (g 10), .ref a_s, .int (nI (n 2)), .int (g 12)])), (a_d, .inl (k_d, 16, .inl fd)), (a_b, .inl (k_b, 16, .inl (f 2))), (a_c, .inl (k_c, 16, .inl (f 3))), (a_q, .inl (k_q, 8, .inl (f 4))), (a_s, .inl (k_s, 16, .inl (f 5))), (a_i, .inr (1, [.int (g 13), .int (g 14), .int (g 15), .int (g 16), .int ln, .int se, .int (g 19)])), (a_o, .inr (3, [.ref a_t, .ref a_u])), (a_r, .inl (k_r, 8, .inl (f 6))), (a_f, .inr (0, [.int (g 20)])), (b_o, .inr (7, [.ref b_m, .ref b_r, .int (g2 0), .int (g2 1), .int (g2 2), .int (g2 3), .int (g2 4), .int (g2 5), .int (g2 6), .int (g2 7), .ref b_l, .int (g2 8), .int (g2 9), .int (g2 10), .int (g2 11), .int (g2 12), .int (g2 13), .int (g2 14), .int (g2 15), .int (g2 16), .ref b_d, .ref b_w, .ref b_c, .int (nI (n2 0)), .ref b_q, .int (g2 17), .int (g2 18), .int (nI (n2 1)), .ref b_s, .int (g2 19)])), (b_m, .inl (j_m, 1024, .inl (f2 0))), (b_r, .inl (j_r, 8, .inl (f2 1))), (b_l, .inl (j_l, 2, .inl fl)), (b_d, .inl (j_d, 16, .inl fd)), (b_w, .inl (j_w, 16, .inl (f2 2))), (b_c, .inl (j_c, 16, .inl (f2 3))), (b_q, .inl (j_q, 8, .inl (f2 4))), (b_s, .inl (j_s, 16, .inl (f2 5))), (o_l, .inl (k_l, 1, .inr (.inl fo)))] H → va_D (fun q : Nat => s.heap.size ≤ q) [(a_k, .inr (6, [.ref a_m, .ref a_t, .ref a_u, .ref a_i, .ref a_p])), (a_p, .inr (4, [.ref a_m, .ref a_t, .ref a_u, .ref a_i, .ref a_o, .ref a_r, .ref a_f, .int (g 21), .int (g 22), .int (g 23), .int (g 24)])), (a_m, .inl (k_m, 1024, .inl (f 0))), (a_t, .inr (5, [.int (g 0), .int (g 1), .int (g 2), .int (g 3), .int (g 4), .int (g 5), .int (g 6)])), (a_u, .inr (2, [.ref a_d, .ref a_b, .ref a_c, .ref a_q, .int (nI (n 0)), .int (nI (n 1)), .int (g 9), .int (g 10), .ref a_s, .int (nI (n 2)), .int (g 12)])), (a_d, .inl (k_d, 16, .inl fd)), (a_b, .inl (k_b, 16, .inl (f 2))), (a_c, .inl (k_c, 16, .inl (f 3))), (a_q, .inl (k_q, 8, .inl (f 4))), (a_s, .inl (k_s, 16, .inl (f 5))), (a_i, .inr (1, [.int (g 13), .int (g 14), .int (g 15), .int (g 16), .int ln, .int se, .int (g 19)])), (a_o, .inr (3, [.ref a_t, .ref a_u])), (a_r, .inl (k_r, 8, .inl (f 6))), (a_f, .inr (0, [.int (g 20)])), (b_o, .inr (7, [.ref b_m, .ref b_r, .int (g2 0), .int (g2 1), .int (g2 2), .int (g2 3), .int (g2 4), .int (g2 5), .int (g2 6), .int (g2 7), .ref b_l, .int (g2 8), .int (g2 9), .int (g2 10), .int (g2 11), .int (g2 12), .int (g2 13), .int (g2 14), .int (g2 15), .int (g2 16), .ref b_d, .ref b_w, .ref b_c, .int (nI (n2 0)), .ref b_q, .int (g2 17), .int (g2 18), .int (nI (n2 1)), .ref b_s, .int (g2 19)])), (b_m, .inl (j_m, 1024, .inl (f2 0))), (b_r, .inl (j_r, 8, .inl (f2 1))), (b_l, .inl (j_l, 2, .inl fl)), (b_d, .inl (j_d, 16, .inl fd)), (b_w, .inl (j_w, 16, .inl (f2 2))), (b_c, .inl (j_c, 16, .inl (f2 3))), (b_q, .inl (j_q, 8, .inl (f2 4))), (b_s, .inl (j_s, 16, .inl (f2 5))), (o_l, .inl (k_l, 1, .inr (.inl fo)))] → va_S (fun q : Nat => s.heap.size ≤ q) s.heap H locs → lv_has ls 7 [(4, .int (nI (3 * q))), (3, .ref o_l), (2, .ref b_o), (1, .ref a_k), (0, .ref b)] → W p l e room_1 s m #[Value.ref b] below meth c H locs (24 + q + 1) (2285 + 6 * q + 6) (lw_Z below #[Value.ref b] s) (F0 m 431 ls []) := by
      intro hq3 g n f fd ln se g2 n2 f2 fl fo H locs ls hI hP hD hS hl
      refine lv_iinc (v := (nI (3 * (q + 1)))) (lv' := [(4, .int (nI (3 * (q + 1)))), (3, .ref o_l), (2, .ref b_o), (1, .ref a_k), (0, .ref b)]) hx hb dL_law_431 hl (k := 0) rfl (zL_3 q) (by decide) rfl (fun ls hl => ?_)
      refine lv_goto (tgt := 23) hx hb dL_law_434 (by decide) ?_
      refine W.widen (k := 24 + (q + 1)) (n := 2285 + 6 * (q + 1)) (by omega) (by omega) ?_
      exact ih (q + 1) (by omega) (by omega) g n f fd ln se g2 n2 f2 fl fo _ _ _ hI hP hD hS (lv_sub hl [0, 1, 2, 3, 4] rfl)
    refine lv_iload hx hb dL_law_23 (lv_at hl 0 rfl) ?_
    refine lv_aload_n hx hb dL_law_25 rfl (lv_at hl 4 rfl) ?_
    refine va_slen hx hb hX hbl hbA hS dL_law_26 ?_
    refine lv_topi (fun v_1 ev_1 => ?_)
    refine lv_iconst (v := 3) hx hb dL_law_27 (by decide) ?_
    refine lv_isub hx hb dL_law_28 ?_
    refine lv_topi (fun v_2 ev_2 => ?_)
    by_cases hg : L < 3 * q + 3
    · refine lv_icmp_gt (tgt := 437) hx hb dL_law_29 (by decide) (fun c_3 => ?_) (fun c_3 => absurd (by rw [ev_2, ev_1]; exact (zL_gt (by omega) (by omega)).mpr hg) c_3)
      refine lv_iconst (v := 1) hx hb dL_law_437 (by decide) ?_
      refine va_forget (fun q9 hq9 => hS.2.2 q9 hq9) ?_
      refine W.widen (k := 1054) (n := 10513) (by omega) (by omega) ?_
      exact lw_ret hx hb hr hlocks dL_law_438
    · refine lv_icmp_gt (tgt := 437) hx hb dL_law_29 (by decide) (fun c_3 => absurd ((zL_gt (by omega) (by omega)).mp (by rw [ev_2, ev_1] at c_3; exact c_3)) hg) (fun c_3 => ?_)
      refine lv_aload_n hx hb dL_law_32 rfl (lv_at hl 4 rfl) ?_
      refine lv_iload hx hb dL_law_33 (lv_at hl 0 rfl) ?_
      refine va_sld hx hb hX hbl hbA hS (vp_in_nI (show 3 * q < L by omega) (by omega)) dL_law_35 ?_
      refine lv_topi (fun v_4 ev_4 => ?_)
      obtain rfl : v_4 = xs (3 * q) := ev_4.trans (congrArg xs (nI_clamp (by omega)))
      refine lv_bipush (v := 15) hx hb dL_law_36 (by decide) ?_
      refine lv_iand hx hb dL_law_38 ?_
      refine lv_topi (fun v_5 ev_5 => ?_)
      obtain ⟨j_5, hj_5, ej_5⟩ := pk_andE (xs (3 * q)) (m := 15) 4 (by decide)
      obtain rfl : v_5 = nI j_5 := ev_5.trans ej_5
      have hj_5 : j_5 < 16 := hj_5
      rcases (show j_5 = 0 ∨ j_5 = 1 ∨ j_5 = 2 ∨ j_5 = 3 ∨ j_5 = 4 ∨ j_5 = 5 ∨ j_5 = 6 ∨ j_5 = 7 ∨ j_5 = 8 ∨ (j_5 ≠ 0 ∧ j_5 ≠ 1 ∧ j_5 ≠ 2 ∧ j_5 ≠ 3 ∧ j_5 ≠ 4 ∧ j_5 ≠ 5 ∧ j_5 ≠ 6 ∧ j_5 ≠ 7 ∧ j_5 ≠ 8) by omega) with h_6 | h_6 | h_6 | h_6 | h_6 | h_6 | h_6 | h_6 | h_6 | h_6
      · refine zs_top (w := 0) (show (nI j_5) = (0 : Int32) from by rw [h_6]; try rfl) ?_
        refine lv_tableIn (off := 49) (tgt := 88) hx hb dL_law_39 (by decide) (by decide) rfl (by decide) ?_
        exact law_0 hf C0 hL hN hZ (i := 3 * q) (by omega) hI (cells := 24 + q) (slots := 2285 + 6 * q) (by omega) (by omega) hK hP hD hS (lv_sub hl [0, 1, 2, 3, 4] rfl) (kk (by omega))
      · refine zs_top (w := 1) (show (nI j_5) = (1 : Int32) from by rw [h_6]; try rfl) ?_
        refine lv_tableIn (off := 86) (tgt := 125) hx hb dL_law_39 (by decide) (by decide) rfl (by decide) ?_
        exact law_1 hf C0 hL hN hZ (i := 3 * q) (by omega) hI (cells := 24 + q) (slots := 2285 + 6 * q) (by omega) (by omega) hK hP hD hS (lv_sub hl [0, 1, 2, 3, 4] rfl) (kk (by omega))
      · refine zs_top (w := 2) (show (nI j_5) = (2 : Int32) from by rw [h_6]; try rfl) ?_
        refine lv_tableIn (off := 111) (tgt := 150) hx hb dL_law_39 (by decide) (by decide) rfl (by decide) ?_
        exact law_2 hf C0 hL hN hZ (i := 3 * q) (by omega) hI (cells := 24 + q) (slots := 2285 + 6 * q) (by omega) (by omega) hK hP hD hS (lv_sub hl [0, 1, 2, 3, 4] rfl) (kk (by omega))
      · refine zs_top (w := 3) (show (nI j_5) = (3 : Int32) from by rw [h_6]; try rfl) ?_
        refine lv_tableIn (off := 124) (tgt := 163) hx hb dL_law_39 (by decide) (by decide) rfl (by decide) ?_
        exact law_3 hf C0 hL hN hZ (i := 3 * q) (by omega) hI (cells := 24 + q) (slots := 2285 + 6 * q) (by omega) (by omega) hK hP hD hS (lv_sub hl [0, 1, 2, 3, 4] rfl) (kk (by omega))
      · refine zs_top (w := 4) (show (nI j_5) = (4 : Int32) from by rw [h_6]; try rfl) ?_
        refine lv_tableIn (off := 152) (tgt := 191) hx hb dL_law_39 (by decide) (by decide) rfl (by decide) ?_
        exact law_4 hf C0 hL hN hZ (i := 3 * q) (by omega) hI (cells := 24 + q) (slots := 2285 + 6 * q) (by omega) (by omega) hK hP hD hS (lv_sub hl [0, 1, 2, 3, 4] rfl) (kk (by omega))
      · refine zs_top (w := 5) (show (nI j_5) = (5 : Int32) from by rw [h_6]; try rfl) ?_
        refine lv_tableIn (off := 208) (tgt := 247) hx hb dL_law_39 (by decide) (by decide) rfl (by decide) ?_
        exact law_5 hf C0 hL hN hZ (i := 3 * q) (by omega) hI (cells := 24 + q) (slots := 2285 + 6 * q) (by omega) (by omega) hK hP hD hS (lv_sub hl [0, 1, 2, 3, 4] rfl) (kk (by omega))
      · refine zs_top (w := 6) (show (nI j_5) = (6 : Int32) from by rw [h_6]; try rfl) ?_
        refine lv_tableIn (off := 299) (tgt := 338) hx hb dL_law_39 (by decide) (by decide) rfl (by decide) ?_
        exact law_6 hf C0 hL hN hZ (i := 3 * q) (by omega) hI (cells := 24 + q) (slots := 2285 + 6 * q) (by omega) (by omega) hK hP hD hS (lv_sub hl [0, 1, 2, 3, 4] rfl) (kk (by omega))
      · refine zs_top (w := 7) (show (nI j_5) = (7 : Int32) from by rw [h_6]; try rfl) ?_
        refine lv_tableIn (off := 327) (tgt := 366) hx hb dL_law_39 (by decide) (by decide) rfl (by decide) ?_
        exact law_7 hf C0 hL hN hZ (i := 3 * q) (by omega) hI (cells := 24 + q) (slots := 2285 + 6 * q) (by omega) (by omega) hK hP hD hS (lv_sub hl [0, 1, 2, 3, 4] rfl) (kk (by omega))
      · refine zs_top (w := 8) (show (nI j_5) = (8 : Int32) from by rw [h_6]; try rfl) ?_
        refine lv_tableIn (off := 355) (tgt := 394) hx hb dL_law_39 (by decide) (by decide) rfl (by decide) ?_
        exact law_8 hf C0 hL hN hZ (i := 3 * q) (by omega) hI (cells := 24 + q) (slots := 2285 + 6 * q) (by omega) (by omega) hK hP hD hS (lv_sub hl [0, 1, 2, 3, 4] rfl) (kk (by omega))
      · refine lv_tableOut (tgt := 431) hx hb dL_law_39 (by rw [nI_toInt (by omega)]; omega) (by decide) ?_
        refine W.widen (k := 24 + q + 1) (n := 2285 + 6 * q + 6) (by omega) (by omega) ?_
        exact kk (by omega) g n f fd ln se g2 n2 f2 fl fo _ _ _ hI hP hD hS (lv_sub hl [0, 1, 2, 3, 4] rfl)
