theorem dL_law_0 : decode cL_law 0 = .ok (.new 8, 3) := by decide +kernel
theorem dL_law_11 : decode cL_law 11 = .ok (.dup, 1) := by decide +kernel
theorem dL_law_12 : decode cL_law 12 = .ok (.invokespecial 37, 3) := by decide +kernel
theorem dL_law_15 : decode cL_law 15 = .ok (.astore_n 2, 1) := by decide +kernel
theorem dL_law_16 : decode cL_law 16 = .ok (.iconst 1, 1) := by decide +kernel
theorem dL_law_17 : decode cL_law 17 = .ok (.newarray .long, 2) := by decide +kernel
theorem dL_law_19 : decode cL_law 19 = .ok (.astore_n 3, 1) := by decide +kernel
theorem dL_law_20 : decode cL_law 20 = .ok (.iconst 0, 1) := by decide +kernel
theorem dL_law_21 : decode cL_law 21 = .ok (.istore 4, 2) := by decide +kernel
theorem dL_law_3 : decode cL_law 3 = .ok (.dup, 1) := by decide +kernel
theorem dL_law_32 : decode cL_law 32 = .ok (.aload_n 0, 1) := by decide +kernel
theorem dL_law_33 : decode cL_law 33 = .ok (.iload 4, 2) := by decide +kernel
theorem dL_law_35 : decode cL_law 35 = .ok (.iaload, 1) := by decide +kernel
theorem dL_law_36 : decode cL_law 36 = .ok (.bipush 15, 2) := by decide +kernel
theorem dL_law_38 : decode cL_law 38 = .ok (.iand, 1) := by decide +kernel
theorem dL_law_39 : decode cL_law 39 = .ok (.tableswitch 522 0 8 #[49, 86, 111, 124, 180, 271, 362, 418, 474], 49) := by decide +kernel
theorem dL_law_4 : decode cL_law 4 = .ok (.invokespecial 34, 3) := by decide +kernel
theorem dL_law_7 : decode cL_law 7 = .ok (.astore_n 1, 1) := by decide +kernel
theorem dL_law_8 : decode cL_law 8 = .ok (.new 35, 3) := by decide +kernel
set_option maxRecDepth 100000 in
theorem nk_in : (∀ q ∈ nk_F, Cond.fieldLinkNest q.1 q.2.1 q.2.2.1 q.2.2.2.1 q.2.2.2.2.1 q.2.2.2.2.2 ∈ lw_tbl) ∧ ∀ q ∈ nk_M, Cond.methodLinkNest q.1 q.2.1 q.2.2.1 q.2.2.2 ∈ lw_tbl := by decide +kernel
theorem nk_of {s : State} {args : Array Value} (h : ∀ w ∈ lw_tbl, w.before args s = true) : nk s := ⟨fun q hq => va_Nw.of rfl (h _ (nk_in.1 q hq)), fun q hq => va_Nw.of rfl (h _ (nk_in.2 q hq))⟩
set_option maxRecDepth 100000 in
theorem za_in : (∀ x ∈ za_D, Cond.declares x ∈ lw_tbl) ∧ (∀ x ∈ za_C, Cond.castable x x ∈ lw_tbl) ∧ (∀ x ∈ za_S, Cond.stringRef RX6 x.1 x.2 ∈ lw_tbl) ∧ Cond.laysStatic Bundle.tN "UNASSIGNED_STACK" Bundle.steD ∈ lw_tbl ∧ Cond.laysStatic Bundle.tN "SUPPRESSED_SENTINEL" Bundle.listD ∈ lw_tbl ∧ Cond.initialized Bundle.tN ∈ lw_tbl := by decide +kernel
set_option maxRecDepth 100000 in
theorem za_in2 : (∀ x ∈ za_S, Cond.exactly (.string RX6 x.1) "java/lang/String" ∈ flatC (Jvm.Cond.and given_1 narrow_1)) ∧ Cond.isRef (.static Bundle.tN "UNASSIGNED_STACK" Bundle.steD) ∈ flatC (Jvm.Cond.and given_1 narrow_1) ∧ Cond.isRef (.static Bundle.tN "SUPPRESSED_SENTINEL" Bundle.listD) ∈ flatC (Jvm.Cond.and given_1 narrow_1) := by decide +kernel
theorem za_of {s : State} {args : Array Value} (h : ∀ w ∈ lw_tbl, w.before args s = true) (hg : (Jvm.Cond.and given_1 narrow_1).before args s = true) : za (fun q : Nat => s.heap.size ≤ q) s s.heap := by
  have hs := flat_of_before _ hg
  have hA : ∀ a : Nat, a < s.heap.size → ¬ (fun q : Nat => s.heap.size ≤ q) a := fun a ha => Nat.not_le.mpr ha
  refine ⟨vx_Zqof (h _ za_in.2.2.2.1) (h _ za_in.2.2.2.2.2) (hs _ za_in2.2.1) hA, vx_Zqof (h _ za_in.2.2.2.2.1) (h _ za_in.2.2.2.2.2) (hs _ za_in2.2.2) hA, fun x hx => va_Nw.of rfl (h _ (za_in.1 x hx)), fun x hx => va_Nw.of rfl (h _ (za_in.2.1 x hx)), fun x hx => ?_⟩
  obtain ⟨a, _, _, _, q1, -⟩ := Cond.exactly_spec (args := args) (first := s) (o := none) (s := s) (idx := []) (t := .string RX6 x.1) (cls := "java/lang/String") (hs _ (za_in2.1 x hx))
  exact ⟨a, vk_R.of (h _ (za_in.2.2.1 x hx)) q1⟩
set_option maxHeartbeats 4000000 in
set_option maxRecDepth 100000 in
theorem whole_start {p : Program} {e : Env} {s : State} {m : MethodId} {below : List Frame} {meth : Method} {c : Code} (l : Launch) (hf : l.flags = pinnedFlags ++ [noTraceFlag]) {b L : Nat} {xs : Nat → Int32} (hL : L ≤ 3) (C0 : lw_At p s m meth c b L xs) : W p l e room_1 s m #[Value.ref b] below meth c s.heap [] 0 0 (lw_Z below #[Value.ref b] s) (entryFrame m ([Value.ref b] : List Value).toArray 7) := by
  obtain ⟨hx, hb, hr, hml, hown, hts0, hX, hbl, hlocks, hgv⟩ := id C0
  have hA : ∀ q : Nat, s.heap.size ≤ q → (fun q : Nat => s.heap.size ≤ q) q := fun _ h => h
  have hbA : ¬ (fun q : Nat => s.heap.size ≤ q) b := Nat.not_le.mpr hbl
  have hown : s.vm.findClass RL = some m.cls := hown
  have hts : ∀ w ∈ zw, w.before _ s = true := fun w h => hts0 w (zw_sub w h)
  have hN := nk_of hts0
  have hZ := za_of hts0 hgv
  obtain ⟨c0, iS0, hKn0⟩ := u_known (C := RX0) (T := TX0) (N := 1) (n := 1) hts zx_0 (hts (.instantiable RX0 1) zw_225)
  obtain ⟨c1, iS1, hKn1⟩ := u_known (C := RX1) (T := TX1) (N := 7) (n := 7) hts zx_1 (hts (.instantiable RX1 7) zw_183)
  obtain ⟨c2, iS2, hKn2⟩ := u_known (C := RX2) (T := TX2) (N := 11) (n := 11) hts zx_2 (hts (.instantiable RX2 11) zw_139)
  obtain ⟨c3, iS3, hKn3⟩ := u_known (C := RX3) (T := TX3) (N := 2) (n := 2) hts zx_3 (hts (.instantiable RX3 2) zw_237)
  obtain ⟨c4, iS4, hKn4⟩ := u_known (C := RX4) (T := TX4) (N := 11) (n := 11) hts zx_4 (hts (.instantiable RX4 11) zw_219)
  obtain ⟨c5, iS5, hKn5⟩ := u_known (C := RX5) (T := TX5) (N := 7) (n := 7) hts zx_5 (hts (.instantiable RX5 7) zw_107)
  obtain ⟨c6, iS6, hKn6⟩ := u_known (C := RX6) (T := TX6) (N := 5) (n := 5) hts zx_6 (hts (.instantiable RX6 5) zw_99)
  obtain ⟨c7, iS7, hKn7⟩ := u_known (C := RX7) (T := TX7) (N := 30) (n := 30) hts zx_7 (hts (.instantiable RX7 30) zw_715)
  obtain ⟨dC, dI, hKc⟩ : ∃ (dC : Nat → ClassId) (dI : Nat → Nat → Nat), ∀ (k : Nat) (q : vw_C), vwCl[k]? = some q → u_Kn s q.1 q.2.1 q.2.2 (dC k) (dI k) := by
    refine ⟨fun k => if k = 0 then c0 else if k = 1 then c1 else if k = 2 then c2 else if k = 3 then c3 else if k = 4 then c4 else if k = 5 then c5 else if k = 6 then c6 else c7, fun k => if k = 0 then iS0 else if k = 1 then iS1 else if k = 2 then iS2 else if k = 3 then iS3 else if k = 4 then iS4 else if k = 5 then iS5 else if k = 6 then iS6 else iS7, ?_⟩
    intro k q hq
    match k, hq with
    | 0, hq => cases hq; exact hKn0
    | 1, hq => cases hq; exact hKn1
    | 2, hq => cases hq; exact hKn2
    | 3, hq => cases hq; exact hKn3
    | 4, hq => cases hq; exact hKn4
    | 5, hq => cases hq; exact hKn5
    | 6, hq => cases hq; exact hKn6
    | 7, hq => cases hq; exact hKn7
    | k + 8, hq => simp [vwCl] at hq
  have hS : va_S (fun q : Nat => s.heap.size ≤ q) s.heap s.heap [] := va_S.rf
  have hK : va_K (dC, dI) vwCl [] s := ⟨hKc, fun k q h => by simp at h⟩
  have hP : va_P (dC, dI) vwCl [] s.heap := fun k q h => by simp at h
  have hD : va_D (fun q : Nat => s.heap.size ≤ q) [] := ⟨fun i j p q h => by simp at h, fun k q h => by simp at h⟩
  have hl := lv_entry ([.ref b]) (n := 7) (Nat.le_of_ble_eq_true rfl)
  rw [lg_entry_eq]
  generalize (lg_sl ([.ref b]) ++ List.replicate (7 - (lg_sl ([.ref b])).length) Slot.unset).toArray = ls at hl ⊢
  have hl : lv_has ls 7 [(0, .ref b)] := hl
  refine va_new (ci := 6) (fs := [.null, .null, .null, .null, .null]) (C := RX6) (T := TX6) (N := 5) hx hb hts zx_6 tyX6 tyX6_ok hown (hts (.classLink RL 8 RX6) zw_98) (hts (.instantiable RX6 5) zw_99) (hts (.initialized RX6) zw_83) hK hP hD hS hA rfl (fun j hj => by rcases (show j = 0 ∨ j = 1 ∨ j = 2 ∨ j = 3 ∨ j = 4 by omega) with rfl | rfl | rfl | rfl | rfl <;> rfl) (Nat.le_of_ble_eq_true rfl) (Nat.le_of_ble_eq_true rfl) dL_law_0 (fun q_1 H hP hD hS => ?_)
  have hP : va_P (dC, dI) vwCl [(q_1, .inr (6, [.null, .null, .null, .null, .null]))] H := hP
  have hD : va_D (fun q : Nat => s.heap.size ≤ q) [(q_1, .inr (6, [.null, .null, .null, .null, .null]))] := hD
  refine W.widen (k := 1) (n := 5) (by decide) (by decide) ?_
  refine lv_dup hx hb dL_law_3 rfl ?_
  refine zc_v (wr := []) hP hD hS hA [0] [] rfl rfl (by decide) (by decide) (va_runI (As := []) (rest := [.ref q_1]) ⟨hx, hb, hml, hown, hts⟩ (c_i6 l dC dI q_1 _) (cwI 0 hts (zg_0 zw_102) rfl rfl rfl (hts (.initialized RX6) zw_83) (hts (.methodLink RL 34 yX6_init) zw_100) (hts (.instanceMethod yX6_init) zw_101) rfl (by decide +kernel) ⟨Nat.le_of_ble_eq_true rfl, Nat.le_of_ble_eq_true rfl⟩) ⟨zc_blind, zc_start hP hD hK hN [0] [] rfl (by decide) rfl⟩ rfl rfl hl.1 rfl (lv_room (Nat.le_of_ble_eq_true rfl)) dL_law_4 ⟨Nat.le_of_ble_eq_true rfl, Nat.le_of_ble_eq_true rfl⟩) (fun u_2 H locs hw hK1 hP hD hS => ?_)
  have hK := hK.app hK1
  have hP : va_P (dC, dI) vwCl [(q_1, .inr (6, [.ref (u_2.1 0), .ref (u_2.1 1), .ref (u_2.1 2), .ref (u_2.1 8), .ref (u_2.1 9)])), ((u_2.1 0), .inl ((u_2.2 0), 1024, .inl (fun _ => 0))), ((u_2.1 1), .inr (5, [.int 0, .int 0, .int 0, .int 0, .int 0, .int 0, .int 0])), ((u_2.1 2), .inr (2, [.ref (u_2.1 3), .ref (u_2.1 4), .ref (u_2.1 5), .ref (u_2.1 6), .int 0, .int 0, .int 0, .int 0, .ref (u_2.1 7), .int 0, .int 64])), ((u_2.1 3), .inl ((u_2.2 1), 16, .inl (fun _ => 0))), ((u_2.1 4), .inl ((u_2.2 2), 16, .inl (fun _ => 0))), ((u_2.1 5), .inl ((u_2.2 3), 16, .inl (fun _ => 0))), ((u_2.1 6), .inl ((u_2.2 4), 8, .inl (fun _ => 0))), ((u_2.1 7), .inl ((u_2.2 5), 16, .inl (fun _ => 0))), ((u_2.1 8), .inr (1, [.int 0, .int 0, .int 7, .int 0, .int 0, .int 0, .int 0])), ((u_2.1 9), .inr (4, [.ref (u_2.1 0), .ref (u_2.1 1), .ref (u_2.1 2), .ref (u_2.1 8), .ref (u_2.1 12), .ref (u_2.1 10), .ref (u_2.1 11), .int 0, .int 0, .int 0, .int 0])), ((u_2.1 10), .inl ((u_2.2 6), 8, .inl (fun _ => 0))), ((u_2.1 11), .inr (0, [.int 0])), ((u_2.1 12), .inr (3, [.ref (u_2.1 1), .ref (u_2.1 2)]))] H := hP
  have hD : va_D (fun q : Nat => s.heap.size ≤ q) [(q_1, .inr (6, [.ref (u_2.1 0), .ref (u_2.1 1), .ref (u_2.1 2), .ref (u_2.1 8), .ref (u_2.1 9)])), ((u_2.1 0), .inl ((u_2.2 0), 1024, .inl (fun _ => 0))), ((u_2.1 1), .inr (5, [.int 0, .int 0, .int 0, .int 0, .int 0, .int 0, .int 0])), ((u_2.1 2), .inr (2, [.ref (u_2.1 3), .ref (u_2.1 4), .ref (u_2.1 5), .ref (u_2.1 6), .int 0, .int 0, .int 0, .int 0, .ref (u_2.1 7), .int 0, .int 64])), ((u_2.1 3), .inl ((u_2.2 1), 16, .inl (fun _ => 0))), ((u_2.1 4), .inl ((u_2.2 2), 16, .inl (fun _ => 0))), ((u_2.1 5), .inl ((u_2.2 3), 16, .inl (fun _ => 0))), ((u_2.1 6), .inl ((u_2.2 4), 8, .inl (fun _ => 0))), ((u_2.1 7), .inl ((u_2.2 5), 16, .inl (fun _ => 0))), ((u_2.1 8), .inr (1, [.int 0, .int 0, .int 7, .int 0, .int 0, .int 0, .int 0])), ((u_2.1 9), .inr (4, [.ref (u_2.1 0), .ref (u_2.1 1), .ref (u_2.1 2), .ref (u_2.1 8), .ref (u_2.1 12), .ref (u_2.1 10), .ref (u_2.1 11), .int 0, .int 0, .int 0, .int 0])), ((u_2.1 10), .inl ((u_2.2 6), 8, .inl (fun _ => 0))), ((u_2.1 11), .inr (0, [.int 0])), ((u_2.1 12), .inr (3, [.ref (u_2.1 1), .ref (u_2.1 2)]))] := hD
  have hK : va_K (dC, dI) vwCl [((u_2.2 0), .int), ((u_2.2 1), .boolean), ((u_2.2 2), .boolean), ((u_2.2 3), .boolean), ((u_2.2 4), .int), ((u_2.2 5), .int), ((u_2.2 6), .int)] s := hK
  refine W.widen (k := 14) (n := 1148) (by decide) (by decide) ?_
  refine lv_astore_n (lv' := [(1, .ref q_1), (0, .ref b)]) hx hb dL_law_7 rfl hl (by decide) rfl (fun ls hl => ?_)
  refine va_new (ci := 7) (fs := [.null, .null, .int 0, .int 0, .int 0, .int 0, .int 0, .int 0, .int 0, .int 0, .null, .int 0, .int 0, .int 0, .int 0, .int 0, .int 0, .int 0, .int 0, .int 0, .null, .null, .null, .int 0, .null, .int 0, .int 0, .int 0, .null, .int 0]) (C := RX7) (T := TX7) (N := 30) hx hb hts zx_7 tyX7 tyX7_ok hown (hts (.classLink RL 35 RX7) zw_714) (hts (.instantiable RX7 30) zw_715) (hts (.initialized RX7) zw_90) hK hP hD hS hA rfl (fun j hj => by rcases (show j = 0 ∨ j = 1 ∨ j = 2 ∨ j = 3 ∨ j = 4 ∨ j = 5 ∨ j = 6 ∨ j = 7 ∨ j = 8 ∨ j = 9 ∨ j = 10 ∨ j = 11 ∨ j = 12 ∨ j = 13 ∨ j = 14 ∨ j = 15 ∨ j = 16 ∨ j = 17 ∨ j = 18 ∨ j = 19 ∨ j = 20 ∨ j = 21 ∨ j = 22 ∨ j = 23 ∨ j = 24 ∨ j = 25 ∨ j = 26 ∨ j = 27 ∨ j = 28 ∨ j = 29 by omega) with rfl | rfl | rfl | rfl | rfl | rfl | rfl | rfl | rfl | rfl | rfl | rfl | rfl | rfl | rfl | rfl | rfl | rfl | rfl | rfl | rfl | rfl | rfl | rfl | rfl | rfl | rfl | rfl | rfl | rfl <;> rfl) (Nat.le_of_ble_eq_true rfl) (Nat.le_of_ble_eq_true rfl) dL_law_8 (fun q_3 H hP hD hS => ?_)
  have hP : va_P (dC, dI) vwCl [(q_1, .inr (6, [.ref (u_2.1 0), .ref (u_2.1 1), .ref (u_2.1 2), .ref (u_2.1 8), .ref (u_2.1 9)])), ((u_2.1 0), .inl ((u_2.2 0), 1024, .inl (fun _ => 0))), ((u_2.1 1), .inr (5, [.int 0, .int 0, .int 0, .int 0, .int 0, .int 0, .int 0])), ((u_2.1 2), .inr (2, [.ref (u_2.1 3), .ref (u_2.1 4), .ref (u_2.1 5), .ref (u_2.1 6), .int 0, .int 0, .int 0, .int 0, .ref (u_2.1 7), .int 0, .int 64])), ((u_2.1 3), .inl ((u_2.2 1), 16, .inl (fun _ => 0))), ((u_2.1 4), .inl ((u_2.2 2), 16, .inl (fun _ => 0))), ((u_2.1 5), .inl ((u_2.2 3), 16, .inl (fun _ => 0))), ((u_2.1 6), .inl ((u_2.2 4), 8, .inl (fun _ => 0))), ((u_2.1 7), .inl ((u_2.2 5), 16, .inl (fun _ => 0))), ((u_2.1 8), .inr (1, [.int 0, .int 0, .int 7, .int 0, .int 0, .int 0, .int 0])), ((u_2.1 9), .inr (4, [.ref (u_2.1 0), .ref (u_2.1 1), .ref (u_2.1 2), .ref (u_2.1 8), .ref (u_2.1 12), .ref (u_2.1 10), .ref (u_2.1 11), .int 0, .int 0, .int 0, .int 0])), ((u_2.1 10), .inl ((u_2.2 6), 8, .inl (fun _ => 0))), ((u_2.1 11), .inr (0, [.int 0])), ((u_2.1 12), .inr (3, [.ref (u_2.1 1), .ref (u_2.1 2)])), (q_3, .inr (7, [.null, .null, .int 0, .int 0, .int 0, .int 0, .int 0, .int 0, .int 0, .int 0, .null, .int 0, .int 0, .int 0, .int 0, .int 0, .int 0, .int 0, .int 0, .int 0, .null, .null, .null, .int 0, .null, .int 0, .int 0, .int 0, .null, .int 0]))] H := hP
  have hD : va_D (fun q : Nat => s.heap.size ≤ q) [(q_1, .inr (6, [.ref (u_2.1 0), .ref (u_2.1 1), .ref (u_2.1 2), .ref (u_2.1 8), .ref (u_2.1 9)])), ((u_2.1 0), .inl ((u_2.2 0), 1024, .inl (fun _ => 0))), ((u_2.1 1), .inr (5, [.int 0, .int 0, .int 0, .int 0, .int 0, .int 0, .int 0])), ((u_2.1 2), .inr (2, [.ref (u_2.1 3), .ref (u_2.1 4), .ref (u_2.1 5), .ref (u_2.1 6), .int 0, .int 0, .int 0, .int 0, .ref (u_2.1 7), .int 0, .int 64])), ((u_2.1 3), .inl ((u_2.2 1), 16, .inl (fun _ => 0))), ((u_2.1 4), .inl ((u_2.2 2), 16, .inl (fun _ => 0))), ((u_2.1 5), .inl ((u_2.2 3), 16, .inl (fun _ => 0))), ((u_2.1 6), .inl ((u_2.2 4), 8, .inl (fun _ => 0))), ((u_2.1 7), .inl ((u_2.2 5), 16, .inl (fun _ => 0))), ((u_2.1 8), .inr (1, [.int 0, .int 0, .int 7, .int 0, .int 0, .int 0, .int 0])), ((u_2.1 9), .inr (4, [.ref (u_2.1 0), .ref (u_2.1 1), .ref (u_2.1 2), .ref (u_2.1 8), .ref (u_2.1 12), .ref (u_2.1 10), .ref (u_2.1 11), .int 0, .int 0, .int 0, .int 0])), ((u_2.1 10), .inl ((u_2.2 6), 8, .inl (fun _ => 0))), ((u_2.1 11), .inr (0, [.int 0])), ((u_2.1 12), .inr (3, [.ref (u_2.1 1), .ref (u_2.1 2)])), (q_3, .inr (7, [.null, .null, .int 0, .int 0, .int 0, .int 0, .int 0, .int 0, .int 0, .int 0, .null, .int 0, .int 0, .int 0, .int 0, .int 0, .int 0, .int 0, .int 0, .int 0, .null, .null, .null, .int 0, .null, .int 0, .int 0, .int 0, .null, .int 0]))] := hD
  refine W.widen (k := 15) (n := 1178) (by decide) (by decide) ?_
  refine lv_dup hx hb dL_law_11 rfl ?_
  refine zc_v (wr := [(q_1, .inr (6, [.ref (u_2.1 0), .ref (u_2.1 1), .ref (u_2.1 2), .ref (u_2.1 8), .ref (u_2.1 9)])), ((u_2.1 0), .inl ((u_2.2 0), 1024, .inl (fun _ => 0))), ((u_2.1 1), .inr (5, [.int 0, .int 0, .int 0, .int 0, .int 0, .int 0, .int 0])), ((u_2.1 2), .inr (2, [.ref (u_2.1 3), .ref (u_2.1 4), .ref (u_2.1 5), .ref (u_2.1 6), .int 0, .int 0, .int 0, .int 0, .ref (u_2.1 7), .int 0, .int 64])), ((u_2.1 3), .inl ((u_2.2 1), 16, .inl (fun _ => 0))), ((u_2.1 4), .inl ((u_2.2 2), 16, .inl (fun _ => 0))), ((u_2.1 5), .inl ((u_2.2 3), 16, .inl (fun _ => 0))), ((u_2.1 6), .inl ((u_2.2 4), 8, .inl (fun _ => 0))), ((u_2.1 7), .inl ((u_2.2 5), 16, .inl (fun _ => 0))), ((u_2.1 8), .inr (1, [.int 0, .int 0, .int 7, .int 0, .int 0, .int 0, .int 0])), ((u_2.1 9), .inr (4, [.ref (u_2.1 0), .ref (u_2.1 1), .ref (u_2.1 2), .ref (u_2.1 8), .ref (u_2.1 12), .ref (u_2.1 10), .ref (u_2.1 11), .int 0, .int 0, .int 0, .int 0])), ((u_2.1 10), .inl ((u_2.2 6), 8, .inl (fun _ => 0))), ((u_2.1 11), .inr (0, [.int 0])), ((u_2.1 12), .inr (3, [.ref (u_2.1 1), .ref (u_2.1 2)]))]) hP hD hS hA [14] [0, 1, 2, 3, 4, 5, 6, 7, 8, 9, 10, 11, 12, 13] rfl rfl (by decide) (by decide) (va_runI (As := []) (rest := [.ref q_3]) ⟨hx, hb, hml, hown, hts⟩ (r_init l dC dI q_3 _) (cwI 0 hts (zg_0 zw_718) rfl rfl rfl (hts (.initialized RX7) zw_90) (hts (.methodLink RL 37 yX7_init) zw_716) (hts (.instanceMethod yX7_init) zw_717) rfl (by decide +kernel) ⟨Nat.le_of_ble_eq_true rfl, Nat.le_of_ble_eq_true rfl⟩) ⟨zc_blind, zc_start hP hD hK hN [14] [] rfl (by decide) rfl⟩ rfl rfl hl.1 rfl (lv_room (Nat.le_of_ble_eq_true rfl)) dL_law_12 ⟨Nat.le_of_ble_eq_true rfl, Nat.le_of_ble_eq_true rfl⟩) (fun u_4 H locs hw hK1 hP hD hS => ?_)
  have hK := hK.app hK1
  have hP : va_P (dC, dI) vwCl [(q_1, .inr (6, [.ref (u_2.1 0), .ref (u_2.1 1), .ref (u_2.1 2), .ref (u_2.1 8), .ref (u_2.1 9)])), ((u_2.1 0), .inl ((u_2.2 0), 1024, .inl (fun _ => 0))), ((u_2.1 1), .inr (5, [.int 0, .int 0, .int 0, .int 0, .int 0, .int 0, .int 0])), ((u_2.1 2), .inr (2, [.ref (u_2.1 3), .ref (u_2.1 4), .ref (u_2.1 5), .ref (u_2.1 6), .int 0, .int 0, .int 0, .int 0, .ref (u_2.1 7), .int 0, .int 64])), ((u_2.1 3), .inl ((u_2.2 1), 16, .inl (fun _ => 0))), ((u_2.1 4), .inl ((u_2.2 2), 16, .inl (fun _ => 0))), ((u_2.1 5), .inl ((u_2.2 3), 16, .inl (fun _ => 0))), ((u_2.1 6), .inl ((u_2.2 4), 8, .inl (fun _ => 0))), ((u_2.1 7), .inl ((u_2.2 5), 16, .inl (fun _ => 0))), ((u_2.1 8), .inr (1, [.int 0, .int 0, .int 7, .int 0, .int 0, .int 0, .int 0])), ((u_2.1 9), .inr (4, [.ref (u_2.1 0), .ref (u_2.1 1), .ref (u_2.1 2), .ref (u_2.1 8), .ref (u_2.1 12), .ref (u_2.1 10), .ref (u_2.1 11), .int 0, .int 0, .int 0, .int 0])), ((u_2.1 10), .inl ((u_2.2 6), 8, .inl (fun _ => 0))), ((u_2.1 11), .inr (0, [.int 0])), ((u_2.1 12), .inr (3, [.ref (u_2.1 1), .ref (u_2.1 2)])), (q_3, .inr (7, [.ref (u_4.1 0), .ref (u_4.1 1), .int 0, .int 0, .int 0, .int 0, .int 0, .int 0, .int 7, .int 0, .ref (u_4.1 2), .int 0, .int 0, .int 0, .int 0, .int 0, .int 0, .int 0, .int 0, .int 0, .ref (u_4.1 3), .ref (u_4.1 4), .ref (u_4.1 5), .int 0, .ref (u_4.1 6), .int 0, .int 0, .int 0, .ref (u_4.1 7), .int 0])), ((u_4.1 0), .inl ((u_4.2 0), 1024, .inl (fun _ => 0))), ((u_4.1 1), .inl ((u_4.2 1), 8, .inl (fun _ => 0))), ((u_4.1 2), .inl ((u_4.2 2), 2, .inl (fun _ => 0))), ((u_4.1 3), .inl ((u_4.2 3), 16, .inl (fun _ => 0))), ((u_4.1 4), .inl ((u_4.2 4), 16, .inl (fun _ => 0))), ((u_4.1 5), .inl ((u_4.2 5), 16, .inl (fun _ => 0))), ((u_4.1 6), .inl ((u_4.2 6), 8, .inl (fun _ => 0))), ((u_4.1 7), .inl ((u_4.2 7), 16, .inl (fun _ => 0)))] H := hP
  have hD : va_D (fun q : Nat => s.heap.size ≤ q) [(q_1, .inr (6, [.ref (u_2.1 0), .ref (u_2.1 1), .ref (u_2.1 2), .ref (u_2.1 8), .ref (u_2.1 9)])), ((u_2.1 0), .inl ((u_2.2 0), 1024, .inl (fun _ => 0))), ((u_2.1 1), .inr (5, [.int 0, .int 0, .int 0, .int 0, .int 0, .int 0, .int 0])), ((u_2.1 2), .inr (2, [.ref (u_2.1 3), .ref (u_2.1 4), .ref (u_2.1 5), .ref (u_2.1 6), .int 0, .int 0, .int 0, .int 0, .ref (u_2.1 7), .int 0, .int 64])), ((u_2.1 3), .inl ((u_2.2 1), 16, .inl (fun _ => 0))), ((u_2.1 4), .inl ((u_2.2 2), 16, .inl (fun _ => 0))), ((u_2.1 5), .inl ((u_2.2 3), 16, .inl (fun _ => 0))), ((u_2.1 6), .inl ((u_2.2 4), 8, .inl (fun _ => 0))), ((u_2.1 7), .inl ((u_2.2 5), 16, .inl (fun _ => 0))), ((u_2.1 8), .inr (1, [.int 0, .int 0, .int 7, .int 0, .int 0, .int 0, .int 0])), ((u_2.1 9), .inr (4, [.ref (u_2.1 0), .ref (u_2.1 1), .ref (u_2.1 2), .ref (u_2.1 8), .ref (u_2.1 12), .ref (u_2.1 10), .ref (u_2.1 11), .int 0, .int 0, .int 0, .int 0])), ((u_2.1 10), .inl ((u_2.2 6), 8, .inl (fun _ => 0))), ((u_2.1 11), .inr (0, [.int 0])), ((u_2.1 12), .inr (3, [.ref (u_2.1 1), .ref (u_2.1 2)])), (q_3, .inr (7, [.ref (u_4.1 0), .ref (u_4.1 1), .int 0, .int 0, .int 0, .int 0, .int 0, .int 0, .int 7, .int 0, .ref (u_4.1 2), .int 0, .int 0, .int 0, .int 0, .int 0, .int 0, .int 0, .int 0, .int 0, .ref (u_4.1 3), .ref (u_4.1 4), .ref (u_4.1 5), .int 0, .ref (u_4.1 6), .int 0, .int 0, .int 0, .ref (u_4.1 7), .int 0])), ((u_4.1 0), .inl ((u_4.2 0), 1024, .inl (fun _ => 0))), ((u_4.1 1), .inl ((u_4.2 1), 8, .inl (fun _ => 0))), ((u_4.1 2), .inl ((u_4.2 2), 2, .inl (fun _ => 0))), ((u_4.1 3), .inl ((u_4.2 3), 16, .inl (fun _ => 0))), ((u_4.1 4), .inl ((u_4.2 4), 16, .inl (fun _ => 0))), ((u_4.1 5), .inl ((u_4.2 5), 16, .inl (fun _ => 0))), ((u_4.1 6), .inl ((u_4.2 6), 8, .inl (fun _ => 0))), ((u_4.1 7), .inl ((u_4.2 7), 16, .inl (fun _ => 0)))] := hD
  have hK : va_K (dC, dI) vwCl [((u_2.2 0), .int), ((u_2.2 1), .boolean), ((u_2.2 2), .boolean), ((u_2.2 3), .boolean), ((u_2.2 4), .int), ((u_2.2 5), .int), ((u_2.2 6), .int), ((u_4.2 0), .int), ((u_4.2 1), .int), ((u_4.2 2), .boolean), ((u_4.2 3), .boolean), ((u_4.2 4), .boolean), ((u_4.2 5), .boolean), ((u_4.2 6), .int), ((u_4.2 7), .int)] s := hK
  refine W.widen (k := 23) (n := 2284) (by decide) (by decide) ?_
  refine lv_astore_n (lv' := [(2, .ref q_3), (1, .ref q_1), (0, .ref b)]) hx hb dL_law_15 rfl hl (by decide) rfl (fun ls hl => ?_)
  refine lv_iconst (v := 1) hx hb dL_law_16 (by decide) ?_
  refine va_newa (atype := .long) (n := 1) (ty := .long) (a0 := (1, .inr (.inl (fun _ => 0)))) (N' := 1) hx hb (hts (.arrayClass .long) zw_1017) rfl hK hP hD hS hA (fun cA => rfl) (by decide) (by decide) (by decide) (Nat.le_of_ble_eq_true rfl) (Nat.le_of_ble_eq_true rfl) dL_law_17 (fun q_5 a_5 H hK hP hD hS => ?_)
  have hP : va_P (dC, dI) vwCl [(q_1, .inr (6, [.ref (u_2.1 0), .ref (u_2.1 1), .ref (u_2.1 2), .ref (u_2.1 8), .ref (u_2.1 9)])), ((u_2.1 0), .inl ((u_2.2 0), 1024, .inl (fun _ => 0))), ((u_2.1 1), .inr (5, [.int 0, .int 0, .int 0, .int 0, .int 0, .int 0, .int 0])), ((u_2.1 2), .inr (2, [.ref (u_2.1 3), .ref (u_2.1 4), .ref (u_2.1 5), .ref (u_2.1 6), .int 0, .int 0, .int 0, .int 0, .ref (u_2.1 7), .int 0, .int 64])), ((u_2.1 3), .inl ((u_2.2 1), 16, .inl (fun _ => 0))), ((u_2.1 4), .inl ((u_2.2 2), 16, .inl (fun _ => 0))), ((u_2.1 5), .inl ((u_2.2 3), 16, .inl (fun _ => 0))), ((u_2.1 6), .inl ((u_2.2 4), 8, .inl (fun _ => 0))), ((u_2.1 7), .inl ((u_2.2 5), 16, .inl (fun _ => 0))), ((u_2.1 8), .inr (1, [.int 0, .int 0, .int 7, .int 0, .int 0, .int 0, .int 0])), ((u_2.1 9), .inr (4, [.ref (u_2.1 0), .ref (u_2.1 1), .ref (u_2.1 2), .ref (u_2.1 8), .ref (u_2.1 12), .ref (u_2.1 10), .ref (u_2.1 11), .int 0, .int 0, .int 0, .int 0])), ((u_2.1 10), .inl ((u_2.2 6), 8, .inl (fun _ => 0))), ((u_2.1 11), .inr (0, [.int 0])), ((u_2.1 12), .inr (3, [.ref (u_2.1 1), .ref (u_2.1 2)])), (q_3, .inr (7, [.ref (u_4.1 0), .ref (u_4.1 1), .int 0, .int 0, .int 0, .int 0, .int 0, .int 0, .int 7, .int 0, .ref (u_4.1 2), .int 0, .int 0, .int 0, .int 0, .int 0, .int 0, .int 0, .int 0, .int 0, .ref (u_4.1 3), .ref (u_4.1 4), .ref (u_4.1 5), .int 0, .ref (u_4.1 6), .int 0, .int 0, .int 0, .ref (u_4.1 7), .int 0])), ((u_4.1 0), .inl ((u_4.2 0), 1024, .inl (fun _ => 0))), ((u_4.1 1), .inl ((u_4.2 1), 8, .inl (fun _ => 0))), ((u_4.1 2), .inl ((u_4.2 2), 2, .inl (fun _ => 0))), ((u_4.1 3), .inl ((u_4.2 3), 16, .inl (fun _ => 0))), ((u_4.1 4), .inl ((u_4.2 4), 16, .inl (fun _ => 0))), ((u_4.1 5), .inl ((u_4.2 5), 16, .inl (fun _ => 0))), ((u_4.1 6), .inl ((u_4.2 6), 8, .inl (fun _ => 0))), ((u_4.1 7), .inl ((u_4.2 7), 16, .inl (fun _ => 0))), (q_5, .inl (a_5, 1, .inr (.inl (fun _ => 0))))] H := hP
  have hD : va_D (fun q : Nat => s.heap.size ≤ q) [(q_1, .inr (6, [.ref (u_2.1 0), .ref (u_2.1 1), .ref (u_2.1 2), .ref (u_2.1 8), .ref (u_2.1 9)])), ((u_2.1 0), .inl ((u_2.2 0), 1024, .inl (fun _ => 0))), ((u_2.1 1), .inr (5, [.int 0, .int 0, .int 0, .int 0, .int 0, .int 0, .int 0])), ((u_2.1 2), .inr (2, [.ref (u_2.1 3), .ref (u_2.1 4), .ref (u_2.1 5), .ref (u_2.1 6), .int 0, .int 0, .int 0, .int 0, .ref (u_2.1 7), .int 0, .int 64])), ((u_2.1 3), .inl ((u_2.2 1), 16, .inl (fun _ => 0))), ((u_2.1 4), .inl ((u_2.2 2), 16, .inl (fun _ => 0))), ((u_2.1 5), .inl ((u_2.2 3), 16, .inl (fun _ => 0))), ((u_2.1 6), .inl ((u_2.2 4), 8, .inl (fun _ => 0))), ((u_2.1 7), .inl ((u_2.2 5), 16, .inl (fun _ => 0))), ((u_2.1 8), .inr (1, [.int 0, .int 0, .int 7, .int 0, .int 0, .int 0, .int 0])), ((u_2.1 9), .inr (4, [.ref (u_2.1 0), .ref (u_2.1 1), .ref (u_2.1 2), .ref (u_2.1 8), .ref (u_2.1 12), .ref (u_2.1 10), .ref (u_2.1 11), .int 0, .int 0, .int 0, .int 0])), ((u_2.1 10), .inl ((u_2.2 6), 8, .inl (fun _ => 0))), ((u_2.1 11), .inr (0, [.int 0])), ((u_2.1 12), .inr (3, [.ref (u_2.1 1), .ref (u_2.1 2)])), (q_3, .inr (7, [.ref (u_4.1 0), .ref (u_4.1 1), .int 0, .int 0, .int 0, .int 0, .int 0, .int 0, .int 7, .int 0, .ref (u_4.1 2), .int 0, .int 0, .int 0, .int 0, .int 0, .int 0, .int 0, .int 0, .int 0, .ref (u_4.1 3), .ref (u_4.1 4), .ref (u_4.1 5), .int 0, .ref (u_4.1 6), .int 0, .int 0, .int 0, .ref (u_4.1 7), .int 0])), ((u_4.1 0), .inl ((u_4.2 0), 1024, .inl (fun _ => 0))), ((u_4.1 1), .inl ((u_4.2 1), 8, .inl (fun _ => 0))), ((u_4.1 2), .inl ((u_4.2 2), 2, .inl (fun _ => 0))), ((u_4.1 3), .inl ((u_4.2 3), 16, .inl (fun _ => 0))), ((u_4.1 4), .inl ((u_4.2 4), 16, .inl (fun _ => 0))), ((u_4.1 5), .inl ((u_4.2 5), 16, .inl (fun _ => 0))), ((u_4.1 6), .inl ((u_4.2 6), 8, .inl (fun _ => 0))), ((u_4.1 7), .inl ((u_4.2 7), 16, .inl (fun _ => 0))), (q_5, .inl (a_5, 1, .inr (.inl (fun _ => 0))))] := hD
  have hK : va_K (dC, dI) vwCl [((u_2.2 0), .int), ((u_2.2 1), .boolean), ((u_2.2 2), .boolean), ((u_2.2 3), .boolean), ((u_2.2 4), .int), ((u_2.2 5), .int), ((u_2.2 6), .int), ((u_4.2 0), .int), ((u_4.2 1), .int), ((u_4.2 2), .boolean), ((u_4.2 3), .boolean), ((u_4.2 4), .boolean), ((u_4.2 5), .boolean), ((u_4.2 6), .int), ((u_4.2 7), .int), (a_5, .long)] s := hK
  refine W.widen (k := 24) (n := 2285) (by decide) (by decide) ?_
  refine lv_astore_n (lv' := [(3, .ref q_5), (2, .ref q_3), (1, .ref q_1), (0, .ref b)]) hx hb dL_law_19 rfl hl (by decide) rfl (fun ls hl => ?_)
  refine lv_iconst (v := 0) hx hb dL_law_20 (by decide) ?_
  refine lv_istore (lv' := [(4, .int 0), (3, .ref q_5), (2, .ref q_3), (1, .ref q_1), (0, .ref b)]) hx hb dL_law_21 hl (by decide) rfl (fun ls hl => ?_)
  rcases (show L = 0 ∨ L = 1 ∨ L = 2 ∨ L = 3 by omega) with rfl | rfl | rfl | rfl
  · refine lv_iload hx hb dL_law_23 (lv_at hl 0 rfl) ?_
    refine lv_aload_n hx hb dL_law_25 rfl (lv_at hl 4 rfl) ?_
    refine va_slen hx hb hX hbl hbA hS dL_law_26 ?_
    refine lv_topi (fun v_6 ev_6 => ?_)
    obtain rfl : v_6 = 0 := ev_6.trans (by decide)
    refine lv_iconst (v := 3) hx hb dL_law_27 (by decide) ?_
    refine lv_isub hx hb dL_law_28 ?_
    refine lv_topi (fun v_7 ev_7 => ?_)
    obtain rfl : v_7 = (-3) := ev_7.trans (by decide)
    refine lv_icmp_gt (tgt := 567) hx hb dL_law_29 (by decide) (fun c_8 => ?_) (fun c_8 => absurd c_8 (by decide))
    refine lv_iconst (v := 1) hx hb dL_law_567 (by decide) ?_
    refine va_forget (fun q hq => hS.2.2 q hq) ?_
    refine W.widen (k := 32) (n := 2337) (by decide) (by decide) ?_
    exact lw_ret hx hb hr hlocks dL_law_568
  · refine lv_iload hx hb dL_law_23 (lv_at hl 0 rfl) ?_
    refine lv_aload_n hx hb dL_law_25 rfl (lv_at hl 4 rfl) ?_
    refine va_slen hx hb hX hbl hbA hS dL_law_26 ?_
    refine lv_topi (fun v_9 ev_9 => ?_)
    obtain rfl : v_9 = 1 := ev_9.trans (by decide)
    refine lv_iconst (v := 3) hx hb dL_law_27 (by decide) ?_
    refine lv_isub hx hb dL_law_28 ?_
    refine lv_topi (fun v_10 ev_10 => ?_)
    obtain rfl : v_10 = (-2) := ev_10.trans (by decide)
    refine lv_icmp_gt (tgt := 567) hx hb dL_law_29 (by decide) (fun c_11 => ?_) (fun c_11 => absurd c_11 (by decide))
    refine lv_iconst (v := 1) hx hb dL_law_567 (by decide) ?_
    refine va_forget (fun q hq => hS.2.2 q hq) ?_
    refine W.widen (k := 32) (n := 2337) (by decide) (by decide) ?_
    exact lw_ret hx hb hr hlocks dL_law_568
  · refine lv_iload hx hb dL_law_23 (lv_at hl 0 rfl) ?_
    refine lv_aload_n hx hb dL_law_25 rfl (lv_at hl 4 rfl) ?_
    refine va_slen hx hb hX hbl hbA hS dL_law_26 ?_
    refine lv_topi (fun v_12 ev_12 => ?_)
    obtain rfl : v_12 = 2 := ev_12.trans (by decide)
    refine lv_iconst (v := 3) hx hb dL_law_27 (by decide) ?_
    refine lv_isub hx hb dL_law_28 ?_
    refine lv_topi (fun v_13 ev_13 => ?_)
    obtain rfl : v_13 = (-1) := ev_13.trans (by decide)
    refine lv_icmp_gt (tgt := 567) hx hb dL_law_29 (by decide) (fun c_14 => ?_) (fun c_14 => absurd c_14 (by decide))
    refine lv_iconst (v := 1) hx hb dL_law_567 (by decide) ?_
    refine va_forget (fun q hq => hS.2.2 q hq) ?_
    refine W.widen (k := 32) (n := 2337) (by decide) (by decide) ?_
    exact lw_ret hx hb hr hlocks dL_law_568
  · refine lv_iload hx hb dL_law_23 (lv_at hl 0 rfl) ?_
    refine lv_aload_n hx hb dL_law_25 rfl (lv_at hl 4 rfl) ?_
    refine va_slen hx hb hX hbl hbA hS dL_law_26 ?_
    refine lv_topi (fun v_15 ev_15 => ?_)
    obtain rfl : v_15 = 3 := ev_15.trans (by decide)
    refine lv_iconst (v := 3) hx hb dL_law_27 (by decide) ?_
    refine lv_isub hx hb dL_law_28 ?_
    refine lv_topi (fun v_16 ev_16 => ?_)
    obtain rfl : v_16 = 0 := ev_16.trans (by decide)
    refine lv_icmp_gt (tgt := 567) hx hb dL_law_29 (by decide) (fun c_17 => absurd c_17 (by decide)) (fun c_17 => ?_)
    refine lv_aload_n hx hb dL_law_32 rfl (lv_at hl 4 rfl) ?_
    refine lv_iload hx hb dL_law_33 (lv_at hl 0 rfl) ?_
    refine va_sld hx hb hX hbl hbA hS (show ¬ ((0 : Int32) < 0 ∨ 3 ≤ (0 : Int32).toNatClampNeg) by decide) dL_law_35 ?_
    refine lv_topi (fun v_18 ev_18 => ?_)
    obtain rfl : v_18 = xs 0 := ev_18.trans (congrArg xs (by decide))
    refine lv_bipush (v := 15) hx hb dL_law_36 (by decide) ?_
    refine lv_iand hx hb dL_law_38 ?_
    refine lv_topi (fun v_19 ev_19 => ?_)
    obtain ⟨j, hj, ej⟩ := pk_andE (xs 0) (m := 15) 4 (by decide)
    rcases (show j = 0 ∨ j = 1 ∨ j = 2 ∨ j = 3 ∨ j = 4 ∨ j = 5 ∨ j = 6 ∨ j = 7 ∨ j = 8 ∨ 9 ≤ j by omega) with rfl | rfl | rfl | rfl | rfl | rfl | rfl | rfl | rfl | h9
    · obtain rfl : v_19 = 0 := ev_19.trans (ej.trans (by decide))
      refine lv_tableIn (off := 49) (tgt := 88) hx hb dL_law_39 (by decide) (by decide) rfl (by decide) ?_
      exact law_0 hf C0 hN hZ hK hP hD hS (lv_sub hl [0, 1, 2, 3, 4] rfl)
    · obtain rfl : v_19 = 1 := ev_19.trans (ej.trans (by decide))
      refine lv_tableIn (off := 86) (tgt := 125) hx hb dL_law_39 (by decide) (by decide) rfl (by decide) ?_
      exact law_1 hf C0 hN hZ hK hP hD hS (lv_sub hl [0, 1, 2, 3, 4] rfl)
    · obtain rfl : v_19 = 2 := ev_19.trans (ej.trans (by decide))
      refine lv_tableIn (off := 111) (tgt := 150) hx hb dL_law_39 (by decide) (by decide) rfl (by decide) ?_
      exact law_2 hf C0 hN hZ hK hP hD hS (lv_sub hl [0, 1, 2, 3, 4] rfl)
    · obtain rfl : v_19 = 3 := ev_19.trans (ej.trans (by decide))
      refine lv_tableIn (off := 124) (tgt := 163) hx hb dL_law_39 (by decide) (by decide) rfl (by decide) ?_
      exact law_3 hf C0 hN hZ hK hP hD hS (lv_sub hl [0, 1, 2, 3, 4] rfl)
    · obtain rfl : v_19 = 4 := ev_19.trans (ej.trans (by decide))
      refine lv_tableIn (off := 180) (tgt := 219) hx hb dL_law_39 (by decide) (by decide) rfl (by decide) ?_
      exact law_4 hf C0 hN hZ hK hP hD hS (lv_sub hl [0, 1, 2, 3, 4] rfl)
    · obtain rfl : v_19 = 5 := ev_19.trans (ej.trans (by decide))
      refine lv_tableIn (off := 271) (tgt := 310) hx hb dL_law_39 (by decide) (by decide) rfl (by decide) ?_
      exact law_5 hf C0 hN hZ hK hP hD hS (lv_sub hl [0, 1, 2, 3, 4] rfl)
    · obtain rfl : v_19 = 6 := ev_19.trans (ej.trans (by decide))
      refine lv_tableIn (off := 362) (tgt := 401) hx hb dL_law_39 (by decide) (by decide) rfl (by decide) ?_
      exact law_6 hf C0 hN hZ hK hP hD hS (lv_sub hl [0, 1, 2, 3, 4] rfl)
    · obtain rfl : v_19 = 7 := ev_19.trans (ej.trans (by decide))
      refine lv_tableIn (off := 418) (tgt := 457) hx hb dL_law_39 (by decide) (by decide) rfl (by decide) ?_
      exact law_7 hf C0 hN hZ hK hP hD hS (lv_sub hl [0, 1, 2, 3, 4] rfl)
    · obtain rfl : v_19 = 8 := ev_19.trans (ej.trans (by decide))
      refine lv_tableIn (off := 474) (tgt := 513) hx hb dL_law_39 (by decide) (by decide) rfl (by decide) ?_
      exact law_8 hf C0 hN hZ hK hP hD hS (lv_sub hl [0, 1, 2, 3, 4] rfl)
    · refine lv_tableOut (tgt := 561) hx hb dL_law_39 (Or.inr (by rw [ev_19, ej, nI_toInt (by omega)]; omega)) (by decide) ?_
      exact law_end C0 (by decide) (by decide) hS (lv_sub hl [0, 4] rfl)
