def nk_F : List (String × Nat × String × String × String × String) := [("KeyboardKit$Ports", 35, "KeyboardKit$Timer", "lowByte", "I", "KeyboardKit"), ("KeyboardKit$Ports", 39, "KeyboardKit$Timer", "highByte", "I", "KeyboardKit"), ("KeyboardKit", 103, "KeyboardKit$Timer", "left", "I", "KeyboardKit"), ("KeyboardKit", 59, "KeyboardKit$KeyUnit", "down", "[Z", "KeyboardKit"), ("KeyboardKit$Processor", 50, "KeyboardKit$KeyUnit", "queued", "I", "KeyboardKit"), ("KeyboardKit", 113, "KeyboardKit$KeyUnit", "display", "[I", "KeyboardKit"), ("KeyboardKit", 91, "KeyboardKit$Interrupts", "on", "Z", "KeyboardKit"), ("KeyboardKit$Processor", 235, "KeyboardKit$Interrupts", "on", "Z", "KeyboardKit"), ("KeyboardKit$Processor", 69, "KeyboardKit$Interrupts", "heldBack", "Z", "KeyboardKit"), ("KeyboardKit", 97, "KeyboardKit$Interrupts", "masks", "I", "KeyboardKit"), ("KeyboardKit$Processor", 88, "KeyboardKit$Interrupts", "timerEnded", "Z", "KeyboardKit"), ("KeyboardKit", 65, "KeyboardKit$Interrupts", "line65", "Z", "KeyboardKit"), ("KeyboardKit", 69, "KeyboardKit$Interrupts", "serialIn", "Z", "KeyboardKit"), ("KeyboardKit", 100, "KeyboardKit$Interrupts", "serialOut", "Z", "KeyboardKit"), ("KeyboardKit", 79, "KeyboardKit$Flags", "all", "I", "KeyboardKit"), ("KeyboardKit$Processor", 224, "KeyboardKit$Flags", "all", "I", "KeyboardKit"), ("KeyboardKit", 72, "KeyboardKit$Processor", "registers", "[I", "KeyboardKit"), ("KeyboardKit", 75, "KeyboardKit$Processor", "flags", "LKeyboardKit$Flags;", "KeyboardKit"), ("KeyboardKit", 85, "KeyboardKit$Processor", "sp", "I", "KeyboardKit"), ("KeyboardKit", 88, "KeyboardKit$Processor", "pc", "I", "KeyboardKit"), ("KeyboardKit", 94, "KeyboardKit$Processor", "halts", "Z", "KeyboardKit")]
def nk_M : List (String × Nat × MethodName × String) := [("KeyboardKit", 15, ⟨"KeyboardKit$Timer", "<init>", "()V"⟩, "KeyboardKit"), ("KeyboardKit", 22, ⟨"KeyboardKit$KeyUnit", "<init>", "()V"⟩, "KeyboardKit"), ("KeyboardKit", 29, ⟨"KeyboardKit$Interrupts", "<init>", "()V"⟩, "KeyboardKit"), ("KeyboardKit$Processor", 17, ⟨"KeyboardKit$Flags", "<init>", "()V"⟩, "KeyboardKit")]
/-! contracts over worlds (the nest's words carried along), and a call in one row -/
def nk (U : State) : Prop := (∀ q ∈ nk_F, va_Nw (.fieldLinkNest q.1 q.2.1 q.2.2.1 q.2.2.2.1 q.2.2.2.2.1 q.2.2.2.2.2) U) ∧ ∀ q ∈ nk_M, va_Nw (.methodLinkNest q.1 q.2.1 q.2.2.1 q.2.2.2) U
theorem nk.same {u U : State} (h : u.vm = U.vm) (hn : nk u) : nk U := ⟨fun q hq => va_Nw.same rfl h (hn.1 q hq), fun q hq => va_Nw.same rfl h (hn.2 q hq)⟩
theorem nk.warm {s U : State} (hW : s.WarmedH U.vm) (hn : nk s) : nk U := ⟨fun q hq => va_Nw.warmF hW (hn.1 q hq), fun q hq => va_Nw.warmM hW (hn.2 q hq)⟩
def zc_P (D : va_G) (W0 : va_W) (T : List (ClassId × FieldType)) (sz : Nat) (U : State) : Prop := U.heap.size = sz ∧ va_P D vwCl W0 U.heap ∧ va_K D vwCl T U ∧ va_D (fun _ => True) W0 ∧ nk U
def zc_B (D : va_G) (A : Nat → Prop) (W0 : va_W) (T : List (ClassId × FieldType)) (t : State) : Prop := va_P D vwCl W0 t.heap ∧ va_K D vwCl T t ∧ va_D A W0
theorem zc_blind {D : va_G} {W0 : va_W} {T : List (ClassId × FieldType)} {sz : Nat} {av : List Value} : FrameBlind (va_Pc av (zc_P D W0 T sz)) :=
  fun a U g mk q => ⟨q.1, q.2.1, q.2.2.1, va_K.moved (u := U) (U := U.calling g mk a) (Vm.Alike.refl U.vm) q.2.2.2.1, q.2.2.2.2.1, nk.same rfl q.2.2.2.2.2⟩
theorem zc_fm {ws wc : va_W} {is : List Nat} (h : is.map (fun i => ws[i]?) = wc.map some) : is.filterMap (fun i => ws[i]?) = wc := by
  have h1 : (is.map (fun i => ws[i]?)).filterMap id = (wc.map some).filterMap id := by rw [h]
  rw [List.filterMap_map, List.filterMap_map] at h1
  simpa using h1
theorem zc_start {s : State} {H : Heap} {D : va_G} {A : Nat → Prop} {ws wc : va_W} {tys tc : List (ClassId × FieldType)} {av : List Value} (hP : va_P D vwCl ws H) (hD : va_D A ws) (hK : va_K D vwCl tys s) (hN : nk s) (isC tC : List Nat) (hC : isC.map (fun i => ws[i]?) = wc.map some) (hnC : va_nd isC = true) (hT : tC.filterMap (fun i => tys[i]?) = tc) :
    ∀ U : State, U.heap = H → s.WarmedH U.vm → va_Pc av (zc_P D wc tc H.size) av.toArray U :=
  fun U hU hW => ⟨rfl, by rw [hU], by rw [hU]; exact hP.sub isC (zc_fm hC), va_K.moved hW.alike (hK.sub tC hT), (hD.sub isC hnC hC).weaken (fun _ _ _ _ => trivial), hN.warm hW⟩
section ZCC
variable {p : Program} {l : Launch} {e : Env} {R : Room} {s : State} {m : MethodId} {args : Array Value} {below : List Frame} {meth : Method} {c : Code} {H : Heap} {locs : List Loc} {cells slots mc ms pc : Nat} {Q : State → Prop} {ls : Array Slot} {rest st0 : List Value}
variable {D : va_G} {A : Nat → Prop} {ws wc wr : va_W} {a : Array Value}
theorem zc_i {S : Type} {post : Int32 → S → Prop} {w1 : S → va_W} {t1 : S → List (ClassId × FieldType)} (hP : va_P D vwCl ws H) (hD : va_D A ws) (hS : va_S A s.heap H locs) (hA : ∀ q, s.heap.size ≤ q → A q) (isC isR : List Nat) (hC : isC.map (fun i => ws[i]?) = wc.map some) (hR : isR.map (fun i => ws[i]?) = wr.map some) (hnR : va_nd isR = true) (hdis : ∀ i ∈ isR, i ∉ isC)
    (hr : va_Run p l e R s m args below meth c H locs cells slots mc ms (F0 m pc ls st0) rest (va_Qi post (fun u t => zc_B D (va_A wc H.size) (w1 u) (t1 u) t) (va_A wc H.size) a) (va_A wc H.size))
    (kk : ∀ (r : Int32) (u : S) (H1 : Heap) (locs1 : List Loc), post r u → va_K D vwCl (t1 u) s → va_P D vwCl (wr ++ w1 u) H1 → va_D A (wr ++ w1 u) → va_S A s.heap H1 locs1 → W p l e R s m args below meth c H1 locs1 (cells + mc) (slots + ms) Q (F0 m (pc + 3) ls (.int r :: rest))) :
    W p l e R s m args below meth c H locs cells slots Q (F0 m pc ls st0) := by
  have hFc := va_free (wc := wc) hD hS hA isC hC
  refine va_calli hr hS (fun q _ h => hFc q h) hFc (fun r u t H1 locs1 ht hvm hw hB hz1 hk1 hS1 => ?_)
  obtain ⟨hP1, hK1, hD1⟩ := hB
  rw [ht] at hP1
  obtain ⟨hP2, hD2⟩ := va_join (w1 := w1 u) hP hD isC isR hC hR hnR hdis hk1 hFc hP1 hD1
  exact kk r u H1 locs1 hw (va_K.moved hvm.symm hK1) hP2 hD2 hS1
theorem zc_v {S : Type} {post : S → Prop} {w1 : S → va_W} {t1 : S → List (ClassId × FieldType)} (hP : va_P D vwCl ws H) (hD : va_D A ws) (hS : va_S A s.heap H locs) (hA : ∀ q, s.heap.size ≤ q → A q) (isC isR : List Nat) (hC : isC.map (fun i => ws[i]?) = wc.map some) (hR : isR.map (fun i => ws[i]?) = wr.map some) (hnR : va_nd isR = true) (hdis : ∀ i ∈ isR, i ∉ isC)
    (hr : va_Run p l e R s m args below meth c H locs cells slots mc ms (F0 m pc ls st0) rest (va_Qv post (fun u t => zc_B D (va_A wc H.size) (w1 u) (t1 u) t) (va_A wc H.size) a) (va_A wc H.size))
    (kk : ∀ (u : S) (H1 : Heap) (locs1 : List Loc), post u → va_K D vwCl (t1 u) s → va_P D vwCl (wr ++ w1 u) H1 → va_D A (wr ++ w1 u) → va_S A s.heap H1 locs1 → W p l e R s m args below meth c H1 locs1 (cells + mc) (slots + ms) Q (F0 m (pc + 3) ls rest)) :
    W p l e R s m args below meth c H locs cells slots Q (F0 m pc ls st0) := by
  have hFc := va_free (wc := wc) hD hS hA isC hC
  refine va_callv hr hS (fun q _ h => hFc q h) hFc (fun u t H1 locs1 ht hvm hw hB hz1 hk1 hS1 => ?_)
  obtain ⟨hP1, hK1, hD1⟩ := hB
  rw [ht] at hP1
  obtain ⟨hP2, hD2⟩ := va_join (w1 := w1 u) hP hD isC isR hC hR hnR hdis hk1 hFc hP1 hD1
  exact kk u H1 locs1 hw (va_K.moved hvm.symm hK1) hP2 hD2 hS1
end ZCC
theorem zc_nz (b : Int32) (h : b = 0 ∨ b = 1) : narrow .boolean (.int b) = .int b := by rcases h with rfl | rfl <;> rfl
theorem zc_up (k : Nat) : upd (fun _ => (0 : Int32)) k 0 = fun _ => 0 := by funext j; simp [upd]
theorem zc_z0 : vp_nar .boolean 0 = 0 := by decide +kernel
theorem zc_z1 : vp_nar .boolean 1 = 1 := by decide +kernel
theorem zc_uz (k : Nat) : upd (fun _ => (0 : Int32)) k (vp_nar .boolean 0) = fun _ => 0 := by rw [zc_z0]; exact zc_up k
theorem zl_lt {x : Int32} {n : Nat} (h : vp_in x n) (hn : n < 2 ^ 31) : x < nI n := by
  obtain ⟨j, hj, rfl⟩ := vp_in_of h hn
  exact nI_lt hj hn
theorem zl_le {x : Int32} {n : Nat} (h : vp_in x (n + 1)) (hn : n + 1 < 2 ^ 31) : x ≤ nI n := by
  obtain ⟨j, hj, rfl⟩ := vp_in_of h hn
  exact nI_le (by omega) (by omega)
theorem zl_4 (j : Nat) : nI (4 * j) + 4 = nI (4 * (j + 1)) := by
  rw [show (4 : Int32) = nI 4 from rfl, nI_add, Nat.mul_add, Nat.mul_one]
theorem nf_0 {U : State} (h : nk U) : va_Nw (.fieldLinkNest RX3 35 "KeyboardKit$Timer" "lowByte" "I" "KeyboardKit") U := h.1 ("KeyboardKit$Ports", 35, "KeyboardKit$Timer", "lowByte", "I", "KeyboardKit") (List.mem_of_getElem? (i := 0) rfl)
theorem nf_1 {U : State} (h : nk U) : va_Nw (.fieldLinkNest RX3 39 "KeyboardKit$Timer" "highByte" "I" "KeyboardKit") U := h.1 ("KeyboardKit$Ports", 39, "KeyboardKit$Timer", "highByte", "I", "KeyboardKit") (List.mem_of_getElem? (i := 1) rfl)
theorem nf_2 {U : State} (h : nk U) : va_Nw (.fieldLinkNest RX6 103 "KeyboardKit$Timer" "left" "I" "KeyboardKit") U := h.1 ("KeyboardKit", 103, "KeyboardKit$Timer", "left", "I", "KeyboardKit") (List.mem_of_getElem? (i := 2) rfl)
theorem nf_3 {U : State} (h : nk U) : va_Nw (.fieldLinkNest RX6 59 "KeyboardKit$KeyUnit" "down" "[Z" "KeyboardKit") U := h.1 ("KeyboardKit", 59, "KeyboardKit$KeyUnit", "down", "[Z", "KeyboardKit") (List.mem_of_getElem? (i := 3) rfl)
theorem nf_4 {U : State} (h : nk U) : va_Nw (.fieldLinkNest RX4 50 "KeyboardKit$KeyUnit" "queued" "I" "KeyboardKit") U := h.1 ("KeyboardKit$Processor", 50, "KeyboardKit$KeyUnit", "queued", "I", "KeyboardKit") (List.mem_of_getElem? (i := 4) rfl)
theorem nf_5 {U : State} (h : nk U) : va_Nw (.fieldLinkNest RX6 113 "KeyboardKit$KeyUnit" "display" "[I" "KeyboardKit") U := h.1 ("KeyboardKit", 113, "KeyboardKit$KeyUnit", "display", "[I", "KeyboardKit") (List.mem_of_getElem? (i := 5) rfl)
theorem nf_6 {U : State} (h : nk U) : va_Nw (.fieldLinkNest RX6 91 "KeyboardKit$Interrupts" "on" "Z" "KeyboardKit") U := h.1 ("KeyboardKit", 91, "KeyboardKit$Interrupts", "on", "Z", "KeyboardKit") (List.mem_of_getElem? (i := 6) rfl)
theorem nf_7 {U : State} (h : nk U) : va_Nw (.fieldLinkNest RX4 235 "KeyboardKit$Interrupts" "on" "Z" "KeyboardKit") U := h.1 ("KeyboardKit$Processor", 235, "KeyboardKit$Interrupts", "on", "Z", "KeyboardKit") (List.mem_of_getElem? (i := 7) rfl)
theorem nf_8 {U : State} (h : nk U) : va_Nw (.fieldLinkNest RX4 69 "KeyboardKit$Interrupts" "heldBack" "Z" "KeyboardKit") U := h.1 ("KeyboardKit$Processor", 69, "KeyboardKit$Interrupts", "heldBack", "Z", "KeyboardKit") (List.mem_of_getElem? (i := 8) rfl)
theorem nf_9 {U : State} (h : nk U) : va_Nw (.fieldLinkNest RX6 97 "KeyboardKit$Interrupts" "masks" "I" "KeyboardKit") U := h.1 ("KeyboardKit", 97, "KeyboardKit$Interrupts", "masks", "I", "KeyboardKit") (List.mem_of_getElem? (i := 9) rfl)
theorem nf_10 {U : State} (h : nk U) : va_Nw (.fieldLinkNest RX4 88 "KeyboardKit$Interrupts" "timerEnded" "Z" "KeyboardKit") U := h.1 ("KeyboardKit$Processor", 88, "KeyboardKit$Interrupts", "timerEnded", "Z", "KeyboardKit") (List.mem_of_getElem? (i := 10) rfl)
theorem nf_11 {U : State} (h : nk U) : va_Nw (.fieldLinkNest RX6 65 "KeyboardKit$Interrupts" "line65" "Z" "KeyboardKit") U := h.1 ("KeyboardKit", 65, "KeyboardKit$Interrupts", "line65", "Z", "KeyboardKit") (List.mem_of_getElem? (i := 11) rfl)
theorem nf_12 {U : State} (h : nk U) : va_Nw (.fieldLinkNest RX6 69 "KeyboardKit$Interrupts" "serialIn" "Z" "KeyboardKit") U := h.1 ("KeyboardKit", 69, "KeyboardKit$Interrupts", "serialIn", "Z", "KeyboardKit") (List.mem_of_getElem? (i := 12) rfl)
theorem nf_13 {U : State} (h : nk U) : va_Nw (.fieldLinkNest RX6 100 "KeyboardKit$Interrupts" "serialOut" "Z" "KeyboardKit") U := h.1 ("KeyboardKit", 100, "KeyboardKit$Interrupts", "serialOut", "Z", "KeyboardKit") (List.mem_of_getElem? (i := 13) rfl)
theorem nf_14 {U : State} (h : nk U) : va_Nw (.fieldLinkNest RX6 79 "KeyboardKit$Flags" "all" "I" "KeyboardKit") U := h.1 ("KeyboardKit", 79, "KeyboardKit$Flags", "all", "I", "KeyboardKit") (List.mem_of_getElem? (i := 14) rfl)
theorem nf_15 {U : State} (h : nk U) : va_Nw (.fieldLinkNest RX4 224 "KeyboardKit$Flags" "all" "I" "KeyboardKit") U := h.1 ("KeyboardKit$Processor", 224, "KeyboardKit$Flags", "all", "I", "KeyboardKit") (List.mem_of_getElem? (i := 15) rfl)
theorem nf_16 {U : State} (h : nk U) : va_Nw (.fieldLinkNest RX6 72 "KeyboardKit$Processor" "registers" "[I" "KeyboardKit") U := h.1 ("KeyboardKit", 72, "KeyboardKit$Processor", "registers", "[I", "KeyboardKit") (List.mem_of_getElem? (i := 16) rfl)
theorem nf_17 {U : State} (h : nk U) : va_Nw (.fieldLinkNest RX6 75 "KeyboardKit$Processor" "flags" "LKeyboardKit$Flags;" "KeyboardKit") U := h.1 ("KeyboardKit", 75, "KeyboardKit$Processor", "flags", "LKeyboardKit$Flags;", "KeyboardKit") (List.mem_of_getElem? (i := 17) rfl)
theorem nf_18 {U : State} (h : nk U) : va_Nw (.fieldLinkNest RX6 85 "KeyboardKit$Processor" "sp" "I" "KeyboardKit") U := h.1 ("KeyboardKit", 85, "KeyboardKit$Processor", "sp", "I", "KeyboardKit") (List.mem_of_getElem? (i := 18) rfl)
theorem nf_19 {U : State} (h : nk U) : va_Nw (.fieldLinkNest RX6 88 "KeyboardKit$Processor" "pc" "I" "KeyboardKit") U := h.1 ("KeyboardKit", 88, "KeyboardKit$Processor", "pc", "I", "KeyboardKit") (List.mem_of_getElem? (i := 19) rfl)
theorem nf_20 {U : State} (h : nk U) : va_Nw (.fieldLinkNest RX6 94 "KeyboardKit$Processor" "halts" "Z" "KeyboardKit") U := h.1 ("KeyboardKit", 94, "KeyboardKit$Processor", "halts", "Z", "KeyboardKit") (List.mem_of_getElem? (i := 20) rfl)
theorem nm_0 {U : State} (h : nk U) : va_Nw (.methodLinkNest RX6 15 yX5_init "KeyboardKit") U := h.2 ("KeyboardKit", 15, ⟨"KeyboardKit$Timer", "<init>", "()V"⟩, "KeyboardKit") (List.mem_of_getElem? (i := 0) rfl)
theorem nm_1 {U : State} (h : nk U) : va_Nw (.methodLinkNest RX6 22 yX2_init "KeyboardKit") U := h.2 ("KeyboardKit", 22, ⟨"KeyboardKit$KeyUnit", "<init>", "()V"⟩, "KeyboardKit") (List.mem_of_getElem? (i := 1) rfl)
theorem nm_2 {U : State} (h : nk U) : va_Nw (.methodLinkNest RX6 29 yX1_init "KeyboardKit") U := h.2 ("KeyboardKit", 29, ⟨"KeyboardKit$Interrupts", "<init>", "()V"⟩, "KeyboardKit") (List.mem_of_getElem? (i := 2) rfl)
theorem nm_3 {U : State} (h : nk U) : va_Nw (.methodLinkNest RX4 17 yX0_init "KeyboardKit") U := h.2 ("KeyboardKit$Processor", 17, ⟨"KeyboardKit$Flags", "<init>", "()V"⟩, "KeyboardKit") (List.mem_of_getElem? (i := 3) rfl)
