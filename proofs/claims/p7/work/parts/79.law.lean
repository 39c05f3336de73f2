
def R_law : String := "KeyboardKitLaw"
def lw_P (b : Addr) (xs : List Int32) (args : Array Value) (s : State) : Prop := args = #[.ref b] ∧ s.IntsAt b xs ∧ xs.length ≤ 1536 ∧ (Jvm.Cond.and given_1 narrow_1).before args s = true
def lw_Q (_ : Array Value) (s : State) (o : Outcome) (t : State) : Prop := o = .returned (some (.int 1)) ∧ Framed s o t [] 1054 10513
def lw_Z (below : List Frame) (a : Array Value) (s : State) : State → Prop := fun t => ∃ o, t.status = .running ∧ Ended t below o ∧ lw_Q a s o t
/-- the law's own end, with 1 on the stack, nothing written that was there before, its room as the claim has it -/
theorem lw_ret {p : Program} {l : Launch} {e : Env} {s : State} {m : MethodId} {below : List Frame} {meth : Method} {c : Code} {b : Nat} (hx : p.tables.exec = Jvm.exec) (hb : c.code = code) (hr : meth.sig.returnType = ret) (hlocks : meth.locks = false) {pc : Nat} {H : Heap} {ls : Array Slot} (hdg : decode code pc = .ok (.ireturn, 1)) : W p l e room_1 s m #[Value.ref b] below meth c H [] 1054 10513 (lw_Z below #[Value.ref b] s) (F0 m pc ls [.int 1]) := by
  intro T hT X
  obtain ⟨fs, hret, hrun, hended, hW, hframe⟩ := X.leave (v := some (.int 1)) (hlocks := hlocks) (fun h => by rw [hr] at h; cases h)
  have hmeth' : T.vm.method? m = some meth := X.method'
  refine ⟨T.setFrames fs, ?_, .returned (some (.int 1)), hrun, hended, rfl, ⟨_, rfl⟩, hW, hframe⟩
  jvm_step X.here [X.here.top, hx, hb, hdg, hmeth', hr, ret, narrow_b1]
  (try refine ⟨rfl, ?_⟩); (try refine ⟨rfl, ?_⟩)
  first | (intro acts; rw [hret _ acts rfl rfl rfl]) | rw [hret _ _ rfl rfl rfl]
  exact Steps.refl _
/-- what holds at the law's entry: the machine, the code, the tables' words (any of lw_tbl by 'hts w (by decide +kernel)'), the script of L ints xs at the cell b, what the Statement gives of the start (any of its parts by flat_of_before) -/
def lw_At (p : Program) (s : State) (m : MethodId) (meth : Method) (c : Code) (b L : Nat) (xs : Nat → Int32) : Prop :=
  p.tables.exec = Jvm.exec ∧ c.code = code ∧ meth.sig.returnType = ret ∧ c.maxLocals = 7 ∧ s.vm.findClass R_law = some m.cls ∧ (∀ w ∈ lw_tbl, w.before #[Value.ref b] s = true) ∧ va_X b L xs s s.heap ∧ b < s.heap.size ∧ meth.locks = false ∧ (Jvm.Cond.and given_1 narrow_1).before #[Value.ref b] s = true
def zL_I (n n2 : Nat → Nat) (fd fl : Nat → Int32) (ln se : Int32) : Prop := (n 0 < 8 ∧ n 1 < 9 ∧ n 2 < 16) ∧ (n2 0 < 9 ∧ n2 1 < 16) ∧ (∀ i, fd i = 0 ∨ fd i = 1) ∧ (∀ i, fl i = 0 ∨ fl i = 1) ∧ fl 0 = ln ∧ fl 1 = se
theorem zL_b {b : Nat} (h : b < 2) : vp_nar .boolean (nI b) = nI b := by
  rcases (show b = 0 ∨ b = 1 by omega) with rfl | rfl
  · exact zc_z0
  · exact zc_z1
theorem zL_01 {b : Nat} (h : b < 2) : nI b = 0 ∨ nI b = 1 := by
  rcases (show b = 0 ∨ b = 1 by omega) with rfl | rfl
  · exact Or.inl rfl
  · exact Or.inr rfl
theorem zL_upd {fd : Nat → Int32} {k b : Nat} (hf : ∀ i, fd i = 0 ∨ fd i = 1) (hb : b < 2) : ∀ i, upd fd k (vp_nar .boolean (nI b)) i = 0 ∨ upd fd k (vp_nar .boolean (nI b)) i = 1 := fun i => by
  unfold upd
  split
  · rw [zL_b hb]; exact zL_01 hb
  · exact hf i
theorem zL_l0 {fl : Nat → Int32} {b : Nat} (hb : b < 2) : upd fl (0 : Int32).toNatClampNeg (vp_nar .boolean (nI b)) 0 = nI b ∧ upd fl (0 : Int32).toNatClampNeg (vp_nar .boolean (nI b)) 1 = fl 1 := by
  rw [zL_b hb]; exact ⟨rfl, rfl⟩
theorem zL_l1 {fl : Nat → Int32} {b : Nat} (hb : b < 2) : upd fl (1 : Int32).toNatClampNeg (vp_nar .boolean (nI b)) 0 = fl 0 ∧ upd fl (1 : Int32).toNatClampNeg (vp_nar .boolean (nI b)) 1 = nI b := by
  rw [zL_b hb]; exact ⟨rfl, rfl⟩
theorem zL_3 (q : Nat) : nI (3 * q) + Int32.ofInt 3 = nI (3 * (q + 1)) := by
  rw [show Int32.ofInt 3 = nI 3 from by decide, show 3 * (q + 1) = 3 * q + 3 by omega]
  exact nI_add _ _
theorem zL_gt {i L : Nat} (hL : L ≤ 100000) (hi : i ≤ 100000) : Int32.ofNat L - 3 < nI i ↔ L < i + 3 := by
  have h1 : (nI L - nI 3).toInt = (L : Int) - 3 := pk_sub_toInt (by omega) (by omega)
  have h2 : (nI i).toInt = (i : Int) := nI_toInt (by omega)
  rw [show Int32.ofNat L - 3 = nI L - nI 3 from rfl, Int32.lt_iff_toInt_lt, h1, h2]
  omega
theorem zl_cmp {x y : Int64} (h : x = y) : lg_cmp x y = 0 := by subst h; unfold lg_cmp; simp
theorem zb_0 {x : Int32} {n : Nat} (hn : n < 2 ^ 31) (h : nI n ≤ x) : ¬ x < 0 := fun q => by
  have h1 := Int32.le_iff_toInt_le.mp h
  have h2 := Int32.lt_iff_toInt_lt.mp q
  rw [nI_toInt hn] at h1
  have h3 : (0 : Int32).toInt = 0 := by decide
  omega
theorem zb_le {x : Int32} {n : Nat} (hn : n + 1 < 2 ^ 31) (h : nI (n + 1) ≤ x) : ¬ x ≤ nI n := fun q => by
  have h1 := Int32.le_iff_toInt_le.mp h
  have h2 := Int32.le_iff_toInt_le.mp q
  rw [nI_toInt hn] at h1
  rw [nI_toInt (by omega)] at h2
  omega
theorem zb_lt {x y : Int32} (h : y ≤ x) : ¬ x < y := Int32.not_lt.mpr h
theorem zb_z {x : Int32} {n : Nat} (hn : n + 1 < 2 ^ 31) (h : nI (n + 1) ≤ x) : ¬ x ≤ 0 := fun q => by
  have h1 := Int32.le_iff_toInt_le.mp h
  have h2 := Int32.le_iff_toInt_le.mp q
  rw [nI_toInt hn] at h1
  have h3 : (0 : Int32).toInt = 0 := by decide
  omega
theorem zb_i0 {x : Int32} (h : x < 0) : x.toInt < 0 := Int32.lt_iff_toInt_lt.mp h
theorem zb_ib {x : Int32} {n : Nat} (hn : n + 1 < 2 ^ 31) (h : nI (n + 1) ≤ x) : (n : Int) < x.toInt := by
  have h1 := Int32.le_iff_toInt_le.mp h
  rw [nI_toInt hn] at h1
  omega
