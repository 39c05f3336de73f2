
/-! what a throw needs of the state beside the good words: Throwable's two statics, the words that aren't kept by themselves, the texts -/
def za_D : List MethodName := [⟨"java/lang/RuntimeException", "<init>", "(Ljava/lang/String;)V"⟩, ⟨"java/lang/Exception", "<init>", "(Ljava/lang/String;)V"⟩, ⟨"java/lang/Throwable", "<init>", "(Ljava/lang/String;)V"⟩]
def za_C : List String := ["java/lang/IllegalArgumentException", "java/lang/IndexOutOfBoundsException"]
def za_S : List (Nat × String) := [(49, "steps are 0 .. 200"), (56, "keys are 0 .. 15"), (63, "lines are 0 and 1"), (109, "about takes 0 .. 14"), (111, "the display has 0 .. 15"), (117, "set takes 0 .. 9")]
def za (A : Nat → Prop) (U : State) (H : Heap) : Prop :=
  vx_Zq Bundle.tN "UNASSIGNED_STACK" Bundle.steD A U H ∧ vx_Zq Bundle.tN "SUPPRESSED_SENTINEL" Bundle.listD A U H ∧ (∀ x ∈ za_D, va_Nw (.declares x) U) ∧ (∀ x ∈ za_C, va_Nw (.castable x x) U) ∧ ∀ x ∈ za_S, ∃ q, vk_R RX6 x.1 x.2 q U
theorem za.warm {A : Nat → Prop} {s U : State} {H : Heap} (hW : s.WarmedH U.vm) (h : za A s H) : za A U H :=
  ⟨vx_Zq.moved hW.alike h.1, vx_Zq.moved hW.alike h.2.1, fun x hx => va_Nw.warmD hW (h.2.2.1 x hx), fun x hx => va_Nw.warmC hW (h.2.2.2.1 x hx), fun x hx => by obtain ⟨q, hq⟩ := h.2.2.2.2 x hx; exact ⟨q, vk_R.warm hW hq⟩⟩
theorem za.same {A : Nat → Prop} {s U : State} {H : Heap} (hv : U.vm = s.vm) (h : za A s H) : za A U H :=
  ⟨vx_Zq.moved (by rw [hv]; exact Vm.Alike.refl _) h.1, vx_Zq.moved (by rw [hv]; exact Vm.Alike.refl _) h.2.1, fun x hx => va_Nw.same rfl hv.symm (h.2.2.1 x hx), fun x hx => va_Nw.same rfl hv.symm (h.2.2.2.1 x hx), fun x hx => by obtain ⟨q, hq⟩ := h.2.2.2.2 x hx; exact ⟨q, vk_R.same hv hq⟩⟩
theorem za.kept {A : Nat → Prop} {U : State} {H H1 : Heap} (h : za A U H) (hq : ∀ a : Nat, a < H.size → ¬ A a → H1[a]? = H[a]?) : za A U H1 := ⟨h.1.kept hq, h.2.1.kept hq, h.2.2⟩
theorem za.narrow {A B : Nat → Prop} {U : State} {H : Heap} (h : za A U H) (hAB : ∀ q, B q → A q) : za B U H := ⟨h.1.narrow hAB, h.2.1.narrow hAB, h.2.2⟩
/-- the words of a throw of X out of them -/
theorem za_own {A : Nat → Prop} {s : State} {args : Array Value} (hts : ∀ w ∈ zw, w.before args s = true) (h : za A s s.heap) {own X : String} {ic : Nat} {names : List String}
    (hg : (Bundle.ownAtoms own ic X names).all (fun w => (lw_tbl.contains w && goodWord w) || decide (w = .isRef (.static Bundle.tN "UNASSIGNED_STACK" Bundle.steD)) || decide (w = .isRef (.static Bundle.tN "SUPPRESSED_SENTINEL" Bundle.listD)) || decide (w = .laysStatic Bundle.tN "UNASSIGNED_STACK" Bundle.steD) || decide (w = .laysStatic Bundle.tN "SUPPRESSED_SENTINEL" Bundle.listD) || za_D.any (fun x => decide (w = .declares x)) || za_C.any (fun x => decide (w = .castable x x))) = true) :
    ∀ w ∈ Bundle.ownAtoms own ic X names, w.before args s = true := by
  intro w hw
  have h1 := List.all_eq_true.mp hg w hw
  simp only [Bool.or_eq_true, Bool.and_eq_true, decide_eq_true_eq, List.any_eq_true] at h1
  rcases h1 with (((((h1 | h1) | h1) | h1) | h1) | h1) | h1
  · exact hts w (List.mem_filter.mpr ⟨List.contains_iff_mem.mp h1.1, h1.2⟩)
  · rw [h1]; exact vx_isRefq h.1.1
  · rw [h1]; exact vx_isRefq h.2.1.1
  · rw [h1]; exact h.1.2.word
  · rw [h1]; exact h.2.1.2.word
  · obtain ⟨x, hx, e⟩ := h1
    rw [e]; exact va_Nw.use rfl (h.2.2.1 x hx)
  · obtain ⟨x, hx, e⟩ := h1
    rw [e]; exact va_Nw.use rfl (h.2.2.2.1 x hx)
/-! A method that throws on the road that its start names (launches without stack traces): its contract, its end, its call by a caller that catches. -/
def zt_Q (X : String) : Array Value → State → Outcome → State → Prop := fun _ s o t =>
  ∃ (x : Addr) (ce : Cell), o = .threw x ∧ s.WarmedH t.vm ∧ s.sameButNew ({ t with vm := s.vm } : State) [] 1 6 ∧ t.heap[x]? = some ce ∧ ce.vm = .none ∧ s.vm.findClass X = some ce.cls
def zt_Met (l : Launch) (y : MethodName) (ws : List Cond) (rm : Room) (Pc : Array Value → State → Prop) (X : String) : Prop :=
  MetFree l y (headSpec ws rm) Pc (fun _ _ _ _ _ => True) (zt_Q X)
def zt_Z (below : List Frame) (X : String) (a : Array Value) (s : State) : State → Prop := fun t => ∃ o, t.status = .running ∧ Ended t below o ∧ zt_Q X a s o t
/-- the contract out of a walk -/
theorem zt_ofW {l : Launch} {y : MethodName} {ws ws' : List Cond} {rm : Room} {Pc : Array Value → State → Prop} {X : String} {cc : ByteArray} {maxL : Nat} {ret : Option FieldType}
    (hy : plainName y.cls = true) (hw : ws = Cond.code y cc maxL ret :: ws')
    (body : ∀ p e s m args below meth c s₁, BodyLoose p l y (headSpec ws rm) cc maxL ret e s m args below meth c s₁ → c.maxLocals = maxL → (∀ x ∈ c.exceptionTable.toList, ∀ k, covers x k = false) → Pc args s →
      W p l e (headSpec ws rm).room s m args below meth c s.heap [] 0 0 (zt_Z below X args s) (entryFrame m args maxL)) : zt_Met l y ws rm Pc X := by
  refine MetFree.of_bodyS (code := cc) (maxLocals := maxL) (ret := ret) hy ?_ ?_
  · intro args s m h hn
    obtain ⟨meth, c, h1, h2, h3, h4, h5, h6, -, -⟩ := Cond.code_spec hn (atoms_spec (ws := ws) h _ (by rw [hw]; exact List.mem_cons_self))
    exact ⟨meth, c, h1, h2, h3, h4, h5, h6⟩
  · intro p e s m args below meth c s₁ B hml hP _
    have hh0 : s₁.heap = s.heap := by rw [B.state]; rfl
    have hE : c.exceptionTable.isEmpty = true := B.noHandlers (atoms_spec (ws := ws) B.pre _ (by rw [hw]; exact List.mem_cons_self))
    have hE2 : ∀ x ∈ c.exceptionTable.toList, ∀ k, covers x k = false := by
      intro x hx
      have h0 : c.exceptionTable.size = 0 := by simpa [Array.isEmpty] using hE
      have h1 : c.exceptionTable.toList = [] := List.eq_nil_of_length_eq_zero (by simpa using h0)
      rw [h1] at hx
      exact nomatch hx
    obtain ⟨t, a1, o, b1, b2, b3⟩ := body p e s m args below meth c s₁ B hml hE2 hP s₁ hh0 (Stand.of_body B)
    exact ⟨t, o, a1, b1, b2, b3⟩
/-- new X; dup; ldc "text"; invokespecial; athrow, where nothing was made or written yet -/
theorem zt_throw {p : Program} {l : Launch} {e : Env} {R : Room} {s : State} {m : MethodId} {args : Array Value} {below : List Frame} {meth : Method} {c : Code} {cc : ByteArray} {pc : Nat} {ls : Array Slot} {own X tx : String} {names : List String} {i0 i1 i2 q : Nat}
    (hf : l.flags = pinnedFlags ++ [noTraceFlag]) (hexec : p.tables.exec = Jvm.exec) (hb : c.code = cc) (hml : c.maxLocals = ls.size) (hlocks : meth.locks = false) (hown : s.vm.findClass own = some m.cls)
    (hats : ∀ w ∈ Bundle.ownAtoms own i2 X names, w.before args s = true) (hcl : (Cond.classLink own i0 X).before args s = true) (hini : (Cond.initialized X).before args s = true)
    (hfit : Bundle.fit X = true) (hfits : ∀ n ∈ names, Bundle.fit n = true) (hZ : vk_R own i1 tx q s)
    (d0 : decode cc pc = .ok (.new i0, 3)) (d1 : decode cc (pc + 3) = .ok (.dup, 1)) (d2 : decode cc (pc + 3 + 1) = .ok (.ldc i1, 2)) (d3 : decode cc (pc + 3 + 1 + 2) = .ok (.invokespecial i2, 3)) (d4 : decode cc (pc + 3 + 1 + 2 + 3) = .ok (.athrow, 1))
    (hout : ∀ x ∈ c.exceptionTable.toList, ∀ k, covers x k = false)
    (hfr : names.length + 3 < R.frames) (hlo : 1 + (13 * (names.length + 1) + 42) ≤ R.locals) (hce : 0 + 1 ≤ R.cells) (hsl : 0 + 6 ≤ R.slots) :
    W p l e R s m args below meth c s.heap [] 0 0 (zt_Z below X args s) (F0 m pc ls []) := by
  refine W.newc hexec hb hown hcl (hats (.instantiable X 6) (by simp [Bundle.ownAtoms])) hini rfl d0 hce hsl (fun cC kC h1 h2 h3 h4 => ?_)
  refine W.eq (g2 := F0 m (pc + 3) ls [.ref s.heap.size]) rfl ?_
  refine lv_dup hexec hb d1 rfl ?_
  refine va_ldcS hexec hb hown hZ d2 ?_
  intro T hT Xs
  have htr : e.platform.stackTraces = false := Launch.traces_off hf Xs.admits
  have hcell : T.heap[s.heap.size]? = some (freshCell cC kC) := by rw [hT]; simp
  obtain ⟨U, st, hrun, hend, hW, hsame, ce, hce2, K⟩ := Xs.ctorThrowS hexec htr (own := own) (cls := X) (names := names) (ic := i2) hown hfit hfits hats (fun x hx => nomatch hx) h1 h2 hcell (Nat.le_refl _) (msg := .ref q) rfl
    (g := F0 m (pc + 3 + 1 + 2) ls [.ref q, .ref s.heap.size, .ref s.heap.size]) rfl hml.symm rfl rfl (rest := []) rfl (by rw [hb]; exact d3) (by rw [hb]; exact d4) (fun x hx => hout x hx _) hfr (by simpa [Value.category, JFrame.monitorRoom] using hlo) hlocks
  exact ⟨U, st, .threw _, hrun, hend, _, ce, rfl, hW, hsame, hce2, K.vm, K.cls⟩
/-- what is old stays -/
theorem zt_old {s t : State} {k n : Nat} (h : s.sameButNew t [] k n) : s.heap.size ≤ t.heap.size ∧ ∀ q : Nat, q < s.heap.size → t.heap[q]? = s.heap[q]? := by
  obtain ⟨-, h1, -, -, -, h6⟩ := h
  refine ⟨h1, fun q hq => ?_⟩
  have hc : s.heap[q]? = some s.heap[q] := Array.getElem?_eq_getElem hq
  obtain ⟨c', hc', he, hs, hi⟩ := h6 q _ hc
  rw [hc', hc]
  congr 1
  rw [he]
  have hsl : c'.slots = s.heap[q].slots := by
    apply Array.ext_getElem?
    intro i
    exact hi i (fun z => nomatch z)
  rw [hsl]
/-- the search in a table of one row, whose class is linked as it goes -/
theorem zt_find {e : Env} {s : State} {f : JFrame} {a : Addr} {meth : Method} {code : Code} {x : ExceptionTableEntry} {k : ClassId} {cell : Cell}
    (hm : s.vm.method? f.method = some meth) (hc : meth.code = some code) (ht : code.exceptionTable.toList = [x]) (hx : covers x f.pc = true) (h0 : x.catchType ≠ 0)
    (hl : s.vm.ClassLinks e.platform f.method.cls x.catchType k) (hcell : s.heap[a]? = some cell) (hobj : ∀ j, cell.vm ≠ .statics j)
    (hk : ∃ q, s.vm.classes[cell.cls]? = some q) (hk2 : ∃ q, s.vm.classes[k]? = some q) (hfit : s.vm.assignable cell.cls k = true)
    (Q : Handler → Jvm.Pre) (E : CtlPost) (d : Bool) (acts : List Action) :
    wp (findHandler f a) Q E e d acts s ↔ Q (.found x.handlerPc) d acts (s.setVm (s.vm.noted f.method.cls x.catchType (.cls k))) := by
  rw [Jvm.W.findHandler_eq hm hc, ht]
  simp only [covers] at hx
  obtain ⟨q1, q2⟩ := (resolveClass_links e.toSetting hl).op (op := VmOp.resolveClass f.method.cls x.catchType) rfl
  have hal : s.vm.Alike (s.vm.noted f.method.cls x.catchType (.cls k)) := (Vm.Alike.refl s.vm).noted _ _ _
  obtain ⟨k1, hk1⟩ := hk
  obtain ⟨k2, hk2⟩ := hk2
  obtain ⟨k3, hk3, -⟩ := hal.2.2 _ _ hk1
  obtain ⟨k4, hk4, -⟩ := hal.2.2 _ _ hk2
  have hfit2 : (s.vm.noted f.method.cls x.catchType (.cls k)).assignable cell.cls k = true := by rw [hal.assignable]; exact hfit
  simp [findHandler.go, hx, h0, q1, q2, hcell, hobj, hk3, hk4, hfit2, VmOp.dirties, VmOp.acts]
/-- into the handler -/
theorem zt_caught {p : Program} {l : Launch} {e : Env} {R : Room} {s : State} {m : MethodId} {args : Array Value} {below : List Frame} {meth : Method} {c : Code} {T : State} {locs : List Loc} {cells slots : Nat}
    (X : Stand p l e R s m args below meth c T locs cells slots) {a : Addr} {g : JFrame} (hg : g.method = m) {own Y : String} (hown : s.vm.findClass own = some m.cls) {x : ExceptionTableEntry} (ht : c.exceptionTable.toList = [x]) (hx : covers x g.pc = true) (h0 : x.catchType ≠ 0)
    (hlink : (Cond.classLink own x.catchType Y).before args s = true) {k : ClassId} {cell : Cell} (hcT : s.vm.findClass Y = some k) (hcell : T.heap[a]? = some cell) (hvm : cell.vm = .none) (hfit : s.vm.assignable cell.cls k = true) :
    ∃ vm', Stand p l e R s m args below meth c (T.setVm vm') locs cells slots ∧
      ∀ target, Steps p.tables e below ((T.setVm vm').setTop { g with pc := x.handlerPc, stack := [.ref a] }) target → Steps p.tables e below ((T.setTop g).pushFrame (.throwing a)) target := by
  have hpl : e.platform.magicAccessors = ({} : Platform).magicAccessors := by rw [X.admits.platform]
  obtain ⟨k9, hk9, hcl⟩ := Cond.classLink_spec hown hlink e.platform hpl
  cases hcT.symm.trans hk9
  obtain ⟨dk, _, _, kt, hd, _, _, _, _, hkt, _, hopen⟩ := hcl.here
  have hcl2 := X.warmed.classLinks hcl
  have hW2 : s.WarmedH (T.vm.noted m.cls x.catchType (.cls k)) := X.warmed.noted hd hopen (State.rightAt_cls hcl)
  have hal := X.warmed.alike
  obtain ⟨kt2, hkt2, -⟩ := hal.2.2 _ _ hkt
  have hfit2 : T.vm.assignable cell.cls k = true := by rw [hal.assignable]; exact hfit
  subst hg
  refine ⟨_, X.noted hW2, fun target hrest => ?_⟩
  obtain ⟨hgo, hw⟩ := X.here.throwing a
  refine Steps.head hgo hw ?_
  have hfind := zt_find (e := e) (s := (T.setTop g).pushFrame (.throwing a)) (f := g) (a := a) (meth := meth) (code := c) X.method' X.code ht hx h0 (k := k) (cell := cell) hcl2 hcell (fun j h => by rw [hvm] at h; cases h)
    (Vm.classAt_of_assignable hfit2 ⟨kt2, hkt2⟩) ⟨kt2, hkt2⟩ hfit2
  have hstep : ∀ r : List Frame, (stepThrowing e ((T.setTop g).pushFrame (.throwing a)) a (.java g :: r)).Is ((((T.setTop g).pushFrame (.throwing a)).setVm (T.vm.noted g.method.cls x.catchType (.cls k))).setFrames (.java { g with pc := x.handlerPc, stack := [.ref a] } :: r)) [] := by
    intro r
    simp only [stepThrowing, searchFrame, vmDo]
    generalize hr : Sem.go _ e false [] ((T.setTop g).pushFrame (.throwing a)) = res
    obtain ⟨as, rfl, ha⟩ := Sem.eq_ok_of hr (a := Handler.found x.handlerPc) (s' := ((T.setTop g).pushFrame (.throwing a)).setVm (T.vm.noted g.method.cls x.catchType (.cls k))) (acts' := []) (by simp [hfind]; rfl)
    exact ⟨rfl, ha⟩
  rw [stepThread_throwing (frames_entered X.here.top _), (hstep _).1]
  obtain ⟨g0, hg0⟩ := Option.isSome_iff_exists.mp X.here.top
  obtain ⟨r, hr⟩ := State.topJava?_eq_some.mp hg0
  have hr2 : (T.setVm (T.vm.noted g.method.cls x.catchType (.cls k))).frames = .java g0 :: r := hr
  have hcomm : ∀ (u : State) (v : Vm) (F G : List Frame), ((u.setFrames F).setVm v).setFrames G = (u.setVm v).setFrames G := fun u v F G => by
    rw [show (u.setFrames F).setVm v = (u.setVm v).setFrames F from rfl, State.setFrames_setFrames]
  rw [State.setTop_of_frames _ hr2] at hrest
  rw [hr, List.tail_cons, State.pushFrame, hcomm, State.setTop_of_frames _ hr, hcomm]
  exact hrest
/-- a call of a method that throws X, by a caller whose table has one row, of X -/
theorem zt_callV {p : Program} {l : Launch} {e : Env} {R : Room} {s : State} {m : MethodId} {args : Array Value} {below : List Frame} {meth : Method} {c : Code} {H : Heap} {locs : List Loc} {cells slots : Nat} {Q : State → Prop}
    {y : MethodName} {bytes cc : ByteArray} {maxL nL n index pc : Nat} {ls : Array Slot} {ret : Option FieldType} {ws : List Cond} {rm : Room} {Pc : Array Value → State → Prop} {Ts : List Cond} {own C X : String} {b : Addr} {As rest : List Value} {x : ExceptionTableEntry}
    (S : CallFix p m c cc nL s args Ts own) (hM : zt_Met l y ws rm Pc X) (cw : CallW R s args own C index y bytes maxL ret ws rm 1 6 n) (hp : PreV s H C b Pc As) (hn : As.length = n) (hsize : ls.size = nL)
    (hW : (rest.map fun v => v.category).sum ≤ 8) (hdg : decode cc pc = .ok (.invokevirtual index, 3)) (hf : cells + 1 ≤ R.cells ∧ slots + 6 ≤ R.slots)
    (ht : c.exceptionTable.toList = [x]) (hx : covers x pc = true) (h0 : x.catchType ≠ 0) (hlink : (Cond.classLink own x.catchType X).before args s = true) (hcast : (Cond.castable X X).before args s = true)
    (kk : ∀ (a : Nat) (H1 : Heap), H.size ≤ H1.size → (∀ q : Nat, q < H.size → H1[q]? = H[q]?) → W p l e R s m args below meth c H1 locs (cells + 1) (slots + 6) Q (F0 m x.handlerPc ls [.ref a])) :
    W p l e R s m args below meth c H locs cells slots Q (F0 m pc ls (As.reverse ++ .ref b :: rest)) := by
  obtain ⟨⟨hrc, hrs, hfr, hlo, hws, hcw, hcode, hini, hy, hlen, hl⟩, hinst, hsel⟩ := cw
  obtain ⟨hexec, hb, hml, hown, -⟩ := S
  obtain ⟨hblind, ⟨cellB, hcB, hoB, hclB⟩, hPc⟩ := hp
  intro T hT Xs
  obtain ⟨mk, methM, hnamed, hmethM, hstM, habM⟩ := Cond.instanceMethod_spec hinst
  obtain ⟨methM2, cM, hmethM2, hcM, -, hlM, -, -, -, hsigM⟩ := Cond.code_spec hnamed hcode
  cases hmethM.symm.trans hmethM2
  obtain ⟨c2, r2, m2, q1, q2, q3, q4, kP, hkP, hkPi⟩ := Cond.selects_spec hsel
  cases hclB.symm.trans q1
  cases (State.methodFound?_of_named hnamed hy).symm.trans q2
  cases hnamed.symm.trans q3
  have hselP : selectMethod e.platform s.vm cellB.cls mk = .method mk := by rw [Launch.admits_selectMethod Xs.admits]; exact q4
  obtain ⟨vm1, X1, hstep1⟩ := Xs.invokevirtual hexec hown hl hnamed hmethM hstM hkP hkPi hy (a := b) (cell := cellB) (by rw [hT]; exact hcB)
    (fun z h => by rw [h] at hoB; cases hoB) hselP hmethM habM hkP hkPi (g := F0 m pc ls (As.reverse ++ .ref b :: rest)) rfl (argsL := As) (rest := rest) (hn.trans (hlen _ hsigM)) rfl (by rw [hb]; exact hdg)
  -- the callee
  obtain ⟨U, hU⟩ : ∃ z, z = T.setVm vm1 := ⟨_, rfl⟩
  have hUh : U.heap = H := by rw [hU]; exact hT
  rw [← hU] at X1
  obtain ⟨g, hg⟩ : ∃ z, z = F0 m pc ls rest := ⟨_, rfl⟩
  have hgm : g.method = m := by rw [hg]
  have hpre : (headSpec ws rm).pre.before (Value.ref b :: As).toArray U = true := atoms_intro fun w hw => hws w hw _ _ X1.warmed
  have hcode2 : (Cond.code y bytes maxL ret).before (Value.ref b :: As).toArray U = true := hws _ hcw _ _ X1.warmed
  have hini2 : (Cond.initialized y.cls).before (Value.ref b :: As).toArray U = true := word_at X1.warmed (Or.inl (by first | rfl | simp [Cond.onTables, Cond.keeps, Cond.steady])) hini
  have hnU : U.methodNamed? y = some mk := X1.named hnamed
  obtain ⟨methY, cY, hmY, hcY, -, hlY, -, -, -, -⟩ := Cond.code_spec hnU hcode2
  obtain ⟨kY, hkY, -⟩ := className_of_methodNamed hnU
  have hinitY : kY.init = .initialized := Cond.initialized_spec (findClass_of_methodNamed hnU) hkY hini2
  have hAt : At U g.method c below := by rw [hgm]; exact X1.here
  have hdg2 : decode c.code g.pc = .ok (.invokevirtual index, 3) := by rw [hg, hb]; exact hdg
  have hsize2 : g.locals.size = c.maxLocals := by rw [hg, hml]; exact hsize
  have hroom : 2 * g.monitorRoom + (g.stack.map fun v => v.category).sum ≤ 8 := by rw [hg]; exact lv_room hW
  have hlo2 : 8 + (maxL + 11) + (headSpec ws rm).room.locals ≤ R.locals := hlo
  have hfr2 : (headSpec ws rm).room.frames + 1 ≤ R.frames := hfr
  have happ : (headSpec ws rm).appliesLoose y e.platform (U.calling g mk (Value.ref b :: As).toArray) = true :=
    Spec.appliesLoose_calling (g := g) hAt hdg2 hnU hkY hinitY
      (X1.room_calling (g := g) (R' := (headSpec ws rm).room) hsize2 hmY hcY hfr2 (by rw [hlY]; omega) (by rw [show (headSpec ws rm).room.cells = 1 from hrc]; exact hf.1) (by rw [show (headSpec ws rm).room.slots = 6 from hrs]; exact hf.2)) hpre
  obtain ⟨mid, hmid⟩ := hAt.above
  have hfrm : (U.setTop g).frames = (.java g :: mid) ++ below := by rw [State.frames_setTop' g hAt.top, hmid]; rfl
  obtain ⟨o, t, hsteps, -, hend, hq⟩ := Steps.callFree hM p X1.admits X1.cas X1.clock (acts := []) hfrm happ (hblind _ _ _ _ (hPc U hUh X1.warmed)) trivial
  obtain ⟨a, ce, rfl, hW9, hsame, hce, hcev, hcec⟩ := hq
  rw [State.frames_setTop' g hAt.top, X1.tail] at hend
  obtain ⟨T2, X2, -, hsame2, ht2⟩ := X1.outOfThrown hgm hend hW9 hsame
  rw [List.append_nil] at X2
  have hT2h : T2.heap = t.heap := by rw [ht2]; rfl
  obtain ⟨f1, f2⟩ := zt_old hsame2
  obtain ⟨c3, c4, hc3, hc4, hasg⟩ := Cond.castable_spec hcast
  have hcx : s.vm.findClass X = some ce.cls := by
    have h9 : U.vm.findClass X = some ce.cls := hcec
    rwa [X1.warmed.alike.findClass] at h9
  cases hc3.symm.trans hcx
  cases hc4.symm.trans hcx
  obtain ⟨vm2, X3, hcatch⟩ := zt_caught X2 (a := a) hgm hown ht (by rw [hg]; exact hx) h0 hlink hcx (by rw [hT2h]; exact hce) hcev hasg
  obtain ⟨t9, hr1, hr2⟩ := kk a T2.heap (by rw [← hUh]; exact f1) (fun q hq => by rw [← hUh] at hq ⊢; exact f2 q hq) (T2.setVm vm2) rfl X3
  refine ⟨t9, hstep1 _ (fun acts => ?_), hr2⟩
  rw [doInvoke_state, ← hU, show ({ F0 m pc ls (As.reverse ++ .ref b :: rest) with stack := rest } : JFrame) = g from by rw [hg]]
  refine hsteps.trans ?_
  rw [ht2]
  refine hcatch _ ?_
  rw [hg]
  exact hr1
theorem zt_S {A : Nat → Prop} {H0 H H1 : Heap} {locs : List Loc} (hS : va_S A H0 H locs) (h1 : H.size ≤ H1.size) (h2 : ∀ q : Nat, q < H.size → H1[q]? = H[q]?) : va_S A H0 H1 locs :=
  ⟨Nat.le_trans hS.1 h1, fun q hq hA => (h2 q (Nat.lt_of_lt_of_le hq hS.1)).trans (hS.2.1 q hq hA), hS.2.2⟩
def zt_P (U : State) : Prop := za (fun _ => False) U U.heap
theorem zt_blind {av : List Value} : FrameBlind (va_Pc av zt_P) := fun a U g mk q => ⟨q.1, za.same (s := U) (U := U.calling g mk a) rfl q.2⟩
