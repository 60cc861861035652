/-! an exception of one's own: made, thrown, caught -/
section TW
variable {p : Program} {l : Launch} {e : Env} {R : Room} {s : State} {m : MethodId} {args : Array Value} {below : List Frame} {meth : Method} {c : Code} {T : State} {locs : List Loc} {cells slots : Nat}
set_option maxHeartbeats 4000000 in
/-- X's constructor with a text, then athrow: out of the method; of the heap the new cell alone has changed -/
theorem tw_go (X : Stand p l e R s m args below meth c T locs cells slots) (hexec : p.tables.exec = Jvm.exec) (htr : e.platform.stackTraces = false) {own cls : String} {names : List String} {ic : Nat} (hown : s.vm.findClass own = some m.cls) (hcls : Bundle.fit cls = true) (hnames : ∀ n ∈ names, Bundle.fit n = true) (h : ∀ w ∈ Bundle.ownAtoms own ic cls names, w.before args s = true) (hoff : ∀ cf kf i f, s.fieldFound? Bundle.tN "UNASSIGNED_STACK" Bundle.steD = some (cf, kf, i, f) → ∀ aS, kf.statics = some aS → ∀ j, (⟨aS, j⟩ : Loc) ∉ locs)
    {a : Addr} {cX : ClassId} {kX : Class} (hfX : s.vm.findClass cls = some cX) (hkX : s.vm.classes[cX]? = some kX) (hcell : T.heap[a]? = some (freshCell cX kX)) (hnew : s.heap.size ≤ a) {msg : Value} (hmsg : msg.isRef = true) {g : JFrame} (hg : g.method = m) (hsize : g.locals.size = c.maxLocals) (hlocked : g.locked = none) (hentered : g.entered = []) {rest : List Value} (hstack : g.stack = msg :: .ref a :: .ref a :: rest)
    (hd6 : decode c.code g.pc = .ok (.invokespecial ic, 3)) (hd9 : decode c.code (g.pc + 3) = .ok (.athrow, 1)) (hout : ∀ y ∈ c.exceptionTable.toList, covers y (g.pc + 3) = false) (hfr : names.length + 3 < R.frames) (hlo : 2 * g.monitorRoom + ((Value.ref a :: rest).map fun v => v.category).sum + (13 * (names.length + 1) + 42) ≤ R.locals) (hlocks : meth.locks = false) :
    ∃ U : State, Steps p.tables e below (T.setTop g) U ∧ U.status = .running ∧ Ended U below (.threw a) ∧ s.WarmedH U.vm ∧ s.sameButNew ({ U with vm := s.vm } : State) locs cells slots ∧ (∀ q : Nat, q ≠ a → U.heap[q]? = T.heap[q]?) ∧ U.heap.size = T.heap.size ∧ ∃ ce : Cell, U.heap[a]? = some ce ∧ ce.vm = .none ∧ ce.cls = cX := by
  have hpf := X.admits.platform
  have b1 : e.platform.frameOwnsMonitors = true := by rw [hpf]
  have b2 : e.platform.finalization = false := by rw [hpf]
  have b3 : e.platform.magicAccessors = ({} : Platform).magicAccessors := by rw [hpf]
  obtain ⟨th, z0, lk, -, ti⟩ := ThrowableC.of_atoms (args := args) b1 b2 b3 (fun w hw => h w (by simp [Bundle.ownAtoms, hw]))
  obtain ⟨zS, ms, lz, lm, nz⟩ := Init0T.ofS_atoms (args := args) b3 lk ti (fun w hw => h w (by simp [Bundle.ownAtoms, hw]))
  obtain ⟨P1, Ps, plen, pl1, pls, pm, plink1, plink⟩ := Bundle.chainS (args := args) b3 nz names cls hcls hnames (fun w hw => h w (by simp [Bundle.ownAtoms, hw]))
  have ow : ∀ w, w ∈ Bundle.ownAtoms own ic cls names → w.holds args s none s [] = true := fun w hw => h w hw
  have f1 : s.vm.findClass cls = some P1.m.cls := findClass_of_methodNamed pm
  cases Option.some.inj (hfX.symm.trans f1)
  obtain ⟨_, k6, i1, i2, hord, -, -, h6⟩ := Cond.instantiable_spec (ow (.instantiable cls 6) (by simp [Bundle.ownAtoms]))
  cases Option.some.inj (i1.symm.trans f1)
  cases Option.some.inj (hkX.symm.trans i2)
  have sel : ∀ (y : MethodName) (i : MethodId), s.methodNamed? y = some i → (y.cls ≠ "java/lang/invoke/MethodHandle" ∧ y.cls ≠ "java/lang/invoke/VarHandle") → (Cond.selects cls y y).holds args s none s [] = true → selectMethod e.platform s.vm P1.m.cls i = .method i := by
    intro y i hn hy hs
    obtain ⟨_, _, _, q1, q2, q3, q4, -⟩ := Cond.selects_spec hs
    cases Option.some.inj (q1.symm.trans f1)
    cases Option.some.inj (q2.symm.trans (State.methodFound?_of_named hn hy))
    cases Option.some.inj (q3.symm.trans hn)
    rw [Launch.admits_selectMethod X.admits]
    exact q4
  have s0 := sel _ _ ti.fill0 (by decide) (ow (.selects cls Bundle.tFill0 Bundle.tFill0) (by simp [Bundle.ownAtoms]))
  have sF := sel _ _ ti.fill (by decide) (ow (.selects cls Bundle.tFill Bundle.tFill) (by simp [Bundle.ownAtoms]))
  obtain ⟨st0, hst0, his⟩ := ti.statics
  obtain ⟨u0, hu0⟩ := Cond.staticRefV ti.unassigned lk.unassignedStatic lk.statics hst0 his (ow (.isRef (.static Bundle.tN "UNASSIGNED_STACK" Bundle.steD)) (by simp [Bundle.ownAtoms]))
  obtain ⟨u1, hu1⟩ := Cond.staticRefV ti.sentinel lk.sentinelStatic lk.statics hst0 his (ow (.isRef (.static Bundle.tN "SUPPRESSED_SENTINEL" Bundle.listD)) (by simp [Bundle.ownAtoms]))
  obtain ⟨_, _, fB, r1, r2, r3, r4, -, nB, tB, fB2⟩ := Cond.ownField (t := .object "java/lang/Object") ti.found lk.cls (by decide +kernel) (ow (.fieldLink Bundle.tN 198 Bundle.tN "backtrace" "Ljava/lang/Object;") (by simp [Bundle.ownAtoms])) (ow (.lays Bundle.tN Bundle.tN "backtrace" "Ljava/lang/Object;") (by simp [Bundle.ownAtoms])) e.platform b3
  obtain ⟨stT, hstT, heS, -, keep⟩ := X.same.2.2.2.2.2 th.aS st0 hst0
  have off : ∀ i, (⟨th.aS, i⟩ : Loc) ∉ locs := hoff _ _ _ _ ti.unassigned _ lk.statics
  have known : stT.vm ≠ .unknown := by
    rw [heS]
    intro hu
    rw [show st0.vm = .unknown from hu] at his
    cases his
  have apart : th.aS ≠ a := Nat.ne_of_lt (Nat.lt_of_lt_of_le (Array.getElem?_eq_some_iff.mp hst0).1 hnew)
  obtain ⟨_, fM⟩ := ti.msg
  obtain ⟨tc, dc, hdc, hnc⟩ := Cond.laysAt f1 i2 ti.cause (ow (.lays cls Bundle.tN "cause" "Ljava/lang/Throwable;") (by simp [Bundle.ownAtoms]))
  obtain ⟨ts, ds, hds, hns⟩ := Cond.laysAt f1 i2 ti.stack (ow (.lays cls Bundle.tN "stackTrace" Bundle.steD) (by simp [Bundle.ownAtoms]))
  obtain ⟨tp, dp, hdp, hnp⟩ := Cond.laysAt f1 i2 ti.supp (ow (.lays cls Bundle.tN "suppressedExceptions" Bundle.listD) (by simp [Bundle.ownAtoms]))
  obtain ⟨tm, dm, hdm, hnm⟩ := Cond.laysAt f1 i2 fM (ow (.lays cls Bundle.tN "detailMessage" "Ljava/lang/String;") (by simp [Bundle.ownAtoms]))
  obtain ⟨tb, db, hdb, hnb⟩ := Cond.laysAt f1 i2 fB2 (ow (.lays cls Bundle.tN "backtrace" "Ljava/lang/Object;") (by simp [Bundle.ownAtoms]))
  have a1 := Cond.laysApart hdb hdc hnb hnc (by rw [nB, ti.causeName]; decide)
  have a2 := Cond.laysApart hdb hds hnb hns (by rw [nB, ti.stackName]; decide)
  have a3 := Cond.laysApart hdb hdp hnb hnp (by rw [nB, ti.suppName]; decide)
  have skip : SkipFacts th e.platform s (fun u => u) u0 ((preparedCellV th.toThrowableT (freshCell P1.m.cls kX) a u0 u1).withEntry T.cur) := by
    refine ⟨{ ci198 := _, i198 := _, fBack := fB }, ⟨r1, r2, r3, r4⟩, ?_, fun _ _ => rfl⟩
    have := fresh_default (c := P1.m.cls) tb
    rw [tB] at this
    simpa [preparedCellV, Cell.setSlot, Cell.withEntry, Array.getElem?_setIfInBounds, a1, a2, a3, a1.symm, a2.symm, a3.symm, defaultValue] using this
  have mI : Cond.instanceMethod (Bundle.initS cls) ∈ Bundle.ownAtoms own ic cls names := by cases names <;> simp [Bundle.ownAtoms, Bundle.chainSAtoms, Bundle.passSAtoms]
  have mC : Cond.code (Bundle.initS cls) Bundle.six 2 none ∈ Bundle.ownAtoms own ic cls names := by cases names <;> simp [Bundle.ownAtoms, Bundle.chainSAtoms, Bundle.passSAtoms]
  obtain ⟨_, _, _, _, v1, n1, -, -, -, -, -, -, -, w1, go1⟩ := Steps.initColdS (tb := p.tables) (e := e) (below := below) (s := s) (U := T) X.here hexec X.warmed b3 hown (t := Bundle.initS cls) rfl rfl (Bundle.fit_spec hcls).2 (ow (.methodLink _ ic (Bundle.initS cls)) (by simp [Bundle.ownAtoms])) (h _ mI) (bytes := Bundle.six) (maxL := 2) (h _ mC) (f := g) hg (a := a) (msg := msg) (rest := .ref a :: rest) hstack hd6
  cases Option.some.inj (n1.symm.trans pm)
  have X1 := X.noted w1
  obtain ⟨v2, X2, go2⟩ := X1.ctorMessageOffV hexec (g := { g with stack := .ref a :: rest }) hg hsize th lk zS lz ms lm (P1 :: Ps) (fun P hP => by rcases List.mem_cons.mp hP with rfl | hP; exact pl1; exact pls P hP) ⟨plink1, plink⟩ (u0 := u0) (sen := u1) (self := a) hmsg (cell := freshCell P1.m.cls kX) (cellS := stT)
    hcell (fun _ => by simp) (by simp) rfl rfl s0 sF hstT apart known (by rw [keep _ (off _)]; exact hu0) (by rw [keep _ (off _)]; exact hu1)
    (Takes.of_laid i2 hord tc (by rw [ti.causeType]; rfl)) (Takes.of_laid i2 hord ts (by rw [ti.stackType]; exact fits_refV_array _ u0)) (Takes.of_laid i2 hord tp (by rw [ti.suppType]; exact fits_refV_object _ u1)) (Takes.of_laid i2 hord tm (by rw [ti.msgType]; exact fits_refV_object _ ⟨msg, hmsg⟩)) ti.objLocals skip htr [] hd6 (by simp only [List.length_cons, plen]; omega) (by simp only [List.length_cons, plen]; exact hlo)
  obtain ⟨go3, c1, c2, c3, c4⟩ := X2.athrowLeaves hexec (g := { g with stack := .ref a :: rest, pc := g.pc + 3 }) hg hlocked hentered hout (a := a) (rest := rest) rfl hd9 hlocks
  have hlt : a < ((T.setVm v1).setVm v2).heap.size := (Array.getElem?_eq_some_iff.mp hcell).1
  refine ⟨_, go1 _ (fun acts => ?_), c1, c2, c3, c4.weaken (fun y hy hy2 => ?_) (Nat.le_refl _) (Nat.le_refl _), fun q hq => ?_, ?_, _, heapAt_setCell_self (s := (T.setVm v1).setVm v2) (plainBareV th.toThrowableT (freshCell P1.m.cls kX) a u0 u1 msg) hlt, rfl, rfl⟩
  · rw [doInvoke_state]
    exact go2 _ go3
  · rcases List.mem_append.mp hy with q | q
    · exact q
    · exfalso
      have hb : y.base = a := by
        simp only [List.mem_cons, List.not_mem_nil, or_false] at q
        rcases q with rfl | rfl | rfl | rfl | rfl <;> rfl
      rw [hb] at hy2
      exact Nat.not_lt.mpr hnew hy2
  · show (((T.setVm v1).setVm v2).setCell a _).heap[q]? = T.heap[q]?
    exact Array.getElem?_setIfInBounds_ne (Ne.symm hq)
  · show (((T.setVm v1).setVm v2).setCell a _).heap.size = T.heap.size
    exact Array.size_setIfInBounds ..
/-- a handler whose class may yet have to be looked up -/
theorem tw_find {e : Env} {s : State} {f : JFrame} {a : Addr} {meth : Method} {code : Code} (hm : s.vm.method? f.method = some meth) (hc : meth.code = some code) {en : ExceptionTableEntry} {rest : List ExceptionTableEntry} (htab : code.exceptionTable.toList = en :: rest) (hx : covers en f.pc = true) (h0 : en.catchType ≠ 0) {cT : ClassId} {cell : Cell} {vm' : Vm} (hg : (Jvm.resolveClass f.method.cls en.catchType).Gives e.toSetting s.vm (.ok cT) vm') (hsz : vm'.classes.size ≤ s.vm.classes.size) (hcell : s.heap[a]? = some cell) (hobj : ∀ k, cell.vm ≠ .statics k) (hk : ∃ k, vm'.classes[cell.cls]? = some k) (hcl : ∃ k, vm'.classes[cT]? = some k) (hfit : vm'.assignable cell.cls cT = true)
    (Q : Handler → Pre) (E : CtlPost) (d : Bool) (acts : List Action) : wp (findHandler f a) Q E e d acts s ↔ Q (.found en.handlerPc) d acts (s.setVm vm') := by
  rw [Jvm.W.findHandler_eq hm hc, htab]
  simp only [covers] at hx
  obtain ⟨ha, ht⟩ := hg.op (op := VmOp.resolveClass f.method.cls en.catchType) rfl
  simp [findHandler.go, hx, h0, ha, ht, hsz, hcell, hobj, hk, hcl, hfit, VmOp.dirties, VmOp.acts]
theorem tw_step {e : Env} {s : State} {a : Addr} {f : JFrame} {r : List Frame} {pc : Nat} {vm' : Vm} (hfind : ∀ (Q : Handler → Pre) (E : CtlPost) (d : Bool) (acts : List Action), wp (findHandler f a) Q E e d acts s ↔ Q (.found pc) d acts (s.setVm vm')) : (stepThrowing e s a (.java f :: r)).Is ((s.setVm vm').setFrames (.java { f with pc := pc, stack := [.ref a] } :: r)) [] := by
  simp only [stepThrowing, searchFrame, vmDo]
  generalize hr : Sem.go _ e false [] s = res
  obtain ⟨as, rfl, ha⟩ := Sem.eq_ok_of hr (a := Handler.found pc) (s' := s.setVm vm') (acts' := []) (by simp [hfind _ _ _ _])
  exact ⟨rfl, ha⟩
theorem tw_catch (X : Stand p l e R s m args below meth c T locs cells slots) {own C : String} {ix : Nat} (hown : s.vm.findClass own = some m.cls) (hlink : (Cond.classLink own ix C).before args s = true) (hcast : (Cond.castable C C).before args s = true) {en : ExceptionTableEntry} {rest : List ExceptionTableEntry} (htab : c.exceptionTable.toList = en :: rest) {g : JFrame} (hg : g.method = m) (hx : covers en g.pc = true) (hct : en.catchType = ix) (h0 : ix ≠ 0) {a : Addr} {ce : Cell} (hce : T.heap[a]? = some ce) (hcv : ce.vm = .none) (hcc : s.vm.findClass C = some ce.cls) :
    ∃ vm' : Vm, Stand p l e R s m args below meth c (T.setVm vm') locs cells slots ∧ ∀ target, Steps p.tables e below ((T.setVm vm').setTop { g with pc := en.handlerPc, stack := [.ref a] }) target → Steps p.tables e below ((T.setTop g).pushFrame (.throwing a)) target := by
  subst hg
  have hpl : e.platform.magicAccessors = ({} : Platform).magicAccessors := by rw [X.admits.platform]
  obtain ⟨cT, hf, hcl⟩ := Cond.classLink_spec hown hlink e.platform hpl
  cases hcc.symm.trans hf
  obtain ⟨hg₁, hw₁, -⟩ := State.classEntry (e := e) X.warmed hcl
  have hszz : (T.vm.noted g.method.cls ix (.cls ce.cls)).classes.size ≤ T.vm.classes.size := by no_record
  obtain ⟨_, _, j1, j2, hfit⟩ := Cond.castable_spec (args := args) (first := s) (o := none) (s := s) (idx := []) hcast
  cases j1.symm.trans hf
  cases j2.symm.trans hf
  generalize hv : T.vm.noted g.method.cls ix (.cls ce.cls) = vm' at hg₁ hw₁ hszz
  have hal := hw₁.alike
  obtain ⟨k0, hk0⟩ := Vm.classAt_of_findClass hf
  obtain ⟨k1, hk1, -⟩ := hal.2.2 _ _ hk0
  refine ⟨vm', X.noted hw₁, fun target hrest => ?_⟩
  have h : At T g.method c below := X.here
  obtain ⟨hgo, hw⟩ := h.throwing a
  refine Steps.head hgo hw ?_
  rw [stepThread_throwing (frames_entered h.top _)]
  have hfind := tw_find (e := e) (s := (T.setTop g).pushFrame (.throwing a)) (f := g) (a := a) (meth := meth) (code := c) X.method' X.code htab hx (by rw [hct]; exact h0) (cT := ce.cls) (cell := ce) (vm' := vm') (by rw [hct]; exact hg₁) hszz hce (fun k => by rw [hcv]; simp) ⟨k1, hk1⟩ ⟨k1, hk1⟩ (by rw [hal.assignable]; exact hfit)
  rw [(tw_step hfind).1]
  obtain ⟨g₀, hg0⟩ := Option.isSome_iff_exists.mp h.top
  obtain ⟨r, hr⟩ := State.topJava?_eq_some.mp hg0
  have hr' : (T.setVm vm').frames = .java g₀ :: r := hr
  rw [State.setTop_of_frames _ hr'] at hrest
  have e1 : (((T.setTop g).pushFrame (.throwing a)).setVm vm').setFrames (.java { g with pc := en.handlerPc, stack := [.ref a] } :: T.frames.tail) = (T.setVm vm').setFrames (.java { g with pc := en.handlerPc, stack := [.ref a] } :: r) := by
    rw [State.pushFrame, State.setTop_of_frames _ hr, State.setFrames_setFrames, hr]
    show ((T.setVm vm').setFrames _).setFrames _ = _
    rw [State.setFrames_setFrames]
    rfl
  exact e1 ▸ hrest
end TW
