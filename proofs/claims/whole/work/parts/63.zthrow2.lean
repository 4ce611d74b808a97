/-! The throw of a class whose constructor passes the text on by a link of another number than the bundle's (NoSuchElementException). My own row, over the library's chain. -/
def z_tail (own : String) (ic : Nat) (X : String) : List Cond :=
  [.methodLink own ic (Bundle.initS X), .instantiable X 6, .selects X Bundle.tFill0 Bundle.tFill0, .selects X Bundle.tFill Bundle.tFill, .lays X Bundle.tN "cause" "Ljava/lang/Throwable;", .lays X Bundle.tN "stackTrace" Bundle.steD, .lays X Bundle.tN "suppressedExceptions" Bundle.listD, .lays X Bundle.tN "detailMessage" "Ljava/lang/String;",
   .isRef (.static Bundle.tN "UNASSIGNED_STACK" Bundle.steD), .isRef (.static Bundle.tN "SUPPRESSED_SENTINEL" Bundle.listD), .fieldLink Bundle.tN 198 Bundle.tN "backtrace" "Ljava/lang/Object;", .lays Bundle.tN Bundle.tN "backtrace" "Ljava/lang/Object;", .lays X Bundle.tN "backtrace" "Ljava/lang/Object;"]
def z_ownN (own : String) (ic : Nat) (X Y : String) (ix : Nat) (bx : ByteArray) (names : List String) : List Cond :=
  Bundle.throwableAtoms ++ (Bundle.throwableSAtoms ++ (Bundle.passSAtoms X Y ix bx ++ (Bundle.chainSAtoms Y names ++ z_tail own ic X)))
section ZN
variable {p : Program} {l : Launch} {e : Env} {R : Room} {s : State} {m : MethodId} {args : Array Value} {below : List Frame} {meth : Method} {c : Code} {T0 : State} {locs : List Loc} {cells slots : Nat}
set_option maxHeartbeats 2000000 in
theorem z_ctorN (X : Stand p l e R s m args below meth c T0 [] cells slots) (hexec : p.tables.exec = Jvm.exec) (htr : e.platform.stackTraces = false) {own cls sup : String} {names : List String} {ic ix : Nat} {bx : ByteArray}
    (hown : s.vm.findClass own = some m.cls) (hcls : Bundle.fit cls = true) (hsup : Bundle.fit sup = true) (hnames : ∀ n ∈ names, Bundle.fit n = true)
    (x0 : decode bx 0 = .ok (.aload_n 0, 1)) (x1 : decode bx 1 = .ok (.aload_n 1, 1)) (x2 : decode bx 2 = .ok (.invokespecial ix, 3)) (x5 : decode bx 5 = .ok (.return_, 1))
    (h : ∀ a ∈ z_ownN own ic cls sup ix bx names, a.before args s = true)
    {a : Addr} {cX : ClassId} {kX : Class} (hfX : s.vm.findClass cls = some cX) (hkX : s.vm.classes[cX]? = some kX) (hcell : T0.heap[a]? = some (freshCell cX kX)) (hnew : s.heap.size ≤ a)
    {msg : Value} (hmsg : msg.isRef = true) {g : JFrame} (hg : g.method = m) (hsize : g.locals.size = c.maxLocals) (hlocked : g.locked = none) (hentered : g.entered = []) {rest : List Value} (hstack : g.stack = msg :: .ref a :: .ref a :: rest)
    (hd6 : decode c.code g.pc = .ok (.invokespecial ic, 3)) (hd9 : decode c.code (g.pc + 3) = .ok (.athrow, 1)) (hout : ∀ x ∈ c.exceptionTable.toList, covers x (g.pc + 3) = false)
    (hRframes : names.length + 4 < R.frames) (hRlocals : 2 * g.monitorRoom + ((Value.ref a :: rest).map fun v => v.category).sum + (13 * (names.length + 2) + 42) ≤ R.locals) (hlocks : meth.locks = false) :
    ∃ U : State, Steps p.tables e below (T0.setTop g) U ∧ U.status = .running ∧ Ended U below (.threw a) ∧ s.WarmedH U.vm ∧ s.sameButNew ({ U with vm := s.vm } : State) [] cells slots ∧ ∃ ce : Cell, U.heap[a]? = some ce ∧ ce.cls = cX ∧ ce.vm = .none := by
  have hpf := X.admits.platform
  have howns : e.platform.frameOwnsMonitors = true := by rw [hpf]
  have hfin : e.platform.finalization = false := by rw [hpf]
  have hpl : e.platform.magicAccessors = ({} : Platform).magicAccessors := by rw [hpf]
  have ht : ∀ w ∈ z_tail own ic cls, w.holds args s none s [] = true := fun w hw => h w (List.mem_append_right _ (List.mem_append_right _ (List.mem_append_right _ (List.mem_append_right _ hw))))
  obtain ⟨T, Z0, L, -, Y⟩ := ThrowableC.of_atoms (args := args) howns hfin hpl (fun w hw => h w (List.mem_append_left _ hw))
  obtain ⟨Z, M, LZ, LM, hnZ⟩ := Init0T.ofS_atoms (args := args) hpl L Y (fun w hw => h w (List.mem_append_right _ (List.mem_append_left _ hw)))
  obtain ⟨P0, L0, hm0, hs0⟩ := PassC.ofS_atoms (args := args) (s := s) hpl (X := cls) (Y := sup) (Bundle.fit_spec hcls).1 (Bundle.fit_spec hsup).2 x0 x1 x2 x5 (fun w hw => h w (List.mem_append_right _ (List.mem_append_right _ (List.mem_append_left _ hw))))
  obtain ⟨P1, Ps, hlen, L1, hL, hP1m, hlink1, hlink⟩ := Bundle.chainS (args := args) hpl hnZ names sup hsup hnames (fun w hw => h w (List.mem_append_right _ (List.mem_append_right _ (List.mem_append_right _ (List.mem_append_left _ hw)))))
  have hsup1 : P0.sup = P1.m := Option.some.inj (hs0.symm.trans hP1m)
  have hc0 : s.vm.findClass cls = some P0.m.cls := findClass_of_methodNamed hm0
  cases Option.some.inj (hfX.symm.trans hc0)
  obtain ⟨c1, k1, hc1, hk, hord, -, -, hn6⟩ := Cond.instantiable_spec (ht (.instantiable cls 6) (by simp [z_tail]))
  cases Option.some.inj (hc1.symm.trans hc0)
  cases Option.some.inj (hkX.symm.trans hk)
  have sel : ∀ (y : MethodName) (mk : MethodId), s.methodNamed? y = some mk → y.cls ≠ "java/lang/invoke/MethodHandle" ∧ y.cls ≠ "java/lang/invoke/VarHandle" → (Cond.selects cls y y).holds args s none s [] = true → selectMethod e.platform s.vm P0.m.cls mk = .method mk := by
    intro y mk hy hne hse
    obtain ⟨c2, r2, m2, q1, q2, q3, q4, -⟩ := Cond.selects_spec hse
    cases Option.some.inj (q1.symm.trans hc0)
    cases Option.some.inj (q2.symm.trans (State.methodFound?_of_named hy hne))
    cases Option.some.inj (q3.symm.trans hy)
    rw [Launch.admits_selectMethod X.admits]
    exact q4
  obtain ⟨cS0, hcS0, hiss⟩ := Y.statics
  obtain ⟨u0, hu0⟩ := Cond.staticRefV Y.unassigned L.unassignedStatic L.statics hcS0 hiss (ht (.isRef (.static Bundle.tN "UNASSIGNED_STACK" Bundle.steD)) (by simp [z_tail]))
  obtain ⟨sen, hsen⟩ := Cond.staticRefV Y.sentinel L.sentinelStatic L.statics hcS0 hiss (ht (.isRef (.static Bundle.tN "SUPPRESSED_SENTINEL" Bundle.listD)) (by simp [z_tail]))
  obtain ⟨ci, ii, fB, b1, b2, b3, b4, -, hnB, htB, hffB⟩ := Cond.ownField (t := .object "java/lang/Object") Y.found L.cls (by decide +kernel) (ht (.fieldLink Bundle.tN 198 Bundle.tN "backtrace" "Ljava/lang/Object;") (by simp [z_tail])) (ht (.lays Bundle.tN Bundle.tN "backtrace" "Ljava/lang/Object;") (by simp [z_tail])) e.platform hpl
  obtain ⟨cS, hcS', heS, -, hkeep⟩ := X.same.2.2.2.2.2 T.aS cS0 hcS0
  have hcS : T0.heap[T.aS]? = some cS := hcS'
  have hkn : cS.vm ≠ .unknown := by
    rw [heS]
    intro hu
    rw [show cS0.vm = .unknown from hu] at hiss
    cases hiss
  have hneS : T.aS ≠ a := Nat.ne_of_lt (Nat.lt_of_lt_of_le (Array.getElem?_eq_some_iff.mp hcS0).1 hnew)
  obtain ⟨iM, hffM⟩ := Y.msg
  obtain ⟨tyC, dC, hdC, hdnC⟩ := Cond.laysAt hc0 hk Y.cause (ht (.lays cls Bundle.tN "cause" "Ljava/lang/Throwable;") (by simp [z_tail]))
  obtain ⟨tyS, dS, hdS, hdnS⟩ := Cond.laysAt hc0 hk Y.stack (ht (.lays cls Bundle.tN "stackTrace" Bundle.steD) (by simp [z_tail]))
  obtain ⟨tyP, dP, hdP, hdnP⟩ := Cond.laysAt hc0 hk Y.supp (ht (.lays cls Bundle.tN "suppressedExceptions" Bundle.listD) (by simp [z_tail]))
  obtain ⟨tyM, dM, hdM, hdnM⟩ := Cond.laysAt hc0 hk hffM (ht (.lays cls Bundle.tN "detailMessage" "Ljava/lang/String;") (by simp [z_tail]))
  obtain ⟨tyB, dB, hdB, hdnB⟩ := Cond.laysAt hc0 hk hffB (ht (.lays cls Bundle.tN "backtrace" "Ljava/lang/Object;") (by simp [z_tail]))
  have bC := Cond.laysApart hdB hdC hdnB hdnC (by rw [hnB, Y.causeName]; decide)
  have bS := Cond.laysApart hdB hdS hdnB hdnS (by rw [hnB, Y.stackName]; decide)
  have bP := Cond.laysApart hdB hdP hdnB hdnP (by rw [hnB, Y.suppName]; decide)
  have hskip : SkipFacts T e.platform s (fun u => u) u0 ((preparedCellV T.toThrowableT (freshCell P0.m.cls kX) a u0 sen).withEntry T0.cur) :=
    ⟨{ ci198 := ci, i198 := ii, fBack := fB }, ⟨b1, b2, b3, b4⟩, by
      have := fresh_default (c := P0.m.cls) tyB
      rw [htB] at this
      simpa [preparedCellV, Cell.setSlot, Cell.withEntry, Array.getElem?_setIfInBounds, bC, bS, bP, bC.symm, bS.symm, bP.symm, defaultValue] using this, fun _ _ => rfl⟩
  obtain ⟨tm, mC, cdC, kC, vm₁, hnC, -, -, -, -, -, -, -, hW₁, st1⟩ := Steps.initColdS (tb := p.tables) (e := e) (below := below) (s := s) (U := T0) X.here hexec X.warmed hpl hown (t := Bundle.initS cls) rfl rfl (Bundle.fit_spec hcls).2
    (ht (.methodLink own ic (Bundle.initS cls)) (by simp [z_tail])) (h (.instanceMethod (Bundle.initS cls)) (by simp [z_ownN, Bundle.passSAtoms])) (bytes := bx) (maxL := 2) (h (.code (Bundle.initS cls) bx 2 none) (by simp [z_ownN, Bundle.passSAtoms]))
    (f := g) hg (a := a) (msg := msg) (rest := .ref a :: rest) hstack hd6
  cases Option.some.inj (hnC.symm.trans hm0)
  have X₁ := X.noted hW₁
  obtain ⟨vm₂, X₂, st2⟩ := X₁.ctorMessageOffV hexec (g := { g with stack := .ref a :: rest }) hg hsize T L Z LZ M LM (P0 :: P1 :: Ps)
    (fun P hP => by rcases List.mem_cons.mp hP with rfl | hP; exact L0; rcases List.mem_cons.mp hP with rfl | hP; exact L1; exact hL P hP) ⟨hsup1, hlink1, hlink⟩ (u0 := u0) (sen := sen) (self := a) hmsg (cell := freshCell P0.m.cls kX) (cellS := cS)
    hcell (fun _ => by simp) (by simp) rfl rfl (sel Bundle.tFill0 T.fill0 Y.fill0 (by decide) (ht (.selects cls Bundle.tFill0 Bundle.tFill0) (by simp [z_tail]))) (sel Bundle.tFill T.fill Y.fill (by decide) (ht (.selects cls Bundle.tFill Bundle.tFill) (by simp [z_tail]))) hcS hneS hkn (by rw [hkeep _ (fun q => by cases q)]; exact hu0) (by rw [hkeep _ (fun q => by cases q)]; exact hsen)
    (Takes.of_laid hk hord tyC (by rw [Y.causeType]; rfl)) (Takes.of_laid hk hord tyS (by rw [Y.stackType]; exact fits_refV_array _ u0)) (Takes.of_laid hk hord tyP (by rw [Y.suppType]; exact fits_refV_object _ sen))
    (Takes.of_laid hk hord tyM (by rw [Y.msgType]; exact fits_refV_object _ ⟨msg, hmsg⟩)) Y.objLocals hskip htr [] hd6
    (by simp only [List.length_cons, hlen]; omega) (by simp only [List.length_cons, hlen]; exact hRlocals)
  obtain ⟨hwalk, hrun, hended, hWU, hsame⟩ := X₂.athrowLeaves hexec (g := { g with stack := .ref a :: rest, pc := g.pc + 3 }) hg hlocked hentered hout (a := a) (rest := rest) rfl hd9
  have hlt : a < ((T0.setVm vm₁).setVm vm₂).heap.size := (Array.getElem?_eq_some_iff.mp hcell).1
  have hU := heapAt_setCell_self (s := (T0.setVm vm₁).setVm vm₂) (plainBareV T.toThrowableT (freshCell P0.m.cls kX) a u0 sen msg) hlt
  refine ⟨_, st1 _ (fun acts => ?_), hrun, hended, hWU, hsame.weaken (fun y hy hlt' => ?_) (Nat.le_refl _) (Nat.le_refl _), _, hU, rfl, rfl⟩
  · rw [doInvoke_state]
    exact st2 _ hwalk
  · exfalso
    have hb : y.base = a := by
      rw [List.nil_append] at hy
      simp only [List.mem_cons, List.not_mem_nil, or_false] at hy
      rcases hy with rfl | rfl | rfl | rfl | rfl <;> rfl
    rw [hb] at hlt'
    exact Nat.not_lt.mpr hnew hlt'
end ZN
section ZTN
variable {p : Program} {l : Launch} {e : Env} {R : Room} {s : State} {m : MethodId} {args : Array Value} {below : List Frame} {meth : Method} {c : Code} {Q : State → Prop}
variable {cc : ByteArray} {pc : Nat} {ls : Array Slot}
theorem z_throwN {Qc : Array Value → State → Outcome → State → Prop} (hexec : p.tables.exec = Jvm.exec) (hb : c.code = cc) (hml : c.maxLocals = ls.size) (hno : c.exceptionTable.toList = []) (hfl : l.flags = flags0) {X Y : String} {inew istr ic ix : Nat} {bx : ByteArray} {names : List String}
    (hown : s.vm.findClass "PageLayout" = some m.cls) (hfit : Bundle.fit X = true) (hfitY : Bundle.fit Y = true) (hnames : ∀ n ∈ names, Bundle.fit n = true)
    (x0 : decode bx 0 = .ok (.aload_n 0, 1)) (x1 : decode bx 1 = .ok (.aload_n 1, 1)) (x2 : decode bx 2 = .ok (.invokespecial ix, 3)) (x5 : decode bx 5 = .ok (.return_, 1)) (hat : ∀ a ∈ z_ownN "PageLayout" ic X Y ix bx names, a.before args s = true)
    (hcl : (Cond.classLink "PageLayout" inew X).before args s = true) (hini : (Cond.initialized X).before args s = true) (hstr : z_str istr s)
    (d0 : decode cc pc = .ok (.new inew, 3)) (d3 : decode cc (pc + 3) = .ok (.dup, 1)) (d4 : decode cc (pc + 4) = .ok (.ldc istr, 2)) (d6 : decode cc (pc + 6) = .ok (.invokespecial ic, 3)) (d9 : decode cc (pc + 9) = .ok (.athrow, 1))
    (hRf : names.length + 4 < R.frames) (hRl : 13 * (names.length + 2) + 43 ≤ R.locals) (hRc : 1 ≤ R.cells) (hRs : 6 ≤ R.slots) (hlocks : meth.locks = false)
    (hq : ∀ (t : State) (ce : Cell), s.WarmedH t.vm → (∀ q : Nat, q < s.heap.size → t.heap[q]? = s.heap[q]?) → s.heap.size ≤ t.heap.size → t.heap[s.heap.size]? = some ce → s.vm.findClass X = some ce.cls → ce.vm = .none → Qc args s (.threw s.heap.size) t) :
    W p l e R s m args below meth c s.heap [] 0 0 (MQT below Qc args s 1 6) (F0 m pc ls []) := by
  refine W.newc hexec hb hown hcl (hat (.instantiable X 6) (by simp [z_ownN, z_tail])) hini rfl d0 (by omega) (by omega) (fun cC kC h1 h2 h3 h4 => ?_)
  refine lv_dup hexec hb d3 rfl ?_
  refine z_ldc hexec hb hown hstr d4 (fun a => ?_)
  intro T hT X1
  have hcell : T.heap[s.heap.size]? = some (freshCell cC kC) := by rw [hT]; simp [freshCell]
  obtain ⟨U, hsteps, hrun, hend, hW, hsame, ce, hce, hcc, hcv⟩ := z_ctorN X1 hexec (Launch.traces_off hfl X1.admits) (own := "PageLayout") (cls := X) (sup := Y) (names := names) (ic := ic) hown hfit hfitY hnames x0 x1 x2 x5 hat h1 h2 hcell (Nat.le_refl _) (msg := .ref a) rfl
    (g := F0 m (pc + 6) ls [.ref a, .ref s.heap.size, .ref s.heap.size]) rfl hml.symm rfl rfl (rest := []) rfl (by rw [hb]; exact d6) (by rw [hb]; exact d9) (by rw [hno]; exact fun x hx => by cases hx) hRf (by simp [JFrame.monitorRoom, Value.category]; omega) hlocks
  have hold : ∀ q : Nat, q < s.heap.size → U.heap[q]? = s.heap[q]? := by
    intro q hq'
    obtain ⟨cell, hcq⟩ : ∃ cell, s.heap[q]? = some cell := ⟨_, Array.getElem?_eq_getElem hq'⟩
    obtain ⟨c', hc', he', hs', hk'⟩ := hsame.2.2.2.2.2 q cell hcq
    have hc2 : U.heap[q]? = some c' := hc'
    rw [hc2, hcq]
    have : c'.slots = cell.slots := by
      apply Array.ext_getElem?
      intro i
      exact hk' i (fun h => by cases h)
    rw [he', this]
  exact ⟨U, hsteps, _, hrun, hend, hq U ce hW hold hsame.2.1 hce (by rw [hcc]; exact h1) hcv, ⟨_, rfl⟩, hW, hsame⟩
end ZTN
