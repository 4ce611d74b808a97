/-! A call whose throw is caught in the caller: the catch types may be cold. My own. -/
section ZGO
variable {e : Env} {S s : State} {f : JFrame} {a : Addr} {cell : Cell}
/-- one entry of the table that names a class: it is resolved, and takes the object or not -/
theorem z_go1 {x : ExceptionTableEntry} {t : List ExceptionTableEntry} {c : ClassId} (hx : covers x f.pc = true) (h0 : x.catchType ≠ 0) (hl : S.vm.ClassLinks e.platform f.method.cls x.catchType c) (hcell : S.heap[a]? = some cell) (hobj : ∀ k, cell.vm ≠ .statics k)
    (hk : ∃ k, S.vm.classes[cell.cls]? = some k) (hc : ∃ k, S.vm.classes[c]? = some k) {v : Bool} (hfit : S.vm.assignable cell.cls c = v) (Q : Handler → Pre) (E : CtlPost) (d : Bool) (acts : List Action) :
    Sem.wp (findHandler.go f a (x :: t)) Q E e d acts S ↔ (if v = true then Q (.found x.handlerPc) d acts (S.setVm (S.vm.noted f.method.cls x.catchType (.cls c))) else Sem.wp (findHandler.go f a t) Q E e d acts (S.setVm (S.vm.noted f.method.cls x.catchType (.cls c)))) := by
  simp only [covers] at hx
  obtain ⟨ha, ht⟩ := (resolveClass_links e.toSetting hl).op (op := VmOp.resolveClass f.method.cls x.catchType) rfl
  have hal : S.vm.Alike (S.vm.noted f.method.cls x.catchType (.cls c)) := (Vm.Alike.refl S.vm).noted _ _ _
  obtain ⟨k1, hk1⟩ := hk
  obtain ⟨k2, hk2⟩ := hc
  obtain ⟨k1', hk1', -⟩ := hal.2.2 _ _ hk1
  obtain ⟨k2', hk2', -⟩ := hal.2.2 _ _ hk2
  have hfit' : (S.vm.noted f.method.cls x.catchType (.cls c)).assignable cell.cls c = v := by rw [hal.assignable]; exact hfit
  cases v <;> simp [findHandler.go, hx, h0, ha, ht, hcell, hobj, hk1', hk2', hfit', VmOp.dirties, VmOp.acts]
/-- the whole search: entries that do not take it, then one that does -/
theorem z_go {own X : String} {args : Array Value} (hown : s.vm.findClass own = some f.method.cls) (hpl : e.platform.magicAccessors = ({} : Platform).magicAccessors) (hcX : s.vm.findClass X = some cell.cls) (hobj : ∀ k, cell.vm ≠ .statics k)
    (hcast : (Cond.castable X X).before args s = true) (x : ExceptionTableEntry) (post : List ExceptionTableEntry) (hx : covers x f.pc = true) (h0 : x.catchType ≠ 0) (hlx : (Cond.classLink own x.catchType X).before args s = true) :
    ∀ (ps : List (ExceptionTableEntry × String)) (S : State), s.WarmedH S.vm → S.heap[a]? = some cell → (∀ q ∈ ps, covers q.1 f.pc = true ∧ q.1.catchType ≠ 0 ∧ (Cond.classLink own q.1.catchType q.2).before args s = true ∧ va_Nc X q.2 s) →
      ∃ vm' : Vm, s.WarmedH vm' ∧ ∀ (Q : Handler → Pre) (E : CtlPost) (d : Bool) (acts : List Action), Sem.wp (findHandler.go f a (ps.map (fun q => q.1) ++ x :: post)) Q E e d acts S ↔ Q (.found x.handlerPc) d acts (S.setVm vm') := by
  intro ps
  induction ps with
  | nil =>
    intro S hW hcell _
    obtain ⟨c3, c4, hc3, hc4, hasg⟩ := Cond.castable_spec hcast
    cases hc3.symm.trans hcX
    cases hc4.symm.trans hcX
    obtain ⟨c', hc', hcl⟩ := Cond.classLink_spec hown hlx e.platform hpl
    cases hcX.symm.trans hc'
    obtain ⟨dk, _, _, kt, hd, _, _, _, _, hkt, _, hopen⟩ := hcl.here
    obtain ⟨kt', hkt', -⟩ := hW.alike.2.2 _ _ hkt
    refine ⟨_, hW.noted hd hopen (State.rightAt_cls hcl), fun Q E d acts => ?_⟩
    have h := z_go1 (t := post) hx h0 (hW.classLinks hcl) hcell hobj ⟨kt', hkt'⟩ ⟨kt', hkt'⟩ (v := true) (by rw [hW.alike.assignable]; exact hasg) Q E d acts
    rw [if_pos rfl] at h
    exact h
  | cons q ps ih =>
    intro S hW hcell hps
    obtain ⟨hq1, hq2, hq3, hq4⟩ := hps q List.mem_cons_self
    obtain ⟨c3, c4, hc3, hc4, hasg⟩ := hq4
    cases hc3.symm.trans hcX
    obtain ⟨c', hc', hcl⟩ := Cond.classLink_spec hown hq3 e.platform hpl
    cases hc4.symm.trans hc'
    obtain ⟨dk, _, _, kt, hd, _, _, _, _, hkt, _, hopen⟩ := hcl.here
    obtain ⟨kt', hkt', -⟩ := hW.alike.2.2 _ _ hkt
    obtain ⟨kx, hkx⟩ := Vm.classAt_of_findClass hcX
    obtain ⟨kx', hkx', -⟩ := hW.alike.2.2 _ _ hkx
    have hW1 : s.WarmedH (S.vm.noted f.method.cls q.1.catchType (.cls c4)) := hW.noted hd hopen (State.rightAt_cls hcl)
    obtain ⟨vm', hW', h⟩ := ih (S.setVm (S.vm.noted f.method.cls q.1.catchType (.cls c4))) hW1 hcell (fun z hz => hps z (List.mem_cons_of_mem _ hz))
    refine ⟨vm', hW', fun Q E d acts => ?_⟩
    have h1 := z_go1 (t := ps.map (fun q => q.1) ++ x :: post) hq1 hq2 (hW.classLinks hcl) hcell hobj ⟨kx', hkx'⟩ ⟨kt', hkt'⟩ (v := false) (by rw [hW.alike.assignable]; exact hasg) Q E d acts
    rw [if_neg (by decide)] at h1
    exact h1.trans (h Q E d acts)
end ZGO
/-- what a call that throws X leaves -/
def q_thr (X : String) : Array Value → State → Outcome → State → Prop := fun _ st o t => o = .threw st.heap.size ∧ (∀ q : Nat, q < st.heap.size → t.heap[q]? = st.heap[q]?) ∧ st.heap.size ≤ t.heap.size ∧ ∃ ce : Cell, t.heap[st.heap.size]? = some ce ∧ st.vm.findClass X = some ce.cls ∧ ce.vm = .none
section ZTRY
variable {p : Program} {l : Launch} {e : Env} {R : Room} {s : State} {m : MethodId} {args : Array Value} {below : List Frame} {meth : Method} {c : Code} {H : Heap} {locs : List Loc} {cells slots : Nat} {Q : State → Prop}
variable {cc bytes : ByteArray} {pc nL maxL index n mc ms : Nat} {ls : Array Slot} {rest As st0 : List Value} {Ts ws : List Cond} {own C : String} {y : MethodName} {ret : Option FieldType} {rm : Room} {Pc : Array Value → State → Prop} {b : Addr}
theorem z_tryV {X : String} (S : CallFix p m c cc nL s args Ts own) (hM : MetT l y ws rm Pc (q_thr X) mc ms) (cw : CallW R s args own C index y bytes maxL ret ws rm mc ms n) (hp : PreV s H C b Pc As) (hn : As.length = n) (hsize : ls.size = nL) (hst : st0 = As.reverse ++ .ref b :: rest) (hW : (rest.map fun v => v.category).sum ≤ 8)
    (hdg : decode cc pc = .ok (.invokevirtual index, 3)) (hf : cells + mc ≤ R.cells ∧ slots + ms ≤ R.slots)
    (ps : List (ExceptionTableEntry × String)) (x : ExceptionTableEntry) (post : List ExceptionTableEntry) (hsplit : c.exceptionTable.toList = ps.map (fun q => q.1) ++ x :: post)
    (hps : ∀ q ∈ ps, covers q.1 pc = true ∧ q.1.catchType ≠ 0 ∧ (Cond.classLink own q.1.catchType q.2).before args s = true ∧ va_Nc X q.2 s) (hx : covers x pc = true) (h0 : x.catchType ≠ 0) (hlx : (Cond.classLink own x.catchType X).before args s = true) (hcast : (Cond.castable X X).before args s = true)
    (kk : ∀ H1 : Heap, H.size ≤ H1.size → (∀ q : Nat, q < H.size → H1[q]? = H[q]?) → W p l e R s m args below meth c H1 locs (cells + mc) (slots + ms) Q (F0 m x.handlerPc ls [.ref H.size])) : W p l e R s m args below meth c H locs cells slots Q (F0 m pc ls st0) := by
  intro T hT X0
  obtain ⟨⟨hrc, hrs, hfr, hlo, hws, hcw, hcode, hini, hy, hlen, hl⟩, hin, hse⟩ := cw
  obtain ⟨hxx, hb, hml, ho, -⟩ := S
  obtain ⟨hbl, ⟨cellB, hcB, hoB, hclB⟩, hPc⟩ := hp
  obtain ⟨mk, methM, hnamed, hmethM, hstM, habM⟩ := Cond.instanceMethod_spec hin
  obtain ⟨methM', cM, hmethM', hcM, -, hlM, -, -, -, hsigM⟩ := Cond.code_spec hnamed hcode
  cases hmethM.symm.trans hmethM'
  obtain ⟨c2, r2, m2, q1, q2, q3, q4, kP, hkP, hkPi⟩ := Cond.selects_spec hse
  cases hclB.symm.trans q1
  cases (State.methodFound?_of_named hnamed hy).symm.trans q2
  cases hnamed.symm.trans q3
  have hselP : selectMethod e.platform s.vm cellB.cls mk = .method mk := by rw [Launch.admits_selectMethod X0.admits]; exact q4
  have hpl : e.platform.magicAccessors = ({} : Platform).magicAccessors := by rw [X0.admits.platform]
  obtain ⟨vm₁, X₁, hstep₁⟩ := X0.invokevirtual hxx ho hl hnamed hmethM hstM hkP hkPi hy (a := b) (cell := cellB) (by rw [hT]; exact hcB) (fun z h => by rw [h] at hoB; cases hoB) hselP hmethM habM hkP hkPi (g := F0 m pc ls st0) rfl (argsL := As) (rest := rest) (hn.trans (hlen _ hsigM)) hst (by rw [hb]; exact hdg)
  have hnU := X₁.named hnamed
  have hW1 := X₁.warmed
  obtain ⟨methY, cY, hmY, hcY, -, hlY, -, -, -, -⟩ := Cond.code_spec hnU (hws _ hcw (Value.ref b :: As).toArray _ hW1)
  obtain ⟨kY, hkY, -⟩ := className_of_methodNamed hnU
  have hinitY : kY.init = .initialized := Cond.initialized_spec (findClass_of_methodNamed hnU) hkY (word_at (a' := (Value.ref b :: As).toArray) hW1 (Or.inl (by first | rfl | simp [Cond.onTables, Cond.keeps, Cond.steady])) hini)
  have hAt : At (T.setVm vm₁) (F0 m pc ls rest).method c below := X₁.here
  have happ : (headSpec ws rm).appliesLoose y e.platform ((T.setVm vm₁).calling (F0 m pc ls rest) mk (Value.ref b :: As).toArray) = true :=
    Spec.appliesLoose_calling (g := F0 m pc ls rest) hAt (by rw [hb]; exact hdg) hnU hkY hinitY
      (X₁.room_calling (g := F0 m pc ls rest) (R' := (headSpec ws rm).room) (hsize.trans hml.symm) hmY hcY hfr (by rw [hlY]; have : JFrame.monitorRoom (F0 m pc ls rest) = 0 := rfl; rw [this]; show 2 * 0 + (rest.map fun v => v.category).sum + (maxL + 11) + rm.locals ≤ R.locals; omega) (by show cells + rm.cells ≤ _; rw [hrc]; exact hf.1) (by show slots + rm.slots ≤ _; rw [hrs]; exact hf.2))
      (atoms_intro fun w hw => hws w hw _ _ hW1)
  obtain ⟨g₀, hr⟩ := X₁.frames_eq
  have hfrm : ((T.setVm vm₁).setTop (F0 m pc ls rest)).frames = .java (F0 m pc ls rest) :: below := by
    rw [State.frames_setTop' _ X₁.here.top, hr]; rfl
  obtain ⟨o, t, hsteps, hrun, hend, hq, ⟨y0, hy0⟩, hWt, hsame⟩ := Steps.callFree hM p X₁.admits X₁.cas X₁.clock (acts := []) (mid := [.java (F0 m pc ls rest)]) (below := below) hfrm happ (hbl _ _ _ _ (hPc (T.setVm vm₁) hT hW1)) trivial
  obtain ⟨ho1, hold, hsz, ce, hce, hcls, hcv⟩ := hq
  subst ho1
  rw [hfrm] at hend
  obtain ⟨T', X', hW2, hs2, ht⟩ := X₁.outOfThrown (g := F0 m pc ls rest) rfl (mk := mk) (a := (Value.ref b :: As).toArray) (L := []) hend hWt hsame
  have hTT : t.heap = T'.heap := by rw [ht]; simp [State.pushFrame, State.setFrames, State.setTop, State.modifyTopJava]
  have hst0 : (((T.setVm vm₁).setTop (F0 m pc ls rest)).pushFrame (.invoking mk (Value.ref b :: As).toArray)).heap = H := by
    rw [← hT]; simp [State.pushFrame, State.setFrames, State.setTop, State.modifyTopJava]
  have hvm0 : (((T.setVm vm₁).setTop (F0 m pc ls rest)).pushFrame (.invoking mk (Value.ref b :: As).toArray)).vm = vm₁ := by
    simp [State.pushFrame, State.setFrames, State.setTop, State.modifyTopJava]
  rw [hst0] at hold hsz hce ht
  rw [hvm0] at hcls
  rw [hTT] at hold hsz hce
  have hcls' : s.vm.findClass X = some ce.cls := by rw [← hW1.alike.findClass]; exact hcls
  have hNvm : ((T'.setTop (F0 m pc ls rest)).pushFrame (.throwing H.size)).vm = T'.vm := Stand.throwing_vm _ _ _
  have hNheap : ((T'.setTop (F0 m pc ls rest)).pushFrame (.throwing H.size)).heap = T'.heap := Stand.throwing_heap _ _ _
  obtain ⟨vm', hW', hgo⟩ := z_go (e := e) (s := s) (f := F0 m pc ls rest) (a := H.size) (cell := ce) ho hpl hcls' (VmData.ne_statics_of (by rw [hcv]; rfl)) hcast x post hx h0 hlx ps ((T'.setTop (F0 m pc ls rest)).pushFrame (.throwing H.size)) (by rw [hNvm]; exact X'.warmed) (by rw [hNheap]; exact hce) hps
  have X2 := X'.noted hW'
  rw [List.append_nil] at X2
  obtain ⟨t2, a2, b2⟩ := kk T'.heap hsz hold (T'.setVm vm') rfl X2
  refine ⟨t2, hstep₁ _ (fun acts => ?_), b2⟩
  rw [doInvoke_state]
  refine hsteps.trans ?_
  rw [ht]
  obtain ⟨hg1, hw1⟩ := X'.here.throwing (g := F0 m pc ls rest) H.size
  refine Steps.head hg1 hw1 ?_
  have hstep : (stepThrowing e ((T'.setTop (F0 m pc ls rest)).pushFrame (.throwing H.size)) H.size (.java (F0 m pc ls rest) :: below)).Is ((((T'.setTop (F0 m pc ls rest)).pushFrame (.throwing H.size)).setVm vm').setFrames (.java { (F0 m pc ls rest) with pc := x.handlerPc, stack := [.ref H.size] } :: below)) [] := by
    simp only [stepThrowing, searchFrame, vmDo]
    generalize hr2 : Sem.go _ e false [] ((T'.setTop (F0 m pc ls rest)).pushFrame (.throwing H.size)) = res
    have hfind : ∀ (Q : Handler → Pre) (E : CtlPost) (d : Bool) (acts : List Action), Sem.wp (findHandler (F0 m pc ls rest) H.size) Q E e d acts ((T'.setTop (F0 m pc ls rest)).pushFrame (.throwing H.size)) ↔ Q (.found x.handlerPc) d acts (((T'.setTop (F0 m pc ls rest)).pushFrame (.throwing H.size)).setVm vm') := by
      intro Q E d acts
      rw [Jvm.W.findHandler_eq (meth := meth) (code := c) (by rw [hNvm]; exact X'.method') X'.code, hsplit]
      exact hgo Q E d acts
    obtain ⟨as, rfl, ha⟩ := Sem.eq_ok_of hr2 (a := Handler.found x.handlerPc) (s' := ((T'.setTop (F0 m pc ls rest)).pushFrame (.throwing H.size)).setVm vm') (acts' := []) (by simp [hfind _ _ _ _])
    exact ⟨rfl, ha⟩
  obtain ⟨g₁, hr1⟩ := X'.frames_eq
  have hr1' : (T'.setVm vm').frames = .java g₁ :: below := hr1
  rw [stepThread_throwing (frames_entered X'.here.top _), hr1, List.tail_cons, hstep.1]
  rw [State.setTop_of_frames _ hr1'] at a2
  have hEq : (((T'.setTop (F0 m pc ls rest)).pushFrame (.throwing H.size)).setVm vm').setFrames (.java { (F0 m pc ls rest) with pc := x.handlerPc, stack := [.ref H.size] } :: below) = (T'.setVm vm').setFrames (.java { (F0 m pc ls rest) with pc := x.handlerPc, stack := [.ref H.size] } :: below) := by
    rw [State.pushFrame, State.setTop_of_frames _ hr1]
    show (((T'.setFrames _).setFrames _).setVm vm').setFrames _ = _
    rw [State.setFrames_setFrames]
    show ((T'.setVm vm').setFrames _).setFrames _ = _
    rw [State.setFrames_setFrames]
  rw [hEq]
  exact a2
end ZTRY
