/-! Throws: a contract of a call that ends in a throw, the row of the throw itself, the row of a call whose throw is caught. My own. -/
def FrT (first : State) (o : Outcome) (t : State) (k n : Nat) : Prop := (∃ x, o = .threw x) ∧ first.WarmedH t.vm ∧ first.sameButNew ({ t with vm := first.vm } : State) [] k n
/-- a contract of a call that throws: nothing old changes -/
def MetT (l : Launch) (y : MethodName) (ws : List Cond) (rm : Room) (Pc : Array Value → State → Prop) (Qc : Array Value → State → Outcome → State → Prop) (mc ms : Nat) : Prop :=
  MetFree l y (headSpec ws rm) Pc (fun _ _ _ _ _ => True) (fun a st o t => Qc a st o t ∧ FrT st o t mc ms)
def MQT (below : List Frame) (Qc : Array Value → State → Outcome → State → Prop) (a : Array Value) (s : State) (mc ms : Nat) : State → Prop := fun t =>
  ∃ o, t.status = .running ∧ Ended t below o ∧ Qc a s o t ∧ FrT s o t mc ms
theorem MetT.ofW {l : Launch} {y : MethodName} {ws ws' : List Cond} {rm : Room} {Pc : Array Value → State → Prop} {Qc : Array Value → State → Outcome → State → Prop} {mc ms : Nat} {cc : ByteArray} {maxL : Nat} {ret : Option FieldType}
    (hy : plainName y.cls = true) (hw : ws = Cond.code y cc maxL ret :: ws')
    (body : ∀ p e s m args below meth c s₁, BodyLoose p l y (headSpec ws rm) cc maxL ret e s m args below meth c s₁ → c.maxLocals = maxL → c.exceptionTable.toList = [] → Pc args s →
      W p l e (headSpec ws rm).room s m args below meth c s.heap [] 0 0 (MQT below Qc args s mc ms) (entryFrame m args maxL)) : MetT l y ws rm Pc Qc mc ms := by
  refine MetFree.of_bodyS (code := cc) (maxLocals := maxL) (ret := ret) hy ?_ ?_
  · intro args s m h hn
    obtain ⟨meth, c, h1, h2, h3, h4, h5, h6, -, -⟩ := Cond.code_spec hn (atoms_spec (ws := ws) h _ (by rw [hw]; exact List.mem_cons_self))
    exact ⟨meth, c, h1, h2, h3, h4, h5, h6⟩
  · intro p e s m args below meth c s₁ B hml hP _
    have hh0 : s₁.heap = s.heap := by rw [B.state]; rfl
    have hno := B.noHandlers (atoms_spec (ws := ws) B.pre _ (by rw [hw]; exact List.mem_cons_self))
    obtain ⟨t, a1, o, b1, b2, b3⟩ := body p e s m args below meth c s₁ B hml (by simpa using hno) hP s₁ hh0 (Stand.of_body B)
    exact ⟨t, o, a1, b1, b2, ⟨b3.1, b3.2⟩⟩
/-- a String constant of PageLayout that has been resolved -/
def z_str (i : Nat) (U : State) : Prop := ∃ (cid : ClassId) (k : Class) (cf : ClassFile) (j a : Nat), U.vm.findClass "PageLayout" = some cid ∧ U.vm.classes[cid]? = some k ∧ k.cf = some cf ∧ cf.constantPool[i]? = some (.string j) ∧ k.resolved[i]? = some (some (.string a))
theorem z_str.kept {i : Nat} {s U : State} (h : z_str i s) (hW : s.WarmedH U.vm) : z_str i U := by
  obtain ⟨cid, k, cf, j, a, h1, h2, h3, h4, h5⟩ := h
  obtain ⟨k', hk', he⟩ := hW.alike.2.2 _ _ h2
  refine ⟨cid, k', cf, j, a, by rw [hW.alike.findClass]; exact h1, hk', by rw [he]; exact h3, h4, ?_⟩
  rcases hW.entry h2 hk' i with h | ⟨h, -⟩
  · rw [h]; exact h5
  · rw [h5] at h; cases h
theorem z_str.of {i : Nat} {text : String} {args : Array Value} {s : State} {cid : ClassId} (hc : s.vm.findClass "PageLayout" = some cid) (h : (Cond.stringRef "PageLayout" i text).before args s = true) : z_str i s := by
  obtain ⟨k, cf, j, a, hk, hcf, hcp, -, hr, -⟩ := Cond.stringRef_spec hc h
  exact ⟨cid, k, cf, j, a, hc, hk, hcf, hcp, hr⟩
section ZTH
variable {p : Program} {l : Launch} {e : Env} {R : Room} {s : State} {m : MethodId} {args : Array Value} {below : List Frame} {meth : Method} {c : Code} {H : Heap} {locs : List Loc} {cells slots : Nat} {Q : State → Prop}
variable {cc : ByteArray} {pc : Nat} {ls : Array Slot} {rest : List Value}
theorem z_ldc (hexec : p.tables.exec = Jvm.exec) (hb : c.code = cc) {i : Nat} (hown : s.vm.findClass "PageLayout" = some m.cls) (hz : z_str i s) (hdg : decode cc pc = .ok (.ldc i, 2))
    (kk : ∀ a : Nat, W p l e R s m args below meth c H locs cells slots Q (F0 m (pc + 2) ls (.ref a :: rest))) : W p l e R s m args below meth c H locs cells slots Q (F0 m pc ls rest) := by
  intro T hT X
  obtain ⟨cid, k, cf, j, a, h1, h2, h3, h4, h5⟩ := hz.kept X.warmed
  rw [X.warmed.alike.findClass, hown] at h1
  cases h1
  obtain ⟨t, a1, b1⟩ := kk a T hT X
  refine ⟨t, ?_, b1⟩
  jvm_step X.here [hexec, hb, hdg, ldc.wp_string (e := e) (s := T) (f := F0 m pc ls rest) X.here.top h2 h3 h4 h5]
  exact a1
/-- new, dup, the text, the constructor, the throw -/
theorem z_throw {Qc : Array Value → State → Outcome → State → Prop} (hexec : p.tables.exec = Jvm.exec) (hb : c.code = cc) (hml : c.maxLocals = ls.size) (hno : c.exceptionTable.toList = []) (hfl : l.flags = flags0) {X : String} {inew istr ic : Nat} {names : List String}
    (hown : s.vm.findClass "PageLayout" = some m.cls) (hfit : Bundle.fit X = true) (hnames : ∀ n ∈ names, Bundle.fit n = true) (hat : ∀ a ∈ Bundle.ownAtoms "PageLayout" ic X names, a.before args s = true)
    (hcl : (Cond.classLink "PageLayout" inew X).before args s = true) (hini : (Cond.initialized X).before args s = true) (hstr : z_str istr s)
    (d0 : decode cc pc = .ok (.new inew, 3)) (d3 : decode cc (pc + 3) = .ok (.dup, 1)) (d4 : decode cc (pc + 4) = .ok (.ldc istr, 2)) (d6 : decode cc (pc + 6) = .ok (.invokespecial ic, 3)) (d9 : decode cc (pc + 9) = .ok (.athrow, 1))
    (hRf : names.length + 3 < R.frames) (hRl : 13 * (names.length + 1) + 43 ≤ R.locals) (hRc : 1 ≤ R.cells) (hRs : 6 ≤ R.slots) (hlocks : meth.locks = false)
    (hq : ∀ (t : State) (ce : Cell), s.WarmedH t.vm → (∀ q : Nat, q < s.heap.size → t.heap[q]? = s.heap[q]?) → s.heap.size ≤ t.heap.size → t.heap[s.heap.size]? = some ce → s.vm.findClass X = some ce.cls → ce.vm = .none → Qc args s (.threw s.heap.size) t) :
    W p l e R s m args below meth c s.heap [] 0 0 (MQT below Qc args s 1 6) (F0 m pc ls []) := by
  refine W.newc hexec hb hown hcl (hat (.instantiable X 6) (by simp [Bundle.ownAtoms])) hini rfl d0 (by omega) (by omega) (fun cC kC h1 h2 h3 h4 => ?_)
  refine lv_dup hexec hb d3 rfl ?_
  refine z_ldc hexec hb hown hstr d4 (fun a => ?_)
  intro T hT X1
  have hcell : T.heap[s.heap.size]? = some (freshCell cC kC) := by rw [hT]; simp [freshCell]
  obtain ⟨U, hsteps, hrun, hend, hW, hsame, ce, hce, K⟩ := X1.ctorThrowS hexec (Launch.traces_off hfl X1.admits) (own := "PageLayout") (cls := X) (names := names) (ic := ic) hown hfit hnames hat (fun y hy => by cases hy) h1 h2 hcell (Nat.le_refl _) (msg := .ref a) rfl
    (g := F0 m (pc + 6) ls [.ref a, .ref s.heap.size, .ref s.heap.size]) rfl hml.symm rfl rfl (rest := []) rfl (by rw [hb]; exact d6) (by rw [hb]; exact d9) (by rw [hno]; exact fun x hx => by cases hx) hRf (by simp [JFrame.monitorRoom, Value.category]; omega)
  have hold : ∀ q : Nat, q < s.heap.size → U.heap[q]? = s.heap[q]? := by
    intro q hq'
    obtain ⟨cell, hcq⟩ : ∃ cell, s.heap[q]? = some cell := ⟨_, Array.getElem?_eq_getElem hq'⟩
    obtain ⟨c', hc', he', hs', hk'⟩ := hsame.2.2.2.2.2 q cell hcq
    have hc2 : U.heap[q]? = some c' := hc'
    rw [hc2, hcq]
    have : c'.slots = cell.slots := by
      apply Array.ext_getElem?
      intro i
      exact hk' i (fun h => by cases h)
    rw [he', this]
  exact ⟨U, hsteps, _, hrun, hend, hq U ce hW hold hsame.2.1 hce K.cls K.vm, ⟨_, rfl⟩, hW, hsame⟩
end ZTH
