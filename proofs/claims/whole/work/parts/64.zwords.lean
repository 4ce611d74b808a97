/-! The words that throws stand on, and what of the start they need. My own. -/
def z_ISE : String := "java/lang/IllegalStateException"
def z_IAE : String := "java/lang/IllegalArgumentException"
def z_NSE : String := "java/util/NoSuchElementException"
def z_RTE : String := "java/lang/RuntimeException"
def z_up : List String := ["java/lang/RuntimeException", "java/lang/Exception"]
def z_upN : List String := ["java/lang/Exception"]
def z_atI : List Cond := Bundle.ownAtoms "PageLayout" 59 z_ISE z_up
def z_atA : List Cond := Bundle.ownAtoms "PageLayout" 79 z_IAE z_up
def z_atN : List Cond := z_ownN "PageLayout" 70 z_NSE z_RTE 13 prog_18_method_4_code z_upN
def z_more : List Cond := [.classLink "PageLayout" 55 z_ISE, .classLink "PageLayout" 66 z_NSE, .classLink "PageLayout" 75 z_IAE, .initialized z_ISE, .initialized z_NSE, .initialized z_IAE, .castable z_ISE z_ISE, .castable z_NSE z_NSE, .castable z_IAE z_IAE, .classLink "PageLayoutLaw" 13 z_ISE, .classLink "PageLayoutLaw" 19 z_NSE, .classLink "PageLayoutLaw" 21 z_IAE]
def tx0 : List Cond := z_atI ++ (z_atA ++ (z_atN ++ z_more))
def z_isT (w : Cond) : Bool := w.onTables && w.keeps
def tx : List Cond := tx0.filter z_isT
def z_4 : List Cond := [.laysStatic Bundle.tN "UNASSIGNED_STACK" Bundle.steD, .laysStatic Bundle.tN "SUPPRESSED_SENTINEL" Bundle.listD, .isRef (.static Bundle.tN "UNASSIGNED_STACK" Bundle.steD), .isRef (.static Bundle.tN "SUPPRESSED_SENTINEL" Bundle.listD)]
set_option maxRecDepth 100000 in
theorem tx_in : ∀ w ∈ tx, w ∈ lw_tbl := by decide +kernel
theorem tx_ok : ∀ w ∈ tx, (w.onTables && w.keeps) = true := fun w h => (List.mem_filter.mp h).2
set_option maxRecDepth 100000 in
theorem tx_or : ∀ w ∈ tx0, z_isT w = true ∨ w ∈ z_4 ∨ (w.faceAtom && w.onTables) = true := by decide +kernel
def z_F : List Cond := tx0.filter fun w => w.faceAtom && w.onTables
set_option maxRecDepth 100000 in
theorem z_F_in : ∀ w ∈ z_F, w ∈ lw_tbl := by decide +kernel
def gx : List Cond := gt ++ tx
theorem gx_in : ∀ w ∈ gx, w ∈ lw_tbl := List.forall_mem_append.mpr ⟨gt_in, tx_in⟩
theorem gx_ok : ∀ w ∈ gx, (w.onTables && w.keeps) = true := List.forall_mem_append.mpr ⟨gt_ok, tx_ok⟩
theorem gx_good : GoodIn gx gx := fun w h => ⟨h, Or.inl (gx_ok w h)⟩
theorem gx_gt {w : Cond} (h : w ∈ gt) : w ∈ gx := List.mem_append_left _ h
theorem gx_V {own C : String} {idx : Nat} {y : MethodName} {b : ByteArray} {n : Nat} {r : Option FieldType} {ws : List Cond} (hws : ∀ w ∈ ws, w ∈ gx) (h1 : Cond.methodLink own idx y ∈ gx) (h2 : Cond.instanceMethod y ∈ gx) (h3 : Cond.selects C y y ∈ gx) (h4 : Cond.initialized C ∈ gx) (h5 : Cond.code y b n r ∈ gx) : GoodIn gx (wsV own idx C y (Cond.code y b n r :: ws)) := by
  intro w hw
  unfold wsV at hw
  rcases List.mem_append.mp hw with h | h
  · simp only [List.mem_cons, List.not_mem_nil, or_false] at h
    rcases h with rfl | rfl | rfl | rfl
    · exact gx_good _ h1
    · exact gx_good _ h2
    · exact gx_good _ h3
    · exact gx_good _ h4
  · rcases List.mem_cons.mp h with rfl | h
    · exact gx_good _ h5
    · exact gx_good _ (hws w h)
/-- the two tables of shape: what may be asked of each -/
def z_sf (j : Nat) : Int := if j = 2 then -5000 else if j = 10 then 1 else 0
def z_st (j : Nat) : Int := if j < 5 then 5000 else if j = 5 then 3 else if j < 10 then 1 else 2000
def z_Tab (U : State) : Prop := ∃ tf tt : Nat, va_Z "PageLayout" "SHAPE_FROM" "[I" (.ref tf) (fun _ => False) U U.heap ∧ va_T .int tf 11 (fun j => .int (iI (z_sf j))) (fun _ => False) U U.heap ∧ va_Z "PageLayout" "SHAPE_TO" "[I" (.ref tt) (fun _ => False) U U.heap ∧ va_T .int tt 11 (fun j => .int (iI (z_st j))) (fun _ => False) U U.heap
def z_strs : List Nat := [57, 68, 77, 80, 86, 95, 109, 114, 120, 141, 143, 149, 154]
/-- what throws need of the state -/
def z_T (U : State) : Prop := ((∀ w ∈ z_4, w.before #[] U = true) ∧ ∀ w ∈ z_F, w.before #[] U = true) ∧ (∀ i ∈ z_strs, z_str i U) ∧ (va_Nc z_IAE z_NSE U ∧ va_Nc z_ISE z_NSE U ∧ va_Nc z_ISE z_IAE U) ∧ z_Tab U
theorem z_ls {O f d : String} {s U : State} (h : (Cond.laysStatic O f d).before #[] s = true) (hW : s.WarmedH U.vm) (hh : ∀ q : Nat, q < s.heap.size → U.heap[q]? = s.heap[q]?) : (Cond.laysStatic O f d).before #[] U = true := by
  obtain ⟨c, k, i, fd, a, cell, hc, hf, hst, hsta, hcell, hiss, hcls, hlt, hty⟩ := Cond.laysStatic_spec h
  obtain ⟨k', hf', he⟩ := State.fieldFound?_setVm (vm' := U.vm) hW.alike hf
  exact Cond.laysStatic_of (s := U) (by rw [hW.alike.findClass]; exact hc) hf' hst (by rw [he]; exact hsta) (by rw [hh a (Array.getElem?_eq_some_iff.mp hcell).1]; exact hcell) hiss hcls hlt (by rw [he]; exact hty)
theorem z_ir {O f d : String} {s U : State} (hl : (Cond.laysStatic O f d).before #[] s = true) (h : (Cond.isRef (.static O f d)).before #[] s = true) (hW : s.WarmedH U.vm) (hh : ∀ q : Nat, q < s.heap.size → U.heap[q]? = s.heap[q]?) : (Cond.isRef (.static O f d)).before #[] U = true := by
  obtain ⟨c, k, i, fd, a, cell, hc, hf, hst, hsta, hcell, hiss, hcls, hlt, hty⟩ := Cond.laysStatic_spec hl
  obtain ⟨k', hf', he⟩ := State.fieldFound?_setVm (vm' := U.vm) hW.alike hf
  have hf2 : U.fieldFound? O f d = some (c, k', i, fd) := hf'
  have hsta' : k'.statics = some a := by rw [he]; exact hsta
  have hcell' : U.heap[a]? = some cell := by rw [hh a (Array.getElem?_eq_some_iff.mp hcell).1]; exact hcell
  have hv : cell.slots[fd.slot]? = some cell.slots[fd.slot] := Array.getElem?_eq_getElem hlt
  have e1 : (Term.static O f d).eval #[] s none [] s = some cell.slots[fd.slot] := by simp [Term.eval, State.fieldNamed?, hf, hst, hsta, hcell, hiss, hv]
  have e2 : (Term.static O f d).eval #[] U none [] U = some cell.slots[fd.slot] := by simp [Term.eval, State.fieldNamed?, hf2, hst, hsta', hcell', hiss, hv]
  simp only [Cond.before, Cond.holds, Cond.value, e1] at h
  simp only [Cond.before, Cond.holds, Cond.value, e2]
  exact h
theorem z_face {w : Cond} {args : Array Value} {s U : State} (hw : (w.faceAtom && w.onTables) = true) (hW : s.WarmedH U.vm) (h : w.before #[] s = true) : w.before args U = true := by
  simp only [Bool.and_eq_true] at hw
  have h1 := Cond.faceAtom_setVm hW.alike w hw.1 h
  rw [Cond.onTables_vm (A' := args) (U' := U) U.vm w hw.2, State.setVm_self] at h1
  exact h1
theorem z_T.kept {s U : State} (h : z_T s) (hW : s.WarmedH U.vm) (hh : ∀ q : Nat, q < s.heap.size → U.heap[q]? = s.heap[q]?) : z_T U := by
  obtain ⟨⟨h1, hF⟩, h2, ⟨n1, n2, n3⟩, tf, tt, f1, f2, f3, f4⟩ := h
  have hk : ∀ a : Nat, a < s.heap.size → ¬ False → U.heap[a]? = s.heap[a]? := fun a ha _ => hh a ha
  refine ⟨⟨?_, fun w hw => z_face (List.mem_filter.mp hw).2 hW (hF w hw)⟩, fun i hi => (h2 i hi).kept hW, ⟨n1.moved hW.alike, n2.moved hW.alike, n3.moved hW.alike⟩, tf, tt, (f1.kept hk).moved hW.alike, (f2.kept hk).moved hW.alike, (f3.kept hk).moved hW.alike, (f4.kept hk).moved hW.alike⟩
  intro w hw
  simp only [z_4, List.mem_cons, List.not_mem_nil, or_false] at hw
  rcases hw with rfl | rfl | rfl | rfl
  · exact z_ls (h1 _ (by simp [z_4])) hW hh
  · exact z_ls (h1 _ (by simp [z_4])) hW hh
  · exact z_ir (h1 (.laysStatic Bundle.tN "UNASSIGNED_STACK" Bundle.steD) (by simp [z_4])) (h1 _ (by simp [z_4])) hW hh
  · exact z_ir (h1 (.laysStatic Bundle.tN "SUPPRESSED_SENTINEL" Bundle.listD) (by simp [z_4])) (h1 _ (by simp [z_4])) hW hh
theorem z_T.at {args : Array Value} {s : State} (h : z_T s) (htx : ∀ w ∈ tx, w.before args s = true) : ∀ w ∈ tx0, w.before args s = true := by
  intro w hw
  rcases tx_or w hw with h1 | h1 | h1
  · exact htx w (List.mem_filter.mpr ⟨hw, h1⟩)
  rotate_left
  · exact z_face h1 (State.WarmedH.refl s) (h.1.2 w (List.mem_filter.mpr ⟨hw, h1⟩))
  · have h2 := h.1.1 w h1
    simp only [z_4, List.mem_cons, List.not_mem_nil, or_false] at h1
    rcases h1 with rfl | rfl | rfl | rfl
    · exact h2
    · exact h2
    · exact h2
    · exact h2
/-- what a method that throws starts from -/
def rt_B (D : va_G) (cl : List vw_C) (tys : List (ClassId × FieldType)) (w : va_W) (U : State) : Prop := (va_P D cl w U.heap ∧ va_K D cl tys U) ∧ z_T U
theorem rt_blind {D : va_G} {cl : List vw_C} {tys : List (ClassId × FieldType)} {av : List Value} {w : va_W} : FrameBlind (va_Pc av (rt_B D cl tys w)) := fun a U g mk q => by
  obtain ⟨q0, ⟨qP, qK⟩, qT⟩ := q
  exact ⟨q0, ⟨qP, va_K.moved (u := U) (U := U.calling g mk a) (Vm.Alike.refl U.vm) qK⟩, qT.kept (U := U.calling g mk a) (State.WarmedH.refl U) (fun _ _ => rfl)⟩
section ZTX
variable {p : Program} {l : Launch} {e : Env} {R : Room} {s : State} {m : MethodId} {args : Array Value} {below : List Frame} {meth : Method} {c : Code} {cc : ByteArray} {pc : Nat} {ls : Array Slot}
theorem z_qthr {X : String} (t : State) (ce : Cell) (h2 : ∀ q : Nat, q < s.heap.size → t.heap[q]? = s.heap[q]?) (h3 : s.heap.size ≤ t.heap.size) (h4 : t.heap[s.heap.size]? = some ce) (h5 : s.vm.findClass X = some ce.cls) (h6 : ce.vm = .none) : q_thr X args s (.threw s.heap.size) t := ⟨rfl, h2, h3, ce, h4, h5, h6⟩
/-- the three throws of the class -/
theorem z_thI (hexec : p.tables.exec = Jvm.exec) (hb : c.code = cc) (hml : c.maxLocals = ls.size) (hno : c.exceptionTable.toList = []) (hfl : l.flags = flags0) (hown : s.vm.findClass "PageLayout" = some m.cls) (htx : ∀ w ∈ tx, w.before args s = true) (hT : z_T s) {istr : Nat} (his : istr ∈ z_strs)
    (d0 : decode cc pc = .ok (.new 55, 3)) (d3 : decode cc (pc + 3) = .ok (.dup, 1)) (d4 : decode cc (pc + 4) = .ok (.ldc istr, 2)) (d6 : decode cc (pc + 6) = .ok (.invokespecial 59, 3)) (d9 : decode cc (pc + 9) = .ok (.athrow, 1)) (hlocks : meth.locks = false) (hR : 6 ≤ R.frames ∧ 82 ≤ R.locals ∧ 1 ≤ R.cells ∧ 6 ≤ R.slots) :
    W p l e R s m args below meth c s.heap [] 0 0 (MQT below (q_thr z_ISE) args s 1 6) (F0 m pc ls []) := by
  have h := hT.at htx
  exact z_throw (names := z_up) hexec hb hml hno hfl hown (by decide +kernel) (by decide +kernel) (fun w hw => h w (List.mem_append_left _ hw)) (h _ (by simp [tx0, z_more])) (h _ (by simp [tx0, z_more])) (hT.2.1 _ his) d0 d3 d4 d6 d9 (by show 2 + 3 < _; omega) (by show 13 * (2 + 1) + 43 ≤ _; omega) hR.2.2.1 hR.2.2.2 hlocks (fun t ce h1 h2 h3 h4 h5 h6 => z_qthr t ce h2 h3 h4 h5 h6)
theorem z_thA (hexec : p.tables.exec = Jvm.exec) (hb : c.code = cc) (hml : c.maxLocals = ls.size) (hno : c.exceptionTable.toList = []) (hfl : l.flags = flags0) (hown : s.vm.findClass "PageLayout" = some m.cls) (htx : ∀ w ∈ tx, w.before args s = true) (hT : z_T s) {istr : Nat} (his : istr ∈ z_strs)
    (d0 : decode cc pc = .ok (.new 75, 3)) (d3 : decode cc (pc + 3) = .ok (.dup, 1)) (d4 : decode cc (pc + 4) = .ok (.ldc istr, 2)) (d6 : decode cc (pc + 6) = .ok (.invokespecial 79, 3)) (d9 : decode cc (pc + 9) = .ok (.athrow, 1)) (hlocks : meth.locks = false) (hR : 6 ≤ R.frames ∧ 82 ≤ R.locals ∧ 1 ≤ R.cells ∧ 6 ≤ R.slots) :
    W p l e R s m args below meth c s.heap [] 0 0 (MQT below (q_thr z_IAE) args s 1 6) (F0 m pc ls []) := by
  have h := hT.at htx
  exact z_throw (names := z_up) hexec hb hml hno hfl hown (by decide +kernel) (by decide +kernel) (fun w hw => h w (List.mem_append_right _ (List.mem_append_left _ hw))) (h _ (by simp [tx0, z_more])) (h _ (by simp [tx0, z_more])) (hT.2.1 _ his) d0 d3 d4 d6 d9 (by show 2 + 3 < _; omega) (by show 13 * (2 + 1) + 43 ≤ _; omega) hR.2.2.1 hR.2.2.2 hlocks (fun t ce h1 h2 h3 h4 h5 h6 => z_qthr t ce h2 h3 h4 h5 h6)
theorem z_thN (hexec : p.tables.exec = Jvm.exec) (hb : c.code = cc) (hml : c.maxLocals = ls.size) (hno : c.exceptionTable.toList = []) (hfl : l.flags = flags0) (hown : s.vm.findClass "PageLayout" = some m.cls) (htx : ∀ w ∈ tx, w.before args s = true) (hT : z_T s) {istr : Nat} (his : istr ∈ z_strs)
    (d0 : decode cc pc = .ok (.new 66, 3)) (d3 : decode cc (pc + 3) = .ok (.dup, 1)) (d4 : decode cc (pc + 4) = .ok (.ldc istr, 2)) (d6 : decode cc (pc + 6) = .ok (.invokespecial 70, 3)) (d9 : decode cc (pc + 9) = .ok (.athrow, 1)) (hlocks : meth.locks = false) (hR : 6 ≤ R.frames ∧ 82 ≤ R.locals ∧ 1 ≤ R.cells ∧ 6 ≤ R.slots) :
    W p l e R s m args below meth c s.heap [] 0 0 (MQT below (q_thr z_NSE) args s 1 6) (F0 m pc ls []) := by
  have h := hT.at htx
  exact z_throwN (names := z_upN) (ix := 13) (bx := prog_18_method_4_code) (Y := z_RTE) hexec hb hml hno hfl hown (by decide +kernel) (by decide +kernel) (by decide +kernel) (by decide +kernel) (by decide +kernel) (by decide +kernel) (by decide +kernel) (fun w hw => h w (List.mem_append_right _ (List.mem_append_right _ (List.mem_append_left _ hw)))) (h _ (by simp [tx0, z_more])) (h _ (by simp [tx0, z_more])) (hT.2.1 _ his) d0 d3 d4 d6 d9 (by show 1 + 4 < _; omega) (by show 13 * (1 + 2) + 43 ≤ _; omega) hR.2.2.1 hR.2.2.2 hlocks (fun t ce h1 h2 h3 h4 h5 h6 => z_qthr t ce h2 h3 h4 h5 h6)
end ZTX
