/-! multianewarray of two dimensions: a row of my own. -/
def mu_c (cA : ClassId) (n h i : Nat) : Cell := arrV cA n (fun j => if j < i then .ref (h + 1 + j) else .null)
/-- the state behind i of the inner arrays -/
def mu_s (T : State) (cA cI : ClassId) (n m h : Nat) : Nat → State
  | 0 => T.pushCell (mu_c cA n h 0)
  | i + 1 => ((mu_s T cA cI n m h i).pushCell (arrV cI m (fun _ => .int 0))).setCell h (mu_c cA n h (i + 1))
theorem mu_c_0 (cA : ClassId) (n h : Nat) : mu_c cA n h 0 = { cls := cA, slots := Array.replicate n .null, vm := .none } := by
  rw [arrV_new]
  unfold mu_c
  congr 1
theorem mu_c_s (cA : ClassId) (n h i : Nat) : (mu_c cA n h i).setSlot i (.ref (h + 1 + i)) = mu_c cA n h (i + 1) := by
  unfold mu_c
  rw [arrV_store]
  congr 1
  funext j
  unfold updV
  dsimp only
  by_cases h1 : j = i
  · rw [if_pos h1, if_pos (by omega), h1]
  · rw [if_neg h1]
    by_cases h2 : j < i
    · rw [if_pos h2, if_pos (by omega)]
    · rw [if_neg h2, if_neg (by omega)]
theorem mu_heap (T : State) (cA cI : ClassId) (n m h : Nat) (hh : T.heap.size = h) : ∀ i, (mu_s T cA cI n m h i).heap.size = h + 1 + i ∧ (mu_s T cA cI n m h i).heap[h]? = some (mu_c cA n h i) ∧ (∀ j, j < i → (mu_s T cA cI n m h i).heap[h + 1 + j]? = some (arrV cI m (fun _ => .int 0))) ∧ (∀ q : Nat, q < h → (mu_s T cA cI n m h i).heap[q]? = T.heap[q]?) ∧ (mu_s T cA cI n m h i).vm = T.vm ∧ (mu_s T cA cI n m h i).slotsUsed = T.slotsUsed + n + i * m := by
  intro i
  induction i with
  | zero =>
    refine ⟨?_, ?_, fun j hj => by omega, fun q hq => ?_, rfl, ?_⟩
    · show (T.heap.push _).size = _
      rw [Array.size_push, hh]
    · show (T.heap.push _)[h]? = _
      rw [← hh, Array.getElem?_push_size]
    · exact State.heap_pushCell_of_lt _ _ (Nat.lt_of_lt_of_eq hq hh.symm)
    · show T.slotsUsed + (mu_c cA n h 0).slots.size = _
      unfold mu_c
      rw [arrV_size]
      omega
  | succ i ih =>
    obtain ⟨h1, h2, h3, h4, h5, h6⟩ := ih
    have hs : ((mu_s T cA cI n m h i).pushCell (arrV cI m (fun _ => .int 0))).heap.size = h + 1 + (i + 1) := by
      show ((mu_s T cA cI n m h i).heap.push _).size = _
      rw [Array.size_push, h1]
      omega
    refine ⟨?_, ?_, fun j hj => ?_, fun q hq => ?_, h5, ?_⟩
    · show (((mu_s T cA cI n m h i).pushCell _).setCell h _).heap.size = _
      rw [size_setCell, hs]
    · exact heapAt_setCell_self _ (Nat.lt_of_lt_of_eq (show h < h + 1 + (i + 1) by omega) hs.symm)
    · show (((mu_s T cA cI n m h i).pushCell _).setCell h _).heap[h + 1 + j]? = _
      rw [heapAt_setCell_ne _ (Nat.ne_of_lt (show h < h + 1 + j by omega))]
      by_cases hj2 : j < i
      · rw [State.heap_pushCell_of_lt _ _ (Nat.lt_of_lt_of_eq (show h + 1 + j < h + 1 + i by omega) h1.symm)]
        exact h3 j hj2
      · rw [show h + 1 + j = (mu_s T cA cI n m h i).heap.size by rw [h1]; omega]
        show ((mu_s T cA cI n m h i).heap.push _)[_]? = _
        rw [Array.getElem?_push_size]
    · show (((mu_s T cA cI n m h i).pushCell _).setCell h _).heap[q]? = _
      rw [heapAt_setCell_ne _ (Nat.ne_of_gt hq), State.heap_pushCell_of_lt _ _ (Nat.lt_of_lt_of_eq (show q < h + 1 + i by omega) h1.symm)]
      exact h4 q hq
    · show (mu_s T cA cI n m h i).slotsUsed + (arrV cI m (fun _ => .int 0)).slots.size = _
      rw [arrV_size, h6, Nat.succ_mul]
      omega
theorem mu_top (T : State) (g : JFrame) (cA cI : ClassId) (n m h : Nat) : ∀ i, mu_s (T.setTop g) cA cI n m h i = (mu_s T cA cI n m h i).setTop g := by
  intro i
  induction i with
  | zero => rfl
  | succ i ih =>
    show ((mu_s (T.setTop g) cA cI n m h i).pushCell _).setCell h _ = _
    rw [ih]
    simp only [State.pushCell_setTop, State.setCell_setTop]
    rfl
section MU
variable {p : Program} {l : Launch} {e : Env} {R : Room} {s : State} {m : MethodId} {args : Array Value} {below : List Frame} {meth : Method} {c : Code} {locs : List Loc} {cells slots : Nat}
theorem mu_stand {T : State} (X : Stand p l e R s m args below meth c T locs cells slots) (cA cI : ClassId) (n k h : Nat) (hh : T.heap.size = h) : ∀ i, ∃ L : List Loc, (∀ q ∈ L, q.base = h) ∧ Stand p l e R s m args below meth c (mu_s T cA cI n k h i) (locs ++ L) (cells + 1 + i) (slots + n + i * k) := by
  intro i
  induction i with
  | zero =>
    refine ⟨[], ⟨fun q hq => absurd hq List.not_mem_nil, ?_⟩⟩
    have h9 := X.pushed (mu_c cA n h 0)
    have hz : (mu_c cA n h 0).slots.size = n := by unfold mu_c; exact arrV_size _ _ _
    rw [hz] at h9
    rw [List.append_nil, Nat.zero_mul]
    exact h9
  | succ i ih =>
    obtain ⟨L, hL, hX⟩ := ih
    obtain ⟨h1, h2, -, -, -, -⟩ := mu_heap T cA cI n k h hh i
    have h3 := hX.pushed (arrV cI k (fun _ => .int 0))
    rw [arrV_size] at h3
    have h4 := h3.stored (a := h) (cell := mu_c cA n h i) (by rw [State.heap_pushCell_of_lt _ _ (Nat.lt_of_lt_of_eq (show h < h + 1 + i by omega) h1.symm)]; exact h2) i (.ref (h + 1 + i))
    rw [mu_c_s] at h4
    refine ⟨L ++ [⟨h, i⟩], fun q hq => ?_, ?_⟩
    · rcases List.mem_append.mp hq with hq | hq
      · exact hL q hq
      · rw [List.mem_singleton.mp hq]
    · rw [← List.append_assoc, show slots + n + (i + 1) * k = slots + n + i * k + k by rw [Nat.succ_mul]; omega]
      exact h4
end MU
section MUW
variable {E : CtlPost} {e : Env} {d : Bool} {acts : List Action} {S : State}
theorem mu_wp {cA cI c0 : ClassId} {kA kI : Class} {n m : Int32} (hkA : S.vm.classes[cA]? = some kA) (hkindA : kA.kind = .array cI (.array .int)) (hkI : S.vm.classes[cI]? = some kI) (hkindI : kI.kind = .array c0 .int) (hn : ¬ n < 0) (hm : ¬ m < 0)
    (hl1 : ¬ n.toNatClampNeg > e.platform.arrayLengthLimit) (hh1 : ¬ n.toNatClampNeg * componentBytes (.array .int) > e.platform.maxHeapBytes) (hl2 : ¬ m.toNatClampNeg > e.platform.arrayLengthLimit) (hh2 : ¬ m.toNatClampNeg * componentBytes .int > e.platform.maxHeapBytes)
    (hc : S.heap.size + 1 + n.toNatClampNeg ≤ e.platform.maxCells) (hs : S.slotsUsed + n.toNatClampNeg + n.toNatClampNeg * m.toNatClampNeg ≤ e.platform.maxSlots)
    {Q : Addr → Pre} (hq : ∀ d' acts', Q S.heap.size d' acts' (mu_s S cA cI n.toNatClampNeg m.toNatClampNeg S.heap.size n.toNatClampNeg)) : Sem.wp (Op.multianewarray.make cA [n, m]) Q E e d acts S := by
  have hfind : ([m].find? (· < 0)) = none := by simp [hm]
  rw [Op.multianewarray.make]
  simp only [Sem.wp_bind', W.ite, hn, if_false, Sem.wp_pure', W.theClass, hkA, hkindA, Option.some.injEq, exists_eq_left']
  refine W.newArray_of hkA hkindA hl1 hh1 (by omega) (by have := Nat.zero_le (n.toNatClampNeg * m.toNatClampNeg); omega) rfl (fun acts1 => ?_)
  simp only [hfind]
  rw [ite_self, Sem.wp_bind', Std.Legacy.Range.forIn_eq_forIn_range']
  have hsz : ([:n.toNatClampNeg] : Std.Legacy.Range).size = n.toNatClampNeg := by simp [Std.Legacy.Range.size]
  rw [hsz]
  refine wp_forIn_inv (fun rest S' => ∃ i, i ≤ n.toNatClampNeg ∧ rest = List.range' i (n.toNatClampNeg - i) 1 ∧ S' = mu_s S cA cI n.toNatClampNeg m.toNatClampNeg S.heap.size i) _ _ ⟨0, Nat.zero_le _, rfl, ?_⟩ ?_ ?_
  · show _ = S.pushCell (mu_c cA _ _ 0)
    rw [mu_c_0]
  · rintro x rest S' d' acts' Q' ⟨i, hi, hl, rfl⟩ hnext
    have hlt : i < n.toNatClampNeg := by
      by_cases h : i < n.toNatClampNeg
      · exact h
      · rw [show n.toNatClampNeg - i = 0 by omega] at hl; simp at hl
    obtain ⟨rfl, hrest⟩ : x = i ∧ rest = List.range' (i + 1) (n.toNatClampNeg - (i + 1)) 1 := by
      rw [show n.toNatClampNeg - i = (n.toNatClampNeg - (i + 1)) + 1 by omega, List.range'_succ] at hl
      exact ⟨(List.cons.inj hl).1, (List.cons.inj hl).2⟩
    obtain ⟨f1, f2, f3, f4, f5, f6⟩ := mu_heap S cA cI n.toNatClampNeg m.toNatClampNeg S.heap.size rfl x
    have hmul : x * m.toNatClampNeg + m.toNatClampNeg ≤ n.toNatClampNeg * m.toNatClampNeg := by
      have := Nat.mul_le_mul_right m.toNatClampNeg (show x + 1 ≤ n.toNatClampNeg from hlt)
      rwa [Nat.succ_mul] at this
    simp only [Sem.wp_bind']
    rw [Op.multianewarray.make]
    simp only [Sem.wp_bind', W.ite, hm, if_false, Sem.wp_pure', W.theClass, f5, hkI, hkindI, Option.some.injEq, exists_eq_left']
    refine W.newArray_of (by rw [f5]; exact hkI) hkindI hl2 hh2 (by rw [f1]; omega) (by rw [f6]; omega) rfl (fun acts2 => ?_)
    have hc2 : (mu_c cA n.toNatClampNeg S.heap.size x).cls = cA := rfl
    have hv2 : (mu_c cA n.toNatClampNeg S.heap.size x).vm = .none := rfl
    have hs2 : (mu_c cA n.toNatClampNeg S.heap.size x).slots.size = n.toNatClampNeg := arrV_size _ _ _
    simp only [Sem.wp_bind', W.writeLoc, Sem.wp_pure']
    refine ⟨mu_c cA n.toNatClampNeg S.heap.size x, by rw [State.heap_pushCell_of_lt _ _ (Nat.lt_of_lt_of_eq (show S.heap.size < S.heap.size + 1 + x by omega) f1.symm)]; exact f2, by rw [hv2]; simp, by rw [hs2]; exact hlt, ?_, hnext _ _ _ ⟨x + 1, hlt, hrest, ?_⟩⟩
    · rw [hc2, hv2]
      simp [State.fitsSlot, State.slotType?, f5, hkA, hkindA, fits]
    · rw [f1, mu_c_s]
      show _ = ((mu_s S cA cI _ _ _ x).pushCell (arrV cI _ (fun _ => .int 0))).setCell _ _
      rw [← arrV_new]
      rfl
  · rintro S' d' acts' ⟨i, hi, hl, rfl⟩
    have hiN : i = n.toNatClampNeg := by
      by_cases h : i < n.toNatClampNeg
      · rw [show n.toNatClampNeg - i = (n.toNatClampNeg - (i + 1)) + 1 by omega, List.range'_succ] at hl; cases hl
      · omega
    subst hiN
    simp only [Sem.wp_pure']
    exact hq _ _
end MUW
