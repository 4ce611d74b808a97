/-! Rows of the constructors. My own. -/
/-- what the making of arrays and of nest mates needs of the state -/
def z_A (cs : pg_C) (U : State) : Prop := (va_AO "PageLayout$Paragraph" U ∧ (U.vm.findClass "[[I" = some cs.2.1 ∧ ∃ (kA kI : Class) (c0 : ClassId), U.vm.classes[cs.2.1]? = some kA ∧ kA.kind = .array cs.1 (.array .int) ∧ U.vm.classes[cs.1]? = some kI ∧ kI.kind = .array c0 .int)) ∧ va_Nw (.methodLinkNest "PageLayout$Text" 27 ⟨"PageLayout$Paragraph", "<init>", "()V"⟩ "PageLayout") U ∧ va_Nw (.methodLinkNest "PageLayout" 18 ⟨"PageLayout$Sheet", "<init>", "()V"⟩ "PageLayout") U
theorem z_A.kept {cs : pg_C} {s U : State} (h : z_A cs s) (hW : s.WarmedH U.vm) : z_A cs U := by
  obtain ⟨⟨h1, h2, kA, kI, c0, a1, a2, a3, a4⟩, h3, h4⟩ := h
  obtain ⟨kA', b1, e1⟩ := hW.alike.2.2 _ _ a1
  obtain ⟨kI', b3, e3⟩ := hW.alike.2.2 _ _ a3
  exact ⟨⟨h1.moved hW.alike, by rw [hW.alike.findClass]; exact h2, kA', kI', c0, b1, by rw [e1]; exact a2, b3, by rw [e3]; exact a4⟩, h3.warmM hW, h4.warmM hW⟩
def kz_B (D : va_G) (cl : List vw_C) (tys : List (ClassId × FieldType)) (w : va_W) (sz : Nat) (cs : pg_C) (U : State) : Prop := rw_B D cl tys w sz U ∧ z_A cs U
theorem kz_blind {D : va_G} {cl : List vw_C} {tys : List (ClassId × FieldType)} {av : List Value} {w : va_W} {sz : Nat} {cs : pg_C} : FrameBlind (va_Pc av (kz_B D cl tys w sz cs)) := fun a U g mk q => by
  obtain ⟨q0, ⟨q1, qP, qK, qD⟩, qT⟩ := q
  exact ⟨q0, ⟨q1, qP, va_K.moved (u := U) (U := U.calling g mk a) (Vm.Alike.refl U.vm) qK, qD⟩, qT.kept (U := U.calling g mk a) (State.WarmedH.refl U)⟩
def k_E {S : Type} (D : va_G) (cl : List vw_C) (w : va_W) (w' : S → va_W) (sz : Nat) (u : S) (t : State) : Prop := va_P D cl (w' u) t.heap ∧ va_D (va_A w sz) (w' u)
theorem z_right {w1 w2 : va_W} {k : Nat} {q : Nat × va_E} (h : w2[k]? = some q) : (w1 ++ w2)[w1.length + k]? = some q := by
  rw [List.getElem?_append_right (by omega), Nat.add_sub_cancel_left]
  exact h
theorem z_left {w1 w2 : va_W} {k : Nat} {q : Nat × va_E} (h : w1[k]? = some q) : (w1 ++ w2)[k]? = some q := by
  rw [List.getElem?_append_left (List.getElem?_eq_some_iff.mp h).1]
  exact h
theorem z_subP {D : va_G} {cl : List vw_C} {w1 w2 : va_W} {H : Heap} (hP : va_P D cl (w1 ++ w2) H) : va_P D cl w1 H ∧ va_P D cl w2 H := ⟨fun k q hk => hP k q (z_left hk), fun k q hk => hP _ q (z_right hk)⟩
theorem z_subD {A : Nat → Prop} {w1 w2 : va_W} (hD : va_D A (w1 ++ w2)) : va_D A w1 ∧ va_D A w2 ∧ dj w1 w2 := by
  refine ⟨⟨fun i j p q h1 h2 e => hD.1 i j p q (z_left h1) (z_left h2) e, fun k q h => hD.2 k q (z_left h)⟩, ⟨fun i j p q h1 h2 e => ?_, fun k q h => hD.2 _ q (z_right h)⟩, fun i j p q h1 h2 e => ?_⟩
  · have := hD.1 _ _ p q (z_right h1) (z_right h2) e
    omega
  · have := hD.1 _ _ p q (z_left h1) (z_right h2) e
    have := (List.getElem?_eq_some_iff.mp h1).1
    omega
theorem z_join {D : va_G} {cl : List vw_C} {A : Nat → Prop} {w1 w2 w2' : va_W} {H H1 : Heap} (hP : va_P D cl (w1 ++ w2) H) (hD : va_D A (w1 ++ w2)) (hk : ∀ q : Nat, q < H.size → ¬ va_A w2 H.size q → H1[q]? = H[q]?) (hF : ∀ q, va_A w2 H.size q → A q) (hP1 : va_P D cl w2' H1) (hD1 : va_D (va_A w2 H.size) w2') : va_P D cl (w1 ++ w2') H1 ∧ va_D A (w1 ++ w2') := by
  obtain ⟨p1, p2⟩ := z_subP hP
  obtain ⟨d1, d2, d3⟩ := z_subD hD
  refine ⟨(z_keep p1 d3.symm hk).app hP1, va_D.app d1 (hD1.weaken (fun _ q _ h => hF q.1 h)) (fun i j p q h1 h2 e => ?_)⟩
  have hlt := (p1 i p h1).lt
  rcases hD1.2 j q h2 with ⟨k, en, h⟩ | h
  · exact d3 i k p (q.1, en) h1 h e
  · omega
/-- the outer array and the inner ones -/
def mu_w (h : Nat) (cA cI : ClassId) (n m : Nat) : va_W := (h, .inl (cA, n, .inr (.inr (.inr (.inr (fun j => some (h + 1 + j))))))) :: (List.range n).map (fun j => (h + 1 + j, .inl (cI, m, .inl (fun _ => iI 0))))
theorem mu_w_at {h : Nat} {cA cI : ClassId} {n m k : Nat} {q : Nat × va_E} (hk : (mu_w h cA cI n m)[k]? = some q) : q.1 = h + k ∧ k ≤ n ∧ ((k = 0 ∧ q.2 = .inl (cA, n, .inr (.inr (.inr (.inr (fun j => some (h + 1 + j))))))) ∨ (0 < k ∧ q.2 = .inl (cI, m, .inl (fun _ => iI 0)))) := by
  unfold mu_w at hk
  cases k with
  | zero =>
    simp at hk
    rw [← hk]
    exact ⟨rfl, Nat.zero_le _, Or.inl ⟨rfl, rfl⟩⟩
  | succ k =>
    have hlt : k < n := by
      have := (List.getElem?_eq_some_iff.mp hk).1
      simp at this
      exact this
    simp [hlt] at hk
    rw [← hk]
    exact ⟨by show h + 1 + k = h + (k + 1); omega, by omega, Or.inr ⟨by omega, rfl⟩⟩
theorem mu_topJ (T : State) (cA cI : ClassId) (n m h : Nat) : ∀ i, (mu_s T cA cI n m h i).topJava? = T.topJava? := by
  intro i
  induction i with
  | zero => rfl
  | succ i ih => exact ih
section MUS
variable {E : CtlPost} {e : Env} {d : Bool} {acts : List Action} {S : State} {g : JFrame}
theorem mu_sem {cA cI c0 : ClassId} {kA kI : Class} {n m : Int32} {index : Nat} {vm' : Vm} {rest : List Value} (hs0 : S.topJava?.isSome) (hg : (Jvm.resolveClass g.method.cls index).Gives e.toSetting S.vm (.ok cA) vm') (hr : vm'.classReady g.method.cls index cA) (hstack : g.stack = .int m :: .int n :: rest)
    (hkA : vm'.classes[cA]? = some kA) (hkindA : kA.kind = .array cI (.array .int)) (hkI : vm'.classes[cI]? = some kI) (hkindI : kI.kind = .array c0 .int) (hn : ¬ n < 0) (hm : ¬ m < 0)
    (hl1 : ¬ n.toNatClampNeg > e.platform.arrayLengthLimit) (hh1 : ¬ n.toNatClampNeg * componentBytes (.array .int) > e.platform.maxHeapBytes) (hl2 : ¬ m.toNatClampNeg > e.platform.arrayLengthLimit) (hh2 : ¬ m.toNatClampNeg * componentBytes .int > e.platform.maxHeapBytes)
    (hc : S.heap.size + 1 + n.toNatClampNeg ≤ e.platform.maxCells) (hs : S.slotsUsed + n.toNatClampNeg + n.toNatClampNeg * m.toNatClampNeg ≤ e.platform.maxSlots) (hsz : vm'.classes.size ≤ S.vm.classes.size)
    {Q : Unit → Pre} (hq : ∀ d' acts', Q () d' acts' ((mu_s (S.setVm vm') cA cI n.toNatClampNeg m.toNatClampNeg S.heap.size n.toNatClampNeg).setTop { g with stack := .ref S.heap.size :: rest })) : Sem.wp (Op.multianewarray.sem index 2) Q E e d acts (S.setTop g) := by
  simp only [Op.multianewarray.sem, Sem.wp_bind']
  rw [W.resolveClassAt_transfer (s := S.setTop g) (State.method?_setTop g hs0) hg hr hsz]
  have h1 : (S.setTop g).setVm vm' = (S.setVm vm').setTop g := rfl
  have hs1 : (S.setVm vm').topJava?.isSome := hs0
  rw [h1, W.resolveClassAt_ready (s := (S.setVm vm').setTop g) (State.method?_setTop g hs1) hr]
  have h2 := fun {Q' : List Value → Pre} => Op.popN_top (E := E) (e := e) (d := d) (acts := acts) (Q := Q') (s := S.setVm vm') (f := g) hs1 (args := [.int n, .int m]) (rest := rest) hstack
  simp only [List.length_cons, List.length_nil, Nat.zero_add, Nat.reduceAdd] at h2
  simp only [Sem.wp_bind', h2, List.mapM_cons, List.mapM_nil, Sem.wp_pure']
  refine mu_wp (S := (S.setVm vm').setTop { g with stack := rest }) hkA hkindA hkI hkindI hn hm hl1 hh1 hl2 hh2 hc hs (fun d' acts' => ?_)
  rw [mu_top]
  have h3 : (mu_s (S.setVm vm') cA cI n.toNatClampNeg m.toNatClampNeg S.heap.size n.toNatClampNeg).topJava?.isSome := by rw [mu_topJ]; exact hs0
  simp only [Sem.wp_bind', W.mark, W.pushRef]
  refine ⟨{ g with stack := rest }, State.topJava?_setTop' _ h3, ?_⟩
  rw [State.setTop_setTop]
  exact hq _ _
end MUS
section KW
variable {p : Program} {l : Launch} {e : Env} {R : Room} {s : State} {m : MethodId} {args : Array Value} {below : List Frame} {meth : Method} {c : Code} {H : Heap} {locs : List Loc} {cells slots : Nat} {Q : State → Prop}
variable {cc bytes : ByteArray} {pc nL maxL index n mc ms : Nat} {ls : Array Slot} {rest As st0 : List Value} {Ts ws' : List Cond} {own C : String} {y : MethodName} {ret : Option FieldType} {rm : Room} {A : Nat → Prop} {H0 : Heap} {D : va_G} {cl : List vw_C} {tys : List (ClassId × FieldType)} {ws : va_W}
theorem n_newa (hexec : p.tables.exec = Jvm.exec) (hb : c.code = cc) (harr : (Cond.arrayClass .int).before args s = true) (hK : va_K D cl tys s) (t0 : Nat) {cI : ClassId} (ht : tys[t0]? = some (cI, .int)) (hP : va_P D cl ws H) (hD : va_D A ws) (hS : va_S A H0 H locs) (hA : ∀ q, H0.size ≤ q → A q)
    {N' : Nat} (hN : N' ≤ 1000) (hcells : cells + 1 ≤ R.cells) (hslots : slots + N' ≤ R.slots) (hdg : decode cc pc = .ok (.newarray .int, 2))
    (kk : ∀ (q : Nat) (H1 : Heap), va_P D cl (ws ++ [(q, .inl (cI, N', .inl (fun _ => iI 0)))]) H1 → va_D A (ws ++ [(q, .inl (cI, N', .inl (fun _ => iI 0)))]) → va_S A H0 H1 locs →
      W p l e R s m args below meth c H1 locs (cells + 1) (slots + N') Q (F0 m (pc + 2) ls (.ref q :: rest))) : W p l e R s m args below meth c H locs cells slots Q (F0 m pc ls (.int (iI ((N' : Nat) : Int)) :: rest)) := by
  have hz : zb ((N' : Nat) : Int) := zb_nat (by omega)
  refine va_newa (atype := .int) (ty := .int) (N' := N') (a0 := (N', .inl (fun _ => iI 0))) hexec hb harr rfl hK hP hD hS hA (fun cA => rfl) (fun h => by have := (iI_lt hz zb_0).mp h; omega) (by rw [iI_N hz]; omega) (by show N' * 4 ≤ _; omega) hcells hslots hdg (fun q cA H1 hK1 hP1 hD1 hS1 => ?_)
  have h1 : s.vm.findClass "[I" = some cA := (hK1.2 tys.length (cA, .int) (by rw [List.getElem?_append_right (Nat.le_refl _), Nat.sub_self]; rfl)).2
  have h2 : s.vm.findClass "[I" = some cI := (hK.2 t0 _ ht).2
  cases h1.symm.trans h2
  exact kk q H1 hP1 hD1 hS1
theorem n_newq (hexec : p.tables.exec = Jvm.exec) (hb : c.code = cc) {E : String} (hown : s.vm.findClass own = some m.cls) (hclink : (Cond.classLink own index E).before args s = true) (hover : va_AO E s) (hK : va_K D cl tys s) (t0 : Nat) {cQ : ClassId} (ht : tys[t0]? = some (cQ, .object E)) (hP : va_P D cl ws H) (hD : va_D A ws) (hS : va_S A H0 H locs) (hA : ∀ q, H0.size ≤ q → A q)
    {N' : Nat} (hN : N' ≤ 1000) (hcells : cells + 1 ≤ R.cells) (hslots : slots + N' ≤ R.slots) (hdg : decode cc pc = .ok (.anewarray index, 3))
    (kk : ∀ (q : Nat) (H1 : Heap), va_P D cl (ws ++ [(q, .inl (cQ, N', .inr (.inr (.inr (.inr (fun _ => none))))))]) H1 → va_D A (ws ++ [(q, .inl (cQ, N', .inr (.inr (.inr (.inr (fun _ => none))))))]) → va_S A H0 H1 locs →
      W p l e R s m args below meth c H1 locs (cells + 1) (slots + N') Q (F0 m (pc + 3) ls (.ref q :: rest))) : W p l e R s m args below meth c H locs cells slots Q (F0 m pc ls (.int (iI ((N' : Nat) : Int)) :: rest)) := by
  have hz : zb ((N' : Nat) : Int) := zb_nat (by omega)
  refine va_newq (C := E) (N' := N') hexec hb hown hclink hover hK hP hD hS hA (fun h => by have := (iI_lt hz zb_0).mp h; omega) (by rw [iI_N hz]; omega) (by omega) hcells hslots hdg (fun q cA H1 hK1 hP1 hD1 hS1 => ?_)
  obtain ⟨-, -, -, -, -, h1⟩ := (hK1.2 tys.length (cA, .object E) (by rw [List.getElem?_append_right (Nat.le_refl _), Nat.sub_self]; rfl)).2
  obtain ⟨-, -, -, -, -, h2⟩ := (hK.2 t0 _ ht).2
  cases h1.symm.trans h2
  exact kk q H1 hP1 hD1 hS1
/-- two dimensions -/
theorem n_multi {cs : pg_C} (hexec : p.tables.exec = Jvm.exec) (hb : c.code = cc) (hown : s.vm.findClass own = some m.cls) (hclink : (Cond.classLink own index "[[I").before args s = true) (hZ : z_A cs s) (hP : va_P D cl ws H) (hD : va_D A ws) (hS : va_S A H0 H locs) (hA : ∀ q, H0.size ≤ q → A q)
    {N M : Nat} (hN : N ≤ 1000) (hM : M ≤ 1000) (hcells : cells + 1 + N ≤ R.cells) (hslots : slots + N + N * M ≤ R.slots) (hdg : decode cc pc = .ok (.multianewarray index 2, 4))
    (kk : ∀ (q : Nat) (H1 : Heap) (locs1 : List Loc), va_P D cl (ws ++ mu_w q cs.2.1 cs.1 N M) H1 → va_D A (ws ++ mu_w q cs.2.1 cs.1 N M) → va_S A H0 H1 locs1 →
      W p l e R s m args below meth c H1 locs1 (cells + 1 + N) (slots + N + N * M) Q (F0 m (pc + 4) ls (.ref q :: rest))) : W p l e R s m args below meth c H locs cells slots Q (F0 m pc ls (.int (iI ((M : Nat) : Int)) :: .int (iI ((N : Nat) : Int)) :: rest)) := by
  have hzN : zb ((N : Nat) : Int) := zb_nat (by omega)
  have hzM : zb ((M : Nat) : Int) := zb_nat (by omega)
  have eN : (iI ((N : Nat) : Int)).toNatClampNeg = N := by rw [iI_N hzN]; omega
  have eM : (iI ((M : Nat) : Int)).toNatClampNeg = M := by rw [iI_N hzM]; omega
  intro T hT X
  subst hb
  have hpl : e.platform.magicAccessors = ({} : Platform).magicAccessors := by rw [X.admits.platform]
  obtain ⟨⟨-, hf2, kA, kI, c0, a1, a2, a3, a4⟩, -, -⟩ := hZ
  obtain ⟨cA, hcA, hcl⟩ := Cond.classLink_spec hown hclink e.platform hpl
  cases hf2.symm.trans hcA
  obtain ⟨hg₁, hwarm₁, hready₁⟩ := State.classEntry (e := e) X.warmed hcl
  generalize T.vm.noted m.cls index (.cls cs.2.1) = vm₁ at hg₁ hwarm₁ hready₁
  have hal : s.vm.Alike vm₁ := hwarm₁.alike
  obtain ⟨kA₁, hkA₁, eA⟩ := hal.2.2 _ _ a1
  obtain ⟨kI₁, hkI₁, eI⟩ := hal.2.2 _ _ a3
  have X₁ := X.noted hwarm₁
  have hTs : (T.setVm vm₁).heap.size = H.size := by show T.heap.size = _; rw [hT]
  obtain ⟨L, hL, X₂⟩ := mu_stand X₁ cs.2.1 cs.1 N M H.size hTs N
  obtain ⟨m1, m2, m3, m4, -, -⟩ := mu_heap (T.setVm vm₁) cs.2.1 cs.1 N M H.size hTs N
  have hold : ∀ q : Nat, q < H.size → (mu_s (T.setVm vm₁) cs.2.1 cs.1 N M H.size N).heap[q]? = H[q]? := fun q hq => by rw [m4 q hq]; show T.heap[q]? = _; rw [hT]
  have hPn : va_P D cl (ws ++ mu_w H.size cs.2.1 cs.1 N M) (mu_s (T.setVm vm₁) cs.2.1 cs.1 N M H.size N).heap := by
    refine va_P.app (hP.kept (fun k q hk => hold q.1 (hP k q hk).lt)) (fun k q hk => ?_)
    obtain ⟨h1, h2, h3⟩ := mu_w_at hk
    rcases h3 with ⟨h4, h5⟩ | ⟨h4, h5⟩
    · have : q = (H.size, .inl (cs.2.1, N, .inr (.inr (.inr (.inr (fun j => some (H.size + 1 + j))))))) := Prod.ext (by rw [h1, h4]; rfl) h5
      rw [this]
      show _ = some (vp_cell _ _)
      rw [m2, vp_cell_q]
      unfold mu_c arrV
      congr 2
      congr 1
      funext j
      dsimp only
      rw [if_pos j.isLt]
      rfl
    · obtain ⟨k, rfl⟩ : ∃ i, k = i + 1 := ⟨k - 1, by omega⟩
      have : q = (H.size + 1 + k, .inl (cs.1, M, .inl (fun _ => iI 0))) := Prod.ext (by rw [h1]; show H.size + (k + 1) = H.size + 1 + k; omega) h5
      rw [this]
      show (mu_s (T.setVm vm₁) cs.2.1 cs.1 N M H.size N).heap[H.size + 1 + k]? = some (vp_cell _ _)
      rw [m3 k (by omega), vp_cell_i]
      rfl
  have hAh : ∀ q : Nat, H.size ≤ q → A q := fun q hq => hA q (Nat.le_trans hS.1 hq)
  have hDn : va_D A (ws ++ mu_w H.size cs.2.1 cs.1 N M) := by
    refine va_D.app hD ⟨fun i j p q h1 h2 e => ?_, fun k q hk => hAh _ (by rw [(mu_w_at hk).1]; exact Nat.le_add_right _ _)⟩ (fun i j p q h1 h2 e => ?_)
    · rw [(mu_w_at h1).1, (mu_w_at h2).1] at e
      exact Nat.add_left_cancel e
    · have hlt := (hP i p h1).lt
      rw [e, (mu_w_at h2).1] at hlt
      exact absurd hlt (Nat.not_lt.mpr (Nat.le_add_right _ _))
  have hSn : va_S A H0 (mu_s (T.setVm vm₁) cs.2.1 cs.1 N M H.size N).heap (locs ++ L) := by
    refine ⟨Nat.le_trans hS.1 (by rw [m1]; exact Nat.le_trans (Nat.le_add_right _ 1) (Nat.le_add_right _ _)), fun q h1 h2 => (hold q (Nat.lt_of_lt_of_le h1 hS.1)).trans (hS.2.1 q h1 h2), fun z hz => ?_⟩
    rcases List.mem_append.mp hz with hz | hz
    · exact hS.2.2 z hz
    · rw [hL z hz]; exact hAh _ (Nat.le_refl _)
  obtain ⟨t', b1, b2⟩ := kk H.size _ (locs ++ L) hPn hDn hSn (mu_s (T.setVm vm₁) cs.2.1 cs.1 N M H.size N) rfl X₂
  refine ⟨t', ?_, b2⟩
  obtain ⟨hr1, hr2⟩ := X.roomAbove (a := 1 + N) (b := N + N * M) (by omega) (by omega)
  jvm_step X.here [hexec, hdg]
  refine (mu_sem (S := T) (g := F0 m pc ls (.int (iI ((M : Nat) : Int)) :: .int (iI ((N : Nat) : Int)) :: rest)) X.here.top hg₁ hready₁ rfl hkA₁ (by rw [eA]; exact a2) hkI₁ (by rw [eI]; exact a4) (fun h => by have := (iI_lt hzN zb_0).mp h; omega) (fun h => by have := (iI_lt hzM zb_0).mp h; omega) ?_ ?_ ?_ ?_ ?_ ?_ (Vm.Alike.size_le (X.warmed.alike.symm.trans hwarm₁.alike)) (fun d' acts' => ?_))
  · rw [eN, Launch.admits_arrayLengthLimit X.admits]; omega
  · rw [eN, Launch.admits_maxHeapBytes X.admits]; show ¬ N * 4 > 536870912; omega
  · rw [eM, Launch.admits_arrayLengthLimit X.admits]; omega
  · rw [eM, Launch.admits_maxHeapBytes X.admits]; show ¬ M * 4 > 536870912; omega
  · rw [eN, Nat.add_assoc]; exact hr1
  · rw [eN, eM, Nat.add_assoc]; exact hr2
  · have h3 : (mu_s (T.setVm vm₁) cs.2.1 cs.1 N M H.size N).topJava?.isSome := by rw [mu_topJ]; exact X.here.top
    intro acts9
    rw [eN, eM, hT]
    simp only [jvm, h3]
    exact b1
end KW
