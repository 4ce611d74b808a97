/-! Rows of the law and its wrappers: two worlds beside each other, calls of methods with handlers. My own. -/
/-- two worlds have no cell in common -/
def dj (w1 w2 : va_W) : Prop := ∀ (i j : Nat) (p q : Nat × va_E), w1[i]? = some p → w2[j]? = some q → p.1 ≠ q.1
theorem dj.symm {w1 w2 : va_W} (h : dj w1 w2) : dj w2 w1 := fun i j p q h1 h2 e => h j i q p h2 h1 e.symm
/-- a world that a call doesn't reach -/
theorem z_keep {D : va_G} {cl : List vw_C} {w w2 : va_W} {H H1 : Heap} (hP2 : va_P D cl w2 H) (hd : dj w w2) (hk : ∀ q : Nat, q < H.size → ¬ va_A w H.size q → H1[q]? = H[q]?) : va_P D cl w2 H1 := by
  refine hP2.kept (fun k q hq => ?_)
  have hlt := (hP2 k q hq).lt
  refine hk q.1 hlt (fun h => ?_)
  rcases h with ⟨i, e, h⟩ | h
  · exact hd i k (q.1, e) q h hq rfl
  · omega
/-- the long array of one place -/
def wo (cJ : ClassId) (ao : Nat) (f : Nat → Int64) : va_W := [(ao, .inl (cJ, 1, .inr (.inl f)))]
theorem wo_0 {cJ : ClassId} {ao : Nat} {f : Nat → Int64} {k : Nat} {q : Nat × va_E} (h : (wo cJ ao f)[k]? = some q) : q.1 = ao := by
  unfold wo at h
  cases k with
  | zero => simp at h; rw [← h]
  | succ k => simp at h
theorem wo_dj {w : va_W} {cJ : ClassId} {ao : Nat} {f g : Nat → Int64} (h : dj w (wo cJ ao f)) : dj w (wo cJ ao g) := fun i j p q h1 h2 e => h i 0 p (ao, .inl (cJ, 1, .inr (.inl f))) h1 rfl (e.trans (wo_0 h2))
def lp_B (D : va_G) (cl : List vw_C) (tys : List (ClassId × FieldType)) (w w2 : va_W) (cJ : ClassId) (sz : Nat) (U : State) : Prop := rz_B D cl tys w sz U ∧ va_P D cl w2 U.heap ∧ va_K D cl [(cJ, .long)] U ∧ dj w w2 ∧ va_D (fun _ => True) w2
def lp_E (D : va_G) (cl : List vw_C) (w w2 w' w2' : va_W) (sz : Nat) (_ : Unit) (t : State) : Prop := va_P D cl w' t.heap ∧ va_P D cl w2' t.heap ∧ va_D (va_A w sz) w' ∧ va_D (va_A w2 sz) w2'
theorem lp_blind {D : va_G} {cl : List vw_C} {tys : List (ClassId × FieldType)} {av : List Value} {w w2 : va_W} {cJ : ClassId} {sz : Nat} : FrameBlind (va_Pc av (lp_B D cl tys w w2 cJ sz)) := fun a U g mk q => by
  obtain ⟨q0, q1, qP, qK, qd, qD⟩ := q
  exact ⟨q0, (rz_blind (av := av) a U g mk ⟨q0, q1⟩).2, qP, va_K.moved (u := U) (U := U.calling g mk a) (Vm.Alike.refl U.vm) qK, qd, qD⟩
section LW
variable {p : Program} {l : Launch} {e : Env} {R : Room} {s : State} {m : MethodId} {args : Array Value} {below : List Frame} {meth : Method} {c : Code} {H : Heap} {locs : List Loc} {cells slots : Nat} {Q : State → Prop}
variable {cc bytes : ByteArray} {pc nL maxL index n mc ms : Nat} {ls : Array Slot} {rest As st0 : List Value} {Ts ws : List Cond} {own C : String} {y : MethodName} {ret : Option FieldType} {rm : Room} {A : Nat → Prop} {H0 : Heap} {D : va_G} {cl : List vw_C} {tys : List (ClassId × FieldType)} {w w' : va_W} {b : Nat} {z : Int} {Pb : State → Prop}
/-- a call on an object that writes, and what it leaves alone: an int -/
theorem lw_Vi (S : CallFix p m c cc nL s args Ts own) (hM : Met l y ws rm (va_Pc (.ref b :: As) Pb) (va_Qi (fun (r : Int32) (_ : Unit) => r = iI z) (rw_E D cl tys w w' H.size) (va_A w H.size)) 0 0 (va_A w H.size)) (cw : CallW R s args own C index y bytes maxL ret ws rm 0 0 n) (hbl : FrameBlind (va_Pc (.ref b :: As) Pb)) (hpb : ∀ U : State, U.heap = H → s.WarmedH U.vm → Pb U) (hD : va_D A w) (hS : va_S A H0 H locs) (hA : ∀ q, H0.size ≤ q → A q) (hrc : ∃ cell : Cell, H[b]? = some cell ∧ cell.vm.isStatics = false ∧ s.vm.findClass C = some cell.cls) (hn : As.length = n) (hsize : ls.size = nL) (hst : st0 = As.reverse ++ .ref b :: rest) (hW : (rest.map fun v => v.category).sum ≤ 8) (hdg : decode cc pc = .ok (.invokevirtual index, 3)) (hf : cells + 0 ≤ R.cells ∧ slots + 0 ≤ R.slots)
    (kk : ∀ (H1 : Heap) (locs1 : List Loc), va_P D cl w' H1 → va_D A w' → va_D (va_A w H.size) w' → va_S A H0 H1 locs1 → (∀ q : Nat, q < H.size → ¬ va_A w H.size q → H1[q]? = H[q]?) → W p l e R s m args below meth c H1 locs1 cells slots Q (F0 m (pc + 3) ls (.int (iI z) :: rest))) : W p l e R s m args below meth c H locs cells slots Q (F0 m pc ls st0) := by
  have hF := rw_free hD hS hA
  refine va_calli (va_runV (As := As) (rest := rest) S hM cw ⟨hbl, hrc, fun U hU hW => ⟨rfl, hpb U hU hW⟩⟩ rfl hn hsize hst (lv_room hW) hdg hf) hS (fun q _ h => hF q h) hF (fun r u t H1 locs1 ht hvm hw hB hz1 hk1 hS1 => ?_)
  obtain ⟨hP1, hK1, hD1⟩ := hB
  rw [ht] at hP1
  rw [hw]
  exact kk H1 locs1 hP1 (hD1.weaken (fun _ q _ h => hF q.1 h)) hD1 hS1 hk1
theorem lw_Vv (S : CallFix p m c cc nL s args Ts own) (hM : Met l y ws rm (va_Pc (.ref b :: As) Pb) (va_Qv (fun _ : Unit => True) (rw_E D cl tys w w' H.size) (va_A w H.size)) 0 0 (va_A w H.size)) (cw : CallW R s args own C index y bytes maxL ret ws rm 0 0 n) (hbl : FrameBlind (va_Pc (.ref b :: As) Pb)) (hpb : ∀ U : State, U.heap = H → s.WarmedH U.vm → Pb U) (hD : va_D A w) (hS : va_S A H0 H locs) (hA : ∀ q, H0.size ≤ q → A q) (hrc : ∃ cell : Cell, H[b]? = some cell ∧ cell.vm.isStatics = false ∧ s.vm.findClass C = some cell.cls) (hn : As.length = n) (hsize : ls.size = nL) (hst : st0 = As.reverse ++ .ref b :: rest) (hW : (rest.map fun v => v.category).sum ≤ 8) (hdg : decode cc pc = .ok (.invokevirtual index, 3)) (hf : cells + 0 ≤ R.cells ∧ slots + 0 ≤ R.slots)
    (kk : ∀ (H1 : Heap) (locs1 : List Loc), va_P D cl w' H1 → va_D A w' → va_D (va_A w H.size) w' → va_S A H0 H1 locs1 → (∀ q : Nat, q < H.size → ¬ va_A w H.size q → H1[q]? = H[q]?) → W p l e R s m args below meth c H1 locs1 cells slots Q (F0 m (pc + 3) ls rest)) : W p l e R s m args below meth c H locs cells slots Q (F0 m pc ls st0) := by
  have hF := rw_free hD hS hA
  refine va_callv (va_runV (As := As) (rest := rest) S hM cw ⟨hbl, hrc, fun U hU hW => ⟨rfl, hpb U hU hW⟩⟩ rfl hn hsize hst (lv_room hW) hdg hf) hS (fun q _ h => hF q h) hF (fun u t H1 locs1 ht hvm hw hB hz1 hk1 hS1 => ?_)
  obtain ⟨hP1, hK1, hD1⟩ := hB
  rw [ht] at hP1
  exact kk H1 locs1 hP1 (hD1.weaken (fun _ q _ h => hF q.1 h)) hD1 hS1 hk1
/-- the same, the ruler's reference behind it unknown -/
theorem lw_ViX {w' : Option Nat → va_W} (S : CallFix p m c cc nL s args Ts own) (hM : Met l y ws rm (va_Pc (.ref b :: As) Pb) (va_Qi (fun (r : Int32) (_ : Option Nat) => r = iI z) (rw_EX D cl tys w w' H.size) (va_A w H.size)) 0 0 (va_A w H.size)) (cw : CallW R s args own C index y bytes maxL ret ws rm 0 0 n) (hbl : FrameBlind (va_Pc (.ref b :: As) Pb)) (hpb : ∀ U : State, U.heap = H → s.WarmedH U.vm → Pb U) (hD : va_D A w) (hS : va_S A H0 H locs) (hA : ∀ q, H0.size ≤ q → A q) (hrc : ∃ cell : Cell, H[b]? = some cell ∧ cell.vm.isStatics = false ∧ s.vm.findClass C = some cell.cls) (hn : As.length = n) (hsize : ls.size = nL) (hst : st0 = As.reverse ++ .ref b :: rest) (hW : (rest.map fun v => v.category).sum ≤ 8) (hdg : decode cc pc = .ok (.invokevirtual index, 3)) (hf : cells + 0 ≤ R.cells ∧ slots + 0 ≤ R.slots)
    (kk : ∀ (u : Option Nat) (H1 : Heap) (locs1 : List Loc), va_P D cl (w' u) H1 → va_D A (w' u) → va_D (va_A w H.size) (w' u) → va_S A H0 H1 locs1 → (∀ q : Nat, q < H.size → ¬ va_A w H.size q → H1[q]? = H[q]?) → W p l e R s m args below meth c H1 locs1 cells slots Q (F0 m (pc + 3) ls (.int (iI z) :: rest))) : W p l e R s m args below meth c H locs cells slots Q (F0 m pc ls st0) := by
  have hF := rw_free hD hS hA
  refine va_calli (va_runV (As := As) (rest := rest) S hM cw ⟨hbl, hrc, fun U hU hW => ⟨rfl, hpb U hU hW⟩⟩ rfl hn hsize hst (lv_room hW) hdg hf) hS (fun q _ h => hF q h) hF (fun r u t H1 locs1 ht hvm hw hB hz1 hk1 hS1 => ?_)
  obtain ⟨hP1, hK1, hD1⟩ := hB
  rw [ht] at hP1
  rw [hw]
  exact kk u H1 locs1 hP1 (hD1.weaken (fun _ q _ h => hF q.1 h)) hD1 hS1 hk1
/-- lastore into the one place, another world beside it -/
theorem lw_last {cJ : ClassId} {ao : Nat} {f : Nat → Int64} {v : Int64} (hexec : p.tables.exec = Jvm.exec) (hb : c.code = cc) (hK : va_K D cl [(cJ, .long)] s) (hP : va_P D cl w H) (hPo : va_P D cl (wo cJ ao f) H) (hD : va_D A w) (hDo : va_D A (wo cJ ao f)) (hd : dj w (wo cJ ao f)) (hS : va_S A H0 H locs) (hdg : decode cc pc = .ok (.lastore, 1))
    (kk : ∀ (H1 : Heap) (locs1 : List Loc), va_P D cl w H1 → va_P D cl (wo cJ ao (fun _ => v)) H1 → va_S A H0 H1 locs1 → W p l e R s m args below meth c H1 locs1 cells slots Q (F0 m (pc + 1) ls rest)) : W p l e R s m args below meth c H locs cells slots Q (F0 m pc ls (.long v :: .int (iI 0) :: .ref ao :: rest)) := by
  refine va_last (ws := wo cJ ao f ++ w) hexec hb hK (hPo.app hP) (va_D.app hDo hD hd.symm) hS 0 0 rfl rfl (iI_in (n := 1) (j := 0) (by decide) (by decide)) hdg (fun H1 locs1 h1 h2 h3 => ?_)
  have h4 : va_P D cl w H1 := fun k q hk => h1 (k + 1) q hk
  refine kk H1 locs1 h4 (fun k q hk => ?_) h3
  cases k with
  | zero =>
    have h5 := h1 0 _ rfl
    have hq : q = (ao, .inl (cJ, 1, .inr (.inl (fun _ => v)))) := by
      have : (wo cJ ao (fun _ => v))[0]? = some (ao, .inl (cJ, 1, .inr (.inl (fun _ => v)))) := rfl
      exact (Option.some.inj (this.symm.trans hk)).symm
    rw [hq]
    have hc : vp_cell cJ (1, .inr (.inl (vp_updL f (iI 0).toNatClampNeg v))) = vp_cell cJ (1, .inr (.inl (fun _ => v))) := by
      rw [vp_cell_l, vp_cell_l]
      unfold arrV
      congr 1
    show H1[ao]? = some (vp_cell cJ (1, .inr (.inl (fun _ => v))))
    rw [← hc]
    exact h5
  | succ k => simp [wo] at hk
/-- a static call of a method with handlers -/
theorem z_runSW {Pc : Array Value → State → Prop} {Qc : Array Value → State → Outcome → State → Prop} {free : Addr → Prop} {hh : List (Nat × Nat × Nat × Nat)} (S : CallFix p m c cc nL s args Ts own) (hM : Met l y ws rm Pc Qc mc ms free) (hrc : rm.cells = mc) (hrs : rm.slots = ms) (hfr : rm.frames + 1 ≤ R.frames ∧ 8 + (maxL + 11) + rm.locals ≤ R.locals) (hws : ∀ w ∈ ws, ∀ (a' : Array Value) (U : State), s.WarmedH U.vm → w.before a' U = true) (hcw : Cond.codeWith y bytes maxL ret hh ∈ ws) (hini : (Cond.initialized y.cls).before args s = true) (hd : y.cls ≠ "java/lang/invoke/MethodHandle" ∧ y.cls ≠ "java/lang/invoke/VarHandle" ∧ (parseMethodDescriptor y.desc).map (fun d => d.parameters.length) = some n) (hl : (Cond.methodLink own index y).before args s = true) (hstt : (Cond.static y).before args s = true) (hp : PreS s H Pc As)
    (hn : As.length = n) (hsize : ls.size = nL) (hst : st0 = As.reverse ++ rest) (hW : (rest.map fun v => v.category).sum ≤ 8) (hdg : decode cc pc = .ok (.invokestatic index, 3)) (hf : cells + mc ≤ R.cells ∧ slots + ms ≤ R.slots) :
    va_Run p l e R s m args below meth c H locs cells slots mc ms (F0 m pc ls st0) rest (Qc As.toArray) free := by
  have hK : Back l R p e below s args y 3 8 (PreOf R mc ms Pc) (PostOf Qc mc ms free) := va_backW (bytes := bytes) (maxL := maxL) (ret := ret) (hh := hh) hM hp.1 hrc hrs hfr.1 hfr.2 hws hcw (fun a' U hW => word_at hW (Or.inl (by first | rfl | simp [Cond.onTables, Cond.keeps, Cond.steady])) hini)
  obtain ⟨hx, hb, hml, ho, -⟩ := S
  intro T hT X
  obtain ⟨mk, methM, cM, hnamed, hmethM, -, -, -, -, -, -, hsigM⟩ := Cond.codeWith_spec (hws _ hcw args s (State.WarmedH.refl s))
  have hstatic : methM.isStatic = true := Cond.static_spec hnamed hmethM hstt
  obtain ⟨kP, hkP, -⟩ := className_of_methodNamed hnamed
  have hinitP : kP.init = .initialized := Cond.initialized_spec (findClass_of_methodNamed hnamed) hkP hini
  have hlen : As.length = methM.sig.parameters.length := by
    have h2 := hd.2.2
    rw [hsigM] at h2
    rw [hn]
    exact (Option.some.inj h2).symm
  obtain ⟨vm₁, X₁, hstep₁⟩ := X.invokestatic hx ho hl hnamed hmethM hstatic hkP hinitP ⟨hd.1, hd.2.1⟩ (g := F0 m pc ls st0) rfl (argsL := As) (rest := rest) hlen hst (by rw [hb]; exact hdg)
  obtain ⟨v, ⟨U', l2, c2, s2⟩, X', ⟨g', mk', t, L, e1, e2, hq, h1, hL, h2, h3⟩, hsteps⟩ := hK m meth c ⟨T.setVm vm₁, locs, cells, slots⟩ { (F0 m pc ls st0) with stack := rest } (.invokestatic index) mk As.toArray X₁ rfl (hsize.trans hml.symm) (by rw [hb]; exact hdg) (lv_room hW) (X₁.named hnamed) ⟨hf.1, hf.2, hp.2 (T.setVm vm₁) hT X₁.warmed⟩
  dsimp only [Pt.U, Pt.locs, Pt.cells, Pt.slots] at X' e1 e2 h1 h2 h3 hsteps
  subst h1; subst h2; subst h3
  exact ⟨v, (T.setVm vm₁).calling g' mk' As.toArray, t, U', L, hT, X', hL, e1, e2, hq, fun target h => hstep₁ _ fun acts => by rw [doInvoke_state]; exact hsteps.trans h⟩
/-- a call of a wrapper: the class's world and the one place -/
theorem lw_SW {hh : List (Nat × Nat × Nat × Nat)} {cJ : ClassId} {w2 w2' : va_W} (S : CallFix p m c cc nL s args Ts own) (hM : Met l y ws rm (va_Pc As (lp_B D cl tys w w2 cJ H.size)) (va_Qi (fun (r : Int32) (_ : Unit) => r = iI z) (lp_E D cl w w2 w' w2' H.size) (va_A (w ++ w2) H.size)) 1 6 (va_A (w ++ w2) H.size)) (hrc : rm.cells = 1) (hrs : rm.slots = 6) (hfr : rm.frames + 1 ≤ R.frames ∧ 8 + (maxL + 11) + rm.locals ≤ R.locals) (hws : ∀ w ∈ ws, ∀ (a' : Array Value) (U : State), s.WarmedH U.vm → w.before a' U = true) (hcw : Cond.codeWith y bytes maxL ret hh ∈ ws) (hini : (Cond.initialized y.cls).before args s = true) (hd : y.cls ≠ "java/lang/invoke/MethodHandle" ∧ y.cls ≠ "java/lang/invoke/VarHandle" ∧ (parseMethodDescriptor y.desc).map (fun d => d.parameters.length) = some n) (hl : (Cond.methodLink own index y).before args s = true) (hstt : (Cond.static y).before args s = true)
    (hK : va_K D cl tys s) (hKJ : va_K D cl [(cJ, .long)] s) (hP : va_P D cl w H) (hP2 : va_P D cl w2 H) (hD : va_D A w) (hD2 : va_D A w2) (hdj : dj w w2) (hS : va_S A s.heap H locs) (hT : z_T s) (hA : ∀ q, s.heap.size ≤ q → A q) (hA2 : ∀ q : Nat, q < s.heap.size → ¬ A q) (hn : As.length = n) (hsize : ls.size = nL) (hst : st0 = As.reverse ++ rest) (hW : (rest.map fun v => v.category).sum ≤ 8) (hdg : decode cc pc = .ok (.invokestatic index, 3)) (hf : cells + 1 ≤ R.cells ∧ slots + 6 ≤ R.slots)
    (kk : ∀ (H1 : Heap) (locs1 : List Loc), va_P D cl w' H1 → va_P D cl w2' H1 → va_D A w' → va_D A w2' → va_D (va_A w H.size) w' → va_D (va_A w2 H.size) w2' → va_S A s.heap H1 locs1 → H.size ≤ H1.size → (∀ q : Nat, q < H.size → ¬ va_A (w ++ w2) H.size q → H1[q]? = H[q]?) → W p l e R s m args below meth c H1 locs1 (cells + 1) (slots + 6) Q (F0 m (pc + 3) ls (.int (iI z) :: rest))) : W p l e R s m args below meth c H locs cells slots Q (F0 m pc ls st0) := by
  have hF := rw_free (va_D.app hD hD2 hdj) hS hA
  have hFa : ∀ q, va_A w H.size q → A q := rw_free hD hS hA
  have hFb : ∀ q, va_A w2 H.size q → A q := rw_free hD2 hS hA
  refine va_calli (z_runSW (As := As) (rest := rest) S hM hrc hrs hfr hws hcw hini hd hl hstt ⟨lp_blind, fun U hU hW => ⟨rfl, ⟨⟨by rw [hU], by rw [hU]; exact hP, va_K.moved hW.alike hK, hD.weaken (fun _ _ _ _ => trivial)⟩, hT.kept hW (fun q hq => by rw [hU]; exact hS.2.1 q hq (hA2 q hq))⟩, by rw [hU]; exact hP2, va_K.moved hW.alike hKJ, hdj, hD2.weaken (fun _ _ _ _ => trivial)⟩⟩ hn hsize hst hW hdg hf) hS (fun q _ h => hF q h) hF (fun r u t H1 locs1 ht hvm hw hB hz1 hk1 hS1 => ?_)
  obtain ⟨hP1, hP12, hD1, hD12⟩ := hB
  rw [ht] at hP1 hP12
  rw [hw]
  exact kk H1 locs1 hP1 hP12 (hD1.weaken (fun _ q _ h => hFa q.1 h)) (hD12.weaken (fun _ q _ h => hFb q.1 h)) hD1 hD12 hS1 hz1 hk1
end LW
