/-! Rows over the worlds wlN: loads, stores, fields, calls. My own rows over the kit's. -/
section ZW
variable {p : Program} {l : Launch} {e : Env} {R : Room} {s : State} {m : MethodId} {args : Array Value} {below : List Frame} {meth : Method} {c : Code} {H : Heap} {locs : List Loc} {cells slots : Nat} {Q : State → Prop}
variable {cc : ByteArray} {pc : Nat} {ls : Array Slot} {rest : List Value} {D : va_G} {cl : List vw_C} {A : Nat → Prop} {tys : List (ClassId × FieldType)} {H0 : Heap} {n : Nat} {ad : Nat → Nat} {ce : Nat → (Nat → Int) → va_E} {M : Nat → Nat → Int}
theorem z_iald (hexec : p.tables.exec = Jvm.exec) (hb : c.code = cc) (hK : va_K D cl tys s) (hP : va_P D cl (wlN n ad ce M) H) (k t0 : Nat) (hk : k < n) {cA : ClassId} {len : Nat} (hc : ∀ r, ce k r = .inl (cA, len, .inl (fun j => iI (r j)))) (ht : tys[t0]? = some (cA, .int)) {z : Int} (j : Nat) (hz : z = ((j : Nat) : Int)) (hj : j < len) (hl : len < 2147483648) (hdg : decode cc pc = .ok (.iaload, 1))
    (kk : W p l e R s m args below meth c H locs cells slots Q (F0 m (pc + 1) ls (.int (iI (M k j)) :: rest))) : W p l e R s m args below meth c H locs cells slots Q (F0 m pc ls (.int (iI z) :: .ref (ad k) :: rest)) := by
  subst hz
  refine va_iald hexec hb hK hP k t0 (wl_atE hk (hc (M k))) ht (iI_in hj hl) hdg ?_
  rw [iI_N (zb_nat (by omega)), Int.toNat_natCast]
  exact kk
theorem z_iast (hexec : p.tables.exec = Jvm.exec) (hb : c.code = cc) (hK : va_K D cl tys s) (hP : va_P D cl (wlN n ad ce M) H) (hD : va_D A (wlN n ad ce M)) (hS : va_S A H0 H locs) (k t0 : Nat) (hk : k < n) {cA : ClassId} {len : Nat} (hc : ∀ r, ce k r = .inl (cA, len, .inl (fun j => iI (r j)))) (ht : tys[t0]? = some (cA, .int)) {z v : Int} (j : Nat) (hz : z = ((j : Nat) : Int)) (hj : j < len) (hl : len < 2147483648) (hdg : decode cc pc = .ok (.iastore, 1))
    (kk : ∀ (H1 : Heap) (locs1 : List Loc), va_P D cl (wlN n ad ce (mset M k j v)) H1 → va_D A (wlN n ad ce (mset M k j v)) → va_S A H0 H1 locs1 → W p l e R s m args below meth c H1 locs1 cells slots Q (F0 m (pc + 1) ls rest)) : W p l e R s m args below meth c H locs cells slots Q (F0 m pc ls (.int (iI v) :: .int (iI z) :: .ref (ad k) :: rest)) := by
  subst hz
  have he : ∀ w : Nat → Int, w = va_up (M k) j v → (wlN n ad ce M).set k (ad k, .inl (cA, len, .inl (upd (fun j => iI (M k j)) (iI ((j : Nat) : Int)).toNatClampNeg (iI v)))) = wlN n ad ce (mset M k j v) := by
    intro w hw
    rw [iI_N (zb_nat (by omega)), Int.toNat_natCast]
    have h1 : upd (fun j => iI (M k j)) j (iI v) = fun i => iI (va_up (M k) j v i) := by
      funext i
      by_cases hi : i = j
      · subst hi
        simp [upd, va_up]
      · simp [upd, va_up, hi]
    rw [h1, ← hc (va_up (M k) j v)]
    exact wl_set (fun _ _ => rfl) hk
  refine va_iast hexec hb hK hP hD hS k t0 (wl_atE hk (hc (M k))) ht (iI_in hj hl) hdg fun H1 locs1 h1 h2 h3 => ?_
  rw [he _ rfl] at h1 h2
  exact kk H1 locs1 h1 h2 h3
/-- a reference out of an array of references that are all cells of the world -/
theorem z_aald (hexec : p.tables.exec = Jvm.exec) (hb : c.code = cc) (hK : va_K D cl tys s) (hP : va_P D cl (wlN n ad ce M) H) (k t0 : Nat) (hk : k < n) {cA : ClassId} {len : Nat} {g : Nat → Nat} (hc : ∀ r, ce k r = .inl (cA, len, .inr (.inr (.inr (.inr (fun j => some (ad (g j)))))))) {ty : FieldType} (ht : tys[t0]? = some (cA, ty)) (hty : ty.isReference = true) {z : Int} (j : Nat) (hz : z = ((j : Nat) : Int)) (hj : j < len) (hl : len < 2147483648) (hdg : decode cc pc = .ok (.aaload, 1))
    (kk : W p l e R s m args below meth c H locs cells slots Q (F0 m (pc + 1) ls (.ref (ad (g j)) :: rest))) : W p l e R s m args below meth c H locs cells slots Q (F0 m pc ls (.int (iI z) :: .ref (ad k) :: rest)) := by
  subst hz
  have ha := wl_atE (n := n) (ad := ad) (M := M) hk (hc (M k))
  have hin := iI_in hj hl
  have hlt : (iI ((j : Nat) : Int)).toNatClampNeg < len := Nat.not_le.mp fun q => hin (Or.inr q)
  refine W.aald (v := .ref (ad (g j))) (ty := ty) hexec hb (hP k _ ha) ((hK.2 t0 _ ht).1 len (fun j => va_rf (some (ad (g j))))) hty (fun q => by cases q) (by show ¬ (_ < 0 ∨ (arrV _ _ _).slots.size ≤ _); rw [arrV_size]; exact hin) (by show (arrV _ _ _).slots[_]? = _; rw [arrV_read _ _ hlt, iI_N (zb_nat (by omega)), Int.toNat_natCast]; rfl) rfl rfl hdg kk
theorem z_get (hexec : p.tables.exec = Jvm.exec) (hb : c.code = cc) {own ref C : String} {T : u_T} {N ci index : Nat} {Ts : List Cond} (hts : ∀ w ∈ Ts, w.before args s = true) (hin : ∀ w ∈ u_ws C T N, w ∈ Ts) (hown : s.vm.findClass own = some m.cls) (hK : va_K D cl tys s) (hP : va_P D cl (wlN n ad ce M) H) (q : Nat) (hq : q < n) {fs : List Value} (he : ce q (M q) = .inr (ci, fs)) (hc : cl[ci]? = some (C, T, N)) (k : Nat) (hk : k < N) (hlink : (Cond.fieldLink own index ref (T k).2.1 (T k).2.2.1).before args s = true) (hsame : ∀ x, s.fieldFound? (T k).1 (T k).2.1 (T k).2.2.1 = some x → s.fieldFound? ref (T k).2.1 (T k).2.2.1 = some x) {v : Value} (hv : fs[k]? = some v) (hdg : decode cc pc = .ok (.getfield index, 3))
    (kk : W p l e R s m args below meth c H locs cells slots Q (F0 m (pc + 3) ls (v :: rest))) : W p l e R s m args below meth c H locs cells slots Q (F0 m pc ls (.ref (ad q) :: rest)) :=
  va_get hexec hb hts hin hown hK hP q (wl_atE hq he) hc k hk hlink hsame hv hdg kk
theorem z_put (hexec : p.tables.exec = Jvm.exec) (hb : c.code = cc) {own ref C : String} {T : u_T} {N ci index : Nat} {Ts : List Cond} (hts : ∀ w ∈ Ts, w.before args s = true) (hin : ∀ w ∈ u_ws C T N, w ∈ Ts) (ty0 : Nat → FieldType) (hty : ∀ k, k < N → parseFieldDescriptor (T k).2.2.1 = some (ty0 k)) (hnm : ∀ a, a < N → ∀ b, b < N → a ≠ b → (T a).2.1 ≠ (T b).2.1) (hown : s.vm.findClass own = some m.cls) (hK : va_K D cl tys s) (hP : va_P D cl (wlN n ad ce M) H) (hD : va_D A (wlN n ad ce M)) (hS : va_S A H0 H locs) (q : Nat) (hq : q < n) {ce' : Nat → (Nat → Int) → va_E} {fs : List Value} (he : ce q (M q) = .inr (ci, fs)) (hc : cl[ci]? = some (C, T, N)) (k : Nat) (hk : k < N) (hlink : (Cond.fieldLink own index ref (T k).2.1 (T k).2.2.1).before args s = true) (hsame : ∀ x, s.fieldFound? (T k).1 (T k).2.1 (T k).2.2.1 = some x → s.fieldFound? ref (T k).2.1 (T k).2.2.1 = some x) (hfin : (T k).2.2.2 = false) {ty : FieldType} {v : Value} (hd : parseFieldDescriptor (T k).2.2.1 = some ty) (hn : narrow ty v = v) (hfit : fits ty v = true) (hl : k < fs.length) (hce : ∀ j, j ≠ q → ce' j = ce j) {r : Nat → Int} (hset : ce' q r = .inr (ci, fs.set k v))
    (hdg : decode cc pc = .ok (.putfield index, 3)) (kk : ∀ (H1 : Heap) (locs1 : List Loc), va_P D cl (wlN n ad ce' (va_up M q r)) H1 → va_D A (wlN n ad ce' (va_up M q r)) → va_S A H0 H1 locs1 → W p l e R s m args below meth c H1 locs1 cells slots Q (F0 m (pc + 3) ls rest)) : W p l e R s m args below meth c H locs cells slots Q (F0 m pc ls (v :: .ref (ad q) :: rest)) := by
  refine va_put hexec hb hts hin ty0 hty hnm hown hK hP hD hS q (wl_atE hq he) hc k hk hlink hsame hfin hd hn hfit hl hdg fun H1 locs1 h1 h2 h3 => ?_
  rw [← hset, wl_set hce hq] at h1 h2
  exact kk H1 locs1 h1 h2 h3
theorem z_mmax (hexec : p.tables.exec = Jvm.exec) (hb : c.code = cc) (hml : c.maxLocals = ls.size) {own : String} {index : Nat} (hown : s.vm.findClass own = some m.cls) (hlink : (Cond.methodLink own index Lib.Math.max.name).before args s = true) (hstat : (Cond.static Lib.Math.max.name).before args s = true) (hini : (Cond.initialized "java/lang/Math").before args s = true) (hcode : (Cond.code Lib.Math.max.name Lib.Math.max.code 2 (some .int)).before args s = true)
    (hframes : 1 ≤ R.frames) (hlocals : (rest.map fun v => v.category).sum + 13 ≤ R.locals) (hc : cells ≤ R.cells) (hs : slots ≤ R.slots) {a b : Int} (ha : zb a) (hbb : zb b) (hdg : decode cc pc = .ok (.invokestatic index, 3)) {v : Int} (hv : max a b = v)
    (kk : W p l e R s m args below meth c H locs cells slots Q (F0 m (pc + 3) ls (.int (iI v) :: rest))) : W p l e R s m args below meth c H locs cells slots Q (F0 m pc ls (.int (iI b) :: .int (iI a) :: rest)) := by
  refine va_mmax hexec hb hml hown hlink hstat hini hcode hframes hlocals hc hs hdg ?_
  have h1 : (if iI a < iI b then iI b else iI a) = iI v := by
    rw [← hv]
    by_cases h : a < b
    · rw [if_pos ((iI_lt ha hbb).mpr h), Int.max_eq_right (by omega)]
    · rw [if_neg (fun q => h ((iI_lt ha hbb).mp q)), Int.max_eq_left (by omega)]
  rw [h1]
  exact kk
/-- what a method that only reads starts from -/
def ro_B (D : va_G) (cl : List vw_C) (tys : List (ClassId × FieldType)) (w : va_W) (U : State) : Prop := va_P D cl w U.heap ∧ va_K D cl tys U
def rw_B (D : va_G) (cl : List vw_C) (tys : List (ClassId × FieldType)) (w : va_W) (sz : Nat) (U : State) : Prop := U.heap.size = sz ∧ va_P D cl w U.heap ∧ va_K D cl tys U ∧ va_D (fun _ => True) w
def rw_E (D : va_G) (cl : List vw_C) (tys : List (ClassId × FieldType)) (w w' : va_W) (sz : Nat) (_ : Unit) (t : State) : Prop := va_P D cl w' t.heap ∧ va_K D cl tys t ∧ va_D (va_A w sz) w'
theorem ro_blind {av : List Value} {w : va_W} : FrameBlind (va_Pc av (ro_B D cl tys w)) := fun a U g mk q => by
  obtain ⟨q0, qP, qK⟩ := q
  exact ⟨q0, qP, va_K.moved (u := U) (U := U.calling g mk a) (Vm.Alike.refl U.vm) qK⟩
theorem rw_blind {av : List Value} {w : va_W} {sz : Nat} : FrameBlind (va_Pc av (rw_B D cl tys w sz)) := fun a U g mk q => by
  obtain ⟨q0, q1, qP, qK, qD⟩ := q
  exact ⟨q0, q1, qP, va_K.moved (u := U) (U := U.calling g mk a) (Vm.Alike.refl U.vm) qK, qD⟩
variable {y : MethodName} {bytes : ByteArray} {maxL nL na index : Nat} {ret : Option FieldType} {ws : List Cond} {rm : Room} {Ts : List Cond} {own C : String} {As st0 : List Value} {w w' : va_W} {z : Int}
/-- a call on an object, that only reads: its answer -/
theorem ro_V {b : Nat} (S : CallFix p m c cc nL s args Ts own) (hM : Met l y ws rm (va_Pc (.ref b :: As) (ro_B D cl tys w)) (vp_Si (fun r => r = iI z)) 0 0 (fun _ => False)) (cw : CallW R s args own C index y bytes maxL ret ws rm 0 0 na) (hK : va_K D cl tys s) (hP : va_P D cl w H) (hrc : ∃ cell : Cell, H[b]? = some cell ∧ cell.vm.isStatics = false ∧ s.vm.findClass C = some cell.cls) (hn : As.length = na) (hsize : ls.size = nL) (hst : st0 = As.reverse ++ .ref b :: rest) (hW : (rest.map fun v => v.category).sum ≤ 8) (hdg : decode cc pc = .ok (.invokevirtual index, 3)) (hf : cells + 0 ≤ R.cells ∧ slots + 0 ≤ R.slots)
    (kk : W p l e R s m args below meth c H locs cells slots Q (F0 m (pc + 3) ls (.int (iI z) :: rest))) : W p l e R s m args below meth c H locs cells slots Q (F0 m pc ls st0) :=
  vp_callSi (W.runV (As := As) (rest := rest) S hM cw ⟨ro_blind, hrc, fun U hU hW => ⟨rfl, by rw [hU]; exact hP, va_K.moved hW.alike hK⟩⟩ rfl hn hsize hst (lv_room hW) hdg hf) (fun r hr => by rw [hr]; exact kk)
theorem ro_S (S : CallFix p m c cc nL s args Ts own) (hM : Met l y ws rm (va_Pc As (ro_B D cl tys w)) (vp_Si (fun r => r = iI z)) 0 0 (fun _ => False)) (cw : CallB R s args own index y bytes maxL ret ws rm 0 0 na ∧ (Cond.static y).before args s = true) (hK : va_K D cl tys s) (hP : va_P D cl w H) (hn : As.length = na) (hsize : ls.size = nL) (hst : st0 = As.reverse ++ rest) (hW : (rest.map fun v => v.category).sum ≤ 8) (hdg : decode cc pc = .ok (.invokestatic index, 3)) (hf : cells + 0 ≤ R.cells ∧ slots + 0 ≤ R.slots)
    (kk : W p l e R s m args below meth c H locs cells slots Q (F0 m (pc + 3) ls (.int (iI z) :: rest))) : W p l e R s m args below meth c H locs cells slots Q (F0 m pc ls st0) :=
  vp_callSi (W.runS (As := As) (rest := rest) S hM cw ⟨ro_blind, fun U hU hW => ⟨rfl, by rw [hU]; exact hP, va_K.moved hW.alike hK⟩⟩ rfl hn hsize hst (lv_room hW) hdg hf) (fun r hr => by rw [hr]; exact kk)
/-- a call on an object that only reads and hands back a cell -/
theorem ro_Vr {b x : Nat} (S : CallFix p m c cc nL s args Ts own) (hM : Met l y ws rm (va_Pc (.ref b :: As) (ro_B D cl tys w)) (va_Sr (fun k => k = x) (fun k => .ref k)) 0 0 (fun _ => False)) (cw : CallW R s args own C index y bytes maxL ret ws rm 0 0 na) (hK : va_K D cl tys s) (hP : va_P D cl w H) (hrc : ∃ cell : Cell, H[b]? = some cell ∧ cell.vm.isStatics = false ∧ s.vm.findClass C = some cell.cls) (hn : As.length = na) (hsize : ls.size = nL) (hst : st0 = As.reverse ++ .ref b :: rest) (hW : (rest.map fun v => v.category).sum ≤ 8) (hdg : decode cc pc = .ok (.invokevirtual index, 3)) (hf : cells + 0 ≤ R.cells ∧ slots + 0 ≤ R.slots)
    (kk : W p l e R s m args below meth c H locs cells slots Q (F0 m (pc + 3) ls (.ref x :: rest))) : W p l e R s m args below meth c H locs cells slots Q (F0 m pc ls st0) :=
  va_csr (W.runV (As := As) (rest := rest) S hM cw ⟨ro_blind, hrc, fun U hU hW => ⟨rfl, by rw [hU]; exact hP, va_K.moved hW.alike hK⟩⟩ rfl hn hsize hst (lv_room hW) hdg hf) (fun k hk => by rw [hk]; exact kk)
theorem rw_free (hD : va_D A w) (hS : va_S A H0 H locs) (hA : ∀ q, H0.size ≤ q → A q) : ∀ q, va_A w H.size q → A q := by
  intro q h
  rcases h with ⟨k, e, h⟩ | h
  · exact hD.2 k (q, e) h
  · exact hA q (Nat.le_trans hS.1 h)
/-- a call on an object that writes: no answer -/
theorem rw_Vv {b : Nat} (S : CallFix p m c cc nL s args Ts own) (hM : Met l y ws rm (va_Pc (.ref b :: As) (rw_B D cl tys w H.size)) (va_Qv (fun _ : Unit => True) (rw_E D cl tys w w' H.size) (va_A w H.size)) 0 0 (va_A w H.size)) (cw : CallW R s args own C index y bytes maxL ret ws rm 0 0 na) (hK : va_K D cl tys s) (hP : va_P D cl w H) (hD : va_D A w) (hS : va_S A H0 H locs) (hA : ∀ q, H0.size ≤ q → A q) (hrc : ∃ cell : Cell, H[b]? = some cell ∧ cell.vm.isStatics = false ∧ s.vm.findClass C = some cell.cls) (hn : As.length = na) (hsize : ls.size = nL) (hst : st0 = As.reverse ++ .ref b :: rest) (hW : (rest.map fun v => v.category).sum ≤ 8) (hdg : decode cc pc = .ok (.invokevirtual index, 3)) (hf : cells + 0 ≤ R.cells ∧ slots + 0 ≤ R.slots)
    (kk : ∀ (H1 : Heap) (locs1 : List Loc), va_P D cl w' H1 → va_D A w' → va_S A H0 H1 locs1 → W p l e R s m args below meth c H1 locs1 cells slots Q (F0 m (pc + 3) ls rest)) : W p l e R s m args below meth c H locs cells slots Q (F0 m pc ls st0) := by
  have hF := rw_free hD hS hA
  refine va_callv (va_runV (As := As) (rest := rest) S hM cw ⟨rw_blind, hrc, fun U hU hW => ⟨rfl, by rw [hU], by rw [hU]; exact hP, va_K.moved hW.alike hK, hD.weaken (fun _ _ _ _ => trivial)⟩⟩ rfl hn hsize hst (lv_room hW) hdg hf) hS (fun q _ h => hF q h) hF (fun u t H1 locs1 ht hvm hw hB hz1 hk1 hS1 => ?_)
  obtain ⟨hP1, hK1, hD1⟩ := hB
  rw [ht] at hP1
  exact kk H1 locs1 hP1 (hD1.weaken (fun _ q _ h => hF q.1 h)) hS1
/-- a call on an object that writes: an int -/
theorem rw_Vi {b : Nat} (S : CallFix p m c cc nL s args Ts own) (hM : Met l y ws rm (va_Pc (.ref b :: As) (rw_B D cl tys w H.size)) (va_Qi (fun (r : Int32) (_ : Unit) => r = iI z) (rw_E D cl tys w w' H.size) (va_A w H.size)) 0 0 (va_A w H.size)) (cw : CallW R s args own C index y bytes maxL ret ws rm 0 0 na) (hK : va_K D cl tys s) (hP : va_P D cl w H) (hD : va_D A w) (hS : va_S A H0 H locs) (hA : ∀ q, H0.size ≤ q → A q) (hrc : ∃ cell : Cell, H[b]? = some cell ∧ cell.vm.isStatics = false ∧ s.vm.findClass C = some cell.cls) (hn : As.length = na) (hsize : ls.size = nL) (hst : st0 = As.reverse ++ .ref b :: rest) (hW : (rest.map fun v => v.category).sum ≤ 8) (hdg : decode cc pc = .ok (.invokevirtual index, 3)) (hf : cells + 0 ≤ R.cells ∧ slots + 0 ≤ R.slots)
    (kk : ∀ (H1 : Heap) (locs1 : List Loc), va_P D cl w' H1 → va_D A w' → va_S A H0 H1 locs1 → W p l e R s m args below meth c H1 locs1 cells slots Q (F0 m (pc + 3) ls (.int (iI z) :: rest))) : W p l e R s m args below meth c H locs cells slots Q (F0 m pc ls st0) := by
  have hF := rw_free hD hS hA
  refine va_calli (va_runV (As := As) (rest := rest) S hM cw ⟨rw_blind, hrc, fun U hU hW => ⟨rfl, by rw [hU], by rw [hU]; exact hP, va_K.moved hW.alike hK, hD.weaken (fun _ _ _ _ => trivial)⟩⟩ rfl hn hsize hst (lv_room hW) hdg hf) hS (fun q _ h => hF q h) hF (fun r u t H1 locs1 ht hvm hw hB hz1 hk1 hS1 => ?_)
  obtain ⟨hP1, hK1, hD1⟩ := hB
  rw [ht] at hP1
  rw [hw]
  exact kk H1 locs1 hP1 (hD1.weaken (fun _ q _ h => hF q.1 h)) hS1
end ZW
theorem gt_V {own C : String} {idx : Nat} {y : MethodName} {b : ByteArray} {n : Nat} {r : Option FieldType} (h1 : Cond.methodLink own idx y ∈ gt) (h2 : Cond.instanceMethod y ∈ gt) (h3 : Cond.selects C y y ∈ gt) (h4 : Cond.initialized C ∈ gt) (h5 : Cond.code y b n r ∈ gt) : GoodIn gt (wsV own idx C y (Cond.code y b n r :: gt)) := by
  intro w hw
  unfold wsV at hw
  rcases List.mem_append.mp hw with h | h
  · simp only [List.mem_cons, List.not_mem_nil, or_false] at h
    rcases h with rfl | rfl | rfl | rfl
    · exact gt_good _ h1
    · exact gt_good _ h2
    · exact gt_good _ h3
    · exact gt_good _ h4
  · rcases List.mem_cons.mp h with rfl | h
    · exact gt_good _ h5
    · exact gt_good _ h
theorem gt_S {own : String} {idx : Nat} {y : MethodName} {b : ByteArray} {n : Nat} {r : Option FieldType} (h1 : Cond.methodLink own idx y ∈ gt) (h2 : Cond.static y ∈ gt) (h4 : Cond.initialized own ∈ gt) (h5 : Cond.code y b n r ∈ gt) : GoodIn gt (wsS own idx y (Cond.code y b n r :: gt)) := by
  intro w hw
  unfold wsS at hw
  rcases List.mem_append.mp hw with h | h
  · simp only [List.mem_cons, List.not_mem_nil, or_false] at h
    rcases h with rfl | rfl | rfl
    · exact gt_good _ h1
    · exact gt_good _ h2
    · exact gt_good _ h4
  · rcases List.mem_cons.mp h with rfl | h
    · exact gt_good _ h5
    · exact gt_good _ h
