/-! Calls of constructors; what they leave. My own. -/
def ga : List Cond := .arrayClass .int :: gt
theorem ga_in : ∀ w ∈ ga, w ∈ lw_tbl := List.forall_mem_cons.mpr ⟨by decide +kernel, gt_in⟩
theorem ga_gt {w : Cond} (h : w ∈ gt) : w ∈ ga := List.mem_cons_of_mem _ h
theorem ga_good : GoodIn ga ga := fun w h => by
  refine ⟨h, ?_⟩
  rcases List.mem_cons.mp h with rfl | h
  · exact Or.inr ⟨_, rfl⟩
  · exact Or.inl (gt_ok w h)
theorem ga_I {y : MethodName} {b : ByteArray} {n : Nat} {r : Option FieldType} (h : Cond.code y b n r ∈ gt) : GoodIn ga (Cond.code y b n r :: ga) := fun w hw => by
  rcases List.mem_cons.mp hw with rfl | hw
  · exact ga_good _ (ga_gt h)
  · exact ga_good _ hw
section KC
variable {p : Program} {l : Launch} {e : Env} {R : Room} {s : State} {m : MethodId} {args : Array Value} {below : List Frame} {meth : Method} {c : Code} {H : Heap} {locs : List Loc} {cells slots : Nat} {Q : State → Prop}
variable {cc bytes : ByteArray} {pc nL maxL index n mc ms : Nat} {ls : Array Slot} {rest As st0 : List Value} {Ts ws : List Cond} {own : String} {y : MethodName} {rm : Room} {A : Nat → Prop} {H0 : Heap} {D : va_G} {cl : List vw_C} {tys : List (ClassId × FieldType)} {S : Type} {post : S → Prop} {w1 w2 : va_W} {w' : S → va_W} {b : Nat} {cs : pg_C}
theorem k_callI (SF : CallFix p m c cc nL s args Ts own) (hM : Met l y ws rm (va_Pc (.ref b :: As) (kz_B D cl tys w2 H.size cs)) (va_Qv post (k_E D cl w2 w' H.size) (va_A w2 H.size)) mc ms (va_A w2 H.size)) (cw : CallB R s args own index y bytes maxL none ws rm mc ms n ∧ y.name = "<init>" ∧ (Cond.instanceMethod y).before args s = true) (hK : va_K D cl tys s) (hZ : z_A cs s) (hP : va_P D cl (w1 ++ w2) H) (hD : va_D A (w1 ++ w2)) (hS : va_S A H0 H locs) (hA : ∀ q, H0.size ≤ q → A q) (hn : As.length = n) (hsize : ls.size = nL) (hst : st0 = As.reverse ++ .ref b :: rest) (hW : (rest.map fun v => v.category).sum ≤ 8) (hdg : decode cc pc = .ok (.invokespecial index, 3)) (hf : cells + mc ≤ R.cells ∧ slots + ms ≤ R.slots)
    (kk : ∀ (u : S) (H1 : Heap) (locs1 : List Loc), post u → va_P D cl (w1 ++ w' u) H1 → va_D A (w1 ++ w' u) → va_S A H0 H1 locs1 → W p l e R s m args below meth c H1 locs1 (cells + mc) (slots + ms) Q (F0 m (pc + 3) ls rest)) : W p l e R s m args below meth c H locs cells slots Q (F0 m pc ls st0) := by
  obtain ⟨p1, p2⟩ := z_subP hP
  obtain ⟨d1, d2, d3⟩ := z_subD hD
  have hF : ∀ q, va_A w2 H.size q → A q := rw_free d2 hS hA
  refine va_callv (va_runI (As := As) (rest := rest) SF hM cw ⟨kz_blind, fun U hU hW => ⟨rfl, ⟨by rw [hU], by rw [hU]; exact p2, va_K.moved hW.alike hK, d2.weaken (fun _ _ _ _ => trivial)⟩, hZ.kept hW⟩⟩ rfl hn hsize hst (lv_room hW) hdg hf) hS (fun q _ h => hF q h) hF (fun u t H1 locs1 ht hvm hw hB hz1 hk1 hS1 => ?_)
  obtain ⟨hP1, hD1⟩ := hB
  rw [ht] at hP1
  obtain ⟨j1, j2⟩ := z_join hP hD hk1 hF hP1 hD1
  exact kk u H1 locs1 hw j1 j2 hS1
theorem k_callN {host : String} (SF : CallFix p m c cc nL s args Ts own) (hM : Met l y ws rm (va_Pc (.ref b :: As) (kz_B D cl tys w2 H.size cs)) (va_Qv post (k_E D cl w2 w' H.size) (va_A w2 H.size)) mc ms (va_A w2 H.size)) (cw : va_CN R s args own index y host bytes maxL none ws rm mc ms n ∧ y.name = "<init>" ∧ (Cond.instanceMethod y).before args s = true) (hK : va_K D cl tys s) (hZ : z_A cs s) (hP : va_P D cl (w1 ++ w2) H) (hD : va_D A (w1 ++ w2)) (hS : va_S A H0 H locs) (hA : ∀ q, H0.size ≤ q → A q) (hn : As.length = n) (hsize : ls.size = nL) (hst : st0 = As.reverse ++ .ref b :: rest) (hW : (rest.map fun v => v.category).sum ≤ 8) (hdg : decode cc pc = .ok (.invokespecial index, 3)) (hf : cells + mc ≤ R.cells ∧ slots + ms ≤ R.slots)
    (kk : ∀ (u : S) (H1 : Heap) (locs1 : List Loc), post u → va_P D cl (w1 ++ w' u) H1 → va_D A (w1 ++ w' u) → va_S A H0 H1 locs1 → W p l e R s m args below meth c H1 locs1 (cells + mc) (slots + ms) Q (F0 m (pc + 3) ls rest)) : W p l e R s m args below meth c H locs cells slots Q (F0 m pc ls st0) := by
  obtain ⟨p1, p2⟩ := z_subP hP
  obtain ⟨d1, d2, d3⟩ := z_subD hD
  have hF : ∀ q, va_A w2 H.size q → A q := rw_free d2 hS hA
  refine va_callv (va_runIN (As := As) (rest := rest) SF hM cw ⟨kz_blind, fun U hU hW => ⟨rfl, ⟨by rw [hU], by rw [hU]; exact p2, va_K.moved hW.alike hK, d2.weaken (fun _ _ _ _ => trivial)⟩, hZ.kept hW⟩⟩ rfl hn hsize hst (lv_room hW) hdg hf) hS (fun q _ h => hF q h) hF (fun u t H1 locs1 ht hvm hw hB hz1 hk1 hS1 => ?_)
  obtain ⟨hP1, hD1⟩ := hB
  rw [ht] at hP1
  obtain ⟨j1, j2⟩ := z_join hP hD hk1 hF hP1 hD1
  exact kk u H1 locs1 hw j1 j2 hS1
end KC
def z0 : Value := .int (iI 0)
def e_ia (cs : pg_C) (n : Nat) : va_E := .inl (cs.1, n, .inl (fun _ => iI 0))
def wPA (cs : pg_C) (b : Nat) (u : Nat × Nat × Nat) : va_W := [(b, .inr (6, [.ref u.1, .ref u.2.1, .ref u.2.2, .int (iI 0), .int (iI 0), .int (iI 0)])), (u.1, e_ia cs 11), (u.2.1, e_ia cs 8), (u.2.2, e_ia cs 8)]
def wSH (b : Nat) : va_W := [(b, .inr (2, [.int (iI 10000), .int (iI 15000), .int (iI 700)]))]
def wRU (b t sh : Nat) : va_W := [(b, .inr (4, [.ref t, .ref sh, .null, .int (iI 0), .int (iI 0), .int (iI 0), .int (iI 0)]))]
def wLN (cs : pg_C) (b t sh : Nat) (u : Nat × Nat × Nat) : va_W := (([(b, .inr (3, [.ref u.1, .ref u.2.1, .int (iI 0), .ref t, .ref sh, .ref u.2.2]))] ++ mu_w u.1 cs.2.1 cs.1 10 630) ++ mu_w u.2.1 cs.2.1 cs.1 3 600) ++ wRU u.2.2 t sh
def wPG (cs : pg_C) (b t sh ln u : Nat) : va_W := [(b, .inr (5, [.ref u, .int (iI 0), .ref t, .ref sh, .ref ln]))] ++ mu_w u cs.2.1 cs.1 3 630
/-- Text with i paragraphs made -/
def tx_ce (ad : Nat → Nat) (cs : pg_C) (i k : Nat) : va_E := match k with
  | 0 => .inr (1, [.ref (ad 1), .ref (ad 2), .ref (ad 3), .ref (ad 4), .int (iI 0), .int (iI 0)])
  | 1 => .inl (cs.2.2, 30, .inr (.inr (.inr (.inr (fun j => if j < i then some (ad (5 + 4 * j)) else none)))))
  | 2 => e_ia cs 600
  | 3 => e_ia cs 600
  | 4 => e_ia cs 600
  | k + 5 => if k % 4 = 0 then .inr (6, [.ref (ad (k + 6)), .ref (ad (k + 7)), .ref (ad (k + 8)), .int (iI 0), .int (iI 0), .int (iI 0)]) else if k % 4 = 1 then e_ia cs 11 else e_ia cs 8
def wTX (ad : Nat → Nat) (cs : pg_C) (i : Nat) : va_W := (List.range (5 + 4 * i)).map fun k => (ad k, tx_ce ad cs i k)
