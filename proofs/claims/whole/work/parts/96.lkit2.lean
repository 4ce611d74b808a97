/-! Rows of the law's loop. My own. -/
theorem dj_app {w1 w2 w3 : va_W} (h1 : dj w1 w3) (h2 : dj w2 w3) : dj (w1 ++ w2) w3 := fun i j p q g1 g2 e => by
  by_cases hi : i < w1.length
  · rw [List.getElem?_append_left hi] at g1
    exact h1 i j p q g1 g2 e
  · rw [List.getElem?_append_right (by omega)] at g1
    exact h2 _ j p q g1 g2 e
theorem mo_dj {ad : Nat → Nat} {c : ClassId} {M M' : Nat → Nat → Int} {w2 : va_W} (h : dj (mo_w ad c M) w2) : dj (mo_w ad c M') w2 := fun i j p q h1 h2 e => by
  have hk : i < 25 := by
    have := (List.getElem?_eq_some_iff.mp h1).1
    unfold mo_w at this
    rwa [wl_len] at this
  have hp : p.1 = ad i := by
    unfold mo_w at h1
    rw [wl_at hk] at h1
    cases h1
    rfl
  exact h i j (ad i, _) q (wl_at hk) h2 (hp ▸ e)
theorem lw_hws {args : Array Value} {s : State} {w0 : Cond} (hts : ∀ w ∈ lw_tbl, w.before args s = true) (h0 : w0 ∈ lw_tbl) (h1 : (w0.onTables && w0.keeps) = true) : ∀ w ∈ (w0 :: gx), ∀ (a' : Array Value) (U : State), s.WarmedH U.vm → w.before a' U = true := fun w hw a' U hW => by
  rcases List.mem_cons.mp hw with rfl | hw
  · exact word_at hW (Or.inl h1) (hts _ h0)
  · exact word_at hW (Or.inl (gx_ok w hw)) (hts w (gx_in w hw))
theorem lg_cmp_self (x : Int64) : lg_cmp x x = 0 := by
  unfold lg_cmp
  simp
/-- all that is new in the heap -/
def aH (s : State) : Nat → Prop := fun q => s.heap.size ≤ q
/-- the law's state at its loop -/
def lw_St (D : va_G) (cs : pg_C) (cJ : ClassId) (ao : Nat) (ad ad2 : Nat → Nat) (s : State) (M N : Nat → Nat → Int) (np ns : Nat) (rp : Option Nat) (f : Nat → Int64) (H : Heap) (locs : List Loc) : Prop :=
  INV M N np ns ∧ (va_P D vwCl (pg_w ad cs rp M) H ∧ va_P D vwCl (mo_w ad2 cs.1 N) H ∧ va_P D vwCl (wo cJ ao f) H) ∧ (va_D (aH s) (pg_w ad cs rp M) ∧ va_D (aH s) (mo_w ad2 cs.1 N) ∧ va_D (aH s) (wo cJ ao f)) ∧ (dj (pg_w ad cs rp M) (mo_w ad2 cs.1 N) ∧ dj (pg_w ad cs rp M) (wo cJ ao f) ∧ dj (mo_w ad2 cs.1 N) (wo cJ ao f)) ∧ va_S (aH s) s.heap H locs
section LL
variable {p : Program} {l : Launch} {e : Env} {R : Room} {s : State} {m : MethodId} {args : Array Value} {below : List Frame} {meth : Method} {c : Code} {H : Heap} {locs : List Loc} {cells slots : Nat} {Q : State → Prop}
variable {cc : ByteArray} {pc : Nat} {ls : Array Slot} {rest : List Value}
/-- a place of the script -/
theorem lw_sld (hexec : p.tables.exec = Jvm.exec) (hb : c.code = cc) {b L : Nat} {xs : Nat → Int32} (hX : va_X b L xs s s.heap) (hbl : b < s.heap.size) (hS : va_S (aH s) s.heap H locs) {j : Nat} (hj : j < L) (hL : L ≤ 2048) (hdg : decode cc pc = .ok (.iaload, 1))
    (kk : W p l e R s m args below meth c H locs cells slots Q (F0 m (pc + 1) ls (.int (iI (xs j).toInt) :: rest))) : W p l e R s m args below meth c H locs cells slots Q (F0 m pc ls (.int (iI ((j : Nat) : Int)) :: .ref b :: rest)) := by
  refine va_sld hexec hb hX hbl (Nat.not_le.mpr hbl) hS (iI_in hj (by omega)) hdg ?_
  rw [iI_N (zb_nat (by omega)), show (((j : Nat) : Int)).toNat = j by omega]
  rw [iI_of] at kk
  exact kk
theorem lw_slen (hexec : p.tables.exec = Jvm.exec) (hb : c.code = cc) {b L : Nat} {xs : Nat → Int32} (hX : va_X b L xs s s.heap) (hbl : b < s.heap.size) (hS : va_S (aH s) s.heap H locs) (hdg : decode cc pc = .ok (.arraylength, 1))
    (kk : W p l e R s m args below meth c H locs cells slots Q (F0 m (pc + 1) ls (.int (iI ((L : Nat) : Int)) :: rest))) : W p l e R s m args below meth c H locs cells slots Q (F0 m pc ls (.ref b :: rest)) := by
  refine va_slen hexec hb hX hbl (Nat.not_le.mpr hbl) hS hdg ?_
  have h : Int32.ofNat L = iI ((L : Nat) : Int) := (Int32.ofInt_eq_ofNat).symm
  rw [h]
  exact kk
/-- the two longs are the same -/
theorem lw_same (hexec : p.tables.exec = Jvm.exec) (hb : c.code = cc) {x y : Int64} {off : Int} {tgt : Nat} (hxy : x = y) (hd1 : decode cc pc = .ok (.lcmp, 1)) (hd2 : decode cc (pc + 1) = .ok (.ifCond .eq off, 3)) (ht : ((pc + 1 : Nat) : Int) + off = (tgt : Int))
    (kk : W p l e R s m args below meth c H locs cells slots Q (F0 m tgt ls rest)) : W p l e R s m args below meth c H locs cells slots Q (F0 m pc ls (.long y :: .long x :: rest)) := by
  subst hxy
  refine W.lcmp hexec hb hd1 ?_
  rw [lg_cmp_self]
  exact lv_if_eq hexec hb hd2 ht (fun _ => kk) (fun h => absurd rfl h)
end LL
