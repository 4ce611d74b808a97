set_option maxHeartbeats 1000000 in
theorem inv_shape {M N : Nat → Nat → Int} {np ns p w : Nat} {v : Int} (hi : INV M N np ns) (hp : p < np) (hw : w ≤ 10) (hv : inn v (r_least ((w : Nat) : Int)) (r_most ((w : Nat) : Int))) : INV (mset (q_fg M) (30 + 4 * p) w v) (r_spM N p w v) np ns := by
  have hi0 := hi
  obtain ⟨ht, ⟨c1, c2, c3, c4⟩, ⟨g1, g2, g3, g4, g5⟩, -⟩ := hi
  obtain ⟨t1, t2, t3, t4, t5, t6, t7⟩ := ht
  obtain ⟨M', hM'⟩ : ∃ K, K = mset (q_fg M) (30 + 4 * p) w v := ⟨_, rfl⟩
  obtain ⟨N', hN'⟩ : ∃ K, K = r_spM N p w v := ⟨_, rfl⟩
  have h30 := t4.2.2
  have hvb : (w = 0 → 0 ≤ v ∧ v ≤ 5000) ∧ (w = 1 → 0 ≤ v ∧ v ≤ 5000) ∧ (w = 2 → -5000 ≤ v ∧ v ≤ 5000) ∧ (w = 3 → 0 ≤ v ∧ v ≤ 5000) ∧ (w = 4 → 0 ≤ v ∧ v ≤ 5000) ∧ (w = 5 → 0 ≤ v ∧ v ≤ 3) ∧ (w = 6 → 0 ≤ v ∧ v ≤ 1) ∧ (w = 7 → 0 ≤ v ∧ v ≤ 1) ∧ (w = 8 → 0 ≤ v ∧ v ≤ 1) ∧ (w = 9 → 0 ≤ v ∧ v ≤ 1) ∧ (w = 10 → 0 ≤ v ∧ v ≤ 2000) := by
    obtain ⟨v1, v2⟩ := hv
    unfold r_least at v1
    unfold r_most at v2
    refine ⟨?_, ?_, ?_, ?_, ?_, ?_, ?_, ?_, ?_, ?_, ?_⟩ <;> (intro h; subst h; simp at v1 v2; omega)
  have hvz : -5000 ≤ v ∧ v ≤ 5000 := by
    have h1 := r_leastb ((w : Nat) : Int)
    have h2 := r_mostb ((w : Nat) : Int)
    unfold inn at hv
    omega
  have eo : ∀ j, j ≠ 0 → j ≠ 3 → j ≠ 5 → j ≠ 30 + 4 * p → M' j = M j := fun j h0 h3 h5 hq => by rw [hM', mset_ne hq, q_fg_ne h0 h3 h5]
  have ep : M' (30 + 4 * p) = va_up (M (30 + 4 * p)) w v := by rw [hM', mset_at, q_fg_ne (by omega) (by omega) (by omega)]
  have no : ∀ j, j ≠ 0 → j ≠ 2 → N' j = N j := fun j h0 h2 => by rw [hN']; unfold r_spM; rw [mset_ne h0, mset_ne h2, mset_ne h0]
  have n2 : N' 2 = va_up (N 2) (11 * p + w) v := by rw [hN']; unfold r_spM; rw [mset_ne (by omega), mset_at, mset_ne (by omega)]
  have n0 : ∀ x, x ≠ 0 → x ≠ 15 → N' 0 x = N 0 x := fun x h1 h2 => by rw [hN']; unfold r_spM; rw [mset_out h2, mset_ne (by omega), mset_out h1]
  have n15 : N' 0 15 = 0 := by rw [hN']; unfold r_spM; rw [mset_same]
  have f0 : M' 0 4 = 0 ∧ M' 3 2 = 0 ∧ M' 5 1 = 0 := by rw [hM', mset_ne (by omega), mset_ne (by omega), mset_ne (by omega)]; exact q_fg_0 M
  rw [← hM', ← hN']
  refine inv_text hi0 ?_ (fun i hi => ?_) ?_ ?_ (fun j a b => eo j (by omega) (by omega) (by omega) (by omega)) (fun j a b => no j (by omega) (by omega)) (n0 16 (by omega) (by omega)) (n0 30 (by omega) (by omega)) f0 n15
  · refine ⟨?_, ?_, fun i hi => ?_, ?_, ?_, fun i hi => ?_, fun h => ?_⟩
    · rw [eo 7 (by omega) (by omega) (by omega) (by omega), eo 8 (by omega) (by omega) (by omega) (by omega), eo 9 (by omega) (by omega) (by omega) (by omega), no 6 (by omega) (by omega), no 7 (by omega) (by omega), no 8 (by omega) (by omega)]; exact t1
    · rw [eo 2 (by omega) (by omega) (by omega) (by omega), n0 1 (by omega) (by omega), n0 2 (by omega) (by omega), n0 3 (by omega) (by omega)]; exact t2
    · obtain ⟨k1, k2, k3⟩ := t3 i hi
      rw [eo (29 + 4 * i) (by omega) (by omega) (by omega) (by omega), eo (31 + 4 * i) (by omega) (by omega) (by omega) (by omega), eo (32 + 4 * i) (by omega) (by omega) (by omega) (by omega), no 3 (by omega) (by omega), no 4 (by omega) (by omega), no 5 (by omega) (by omega), n2]
      refine ⟨fun j hj => ?_, k2, k3⟩
      by_cases h : i = p
      · subst h
        rw [ep]
        by_cases q : j = w
        · subst q; rw [va_up_self, va_up_self]
        · rw [va_up_ne _ _ q, va_up_ne _ _ (by omega)]; exact k1 j hj
      · rw [eo (30 + 4 * i) (by omega) (by omega) (by omega) (by omega), va_up_ne _ _ (by omega)]; exact k1 j hj
    · rw [eo 1 (by omega) (by omega) (by omega) (by omega), n0 4 (by omega) (by omega)]; exact t4
    · rw [eo 1 (by omega) (by omega) (by omega) (by omega), no 1 (by omega) (by omega)]; exact t5
    · rw [eo (29 + 4 * i) (by omega) (by omega) (by omega) (by omega), no 1 (by omega) (by omega)]; exact t6 i hi
    · rw [no 1 (by omega) (by omega)]; exact t7 h
  · have hx := c1 i hi
    by_cases h : i = p
    · subst h
      unfold wfX wfP pn at hx ⊢
      rw [eo (29 + 4 * i) (by omega) (by omega) (by omega) (by omega), eo (31 + 4 * i) (by omega) (by omega) (by omega) (by omega), eo (32 + 4 * i) (by omega) (by omega) (by omega) (by omega), ep]
      obtain ⟨x1, x2, y0, y1, y2, y3, y4, y5, y6, y7, y8, y9, y10⟩ := hx
      obtain ⟨z0, z1, z2, z3, z4, z5, z6, z7, z8, z9, z10⟩ := hvb
      exact ⟨x1, x2, up_b y0 (fun h => z0 h.symm), up_b y1 (fun h => z1 h.symm), up_b y2 (fun h => z2 h.symm), up_b y3 (fun h => z3 h.symm), up_b y4 (fun h => z4 h.symm), up_b y5 (fun h => z5 h.symm), up_b y6 (fun h => z6 h.symm), up_b y7 (fun h => z7 h.symm), up_b y8 (fun h => z8 h.symm), up_b y9 (fun h => z9 h.symm), up_b y10 (fun h => z10 h.symm)⟩
    · unfold wfX wfP pn at hx ⊢
      rw [eo (29 + 4 * i) (by omega) (by omega) (by omega) (by omega), eo (30 + 4 * i) (by omega) (by omega) (by omega) (by omega), eo (31 + 4 * i) (by omega) (by omega) (by omega) (by omega), eo (32 + 4 * i) (by omega) (by omega) (by omega) (by omega)]
      exact hx
  · unfold wfT at c2 ⊢
    rw [eo 2 (by omega) (by omega) (by omega) (by omega), eo 7 (by omega) (by omega) (by omega) (by omega), eo 8 (by omega) (by omega) (by omega) (by omega), eo 9 (by omega) (by omega) (by omega) (by omega)]
    exact c2
  · obtain ⟨i1, i2, i3, i4, i5, i6⟩ := g1
    refine ⟨by rw [n0 4 (by omega) (by omega)]; exact i1, i2, ?_, fun q hq => ?_, fun j => by rw [n2]; exact up_b (i5 j) (fun _ => hvz), fun q hq => by rw [no 1 (by omega) (by omega)]; exact i6 q hq⟩
    · unfold rT at i3 ⊢
      rw [no 6 (by omega) (by omega), no 7 (by omega) (by omega), no 8 (by omega) (by omega), n0 1 (by omega) (by omega), n0 2 (by omega) (by omega), n0 3 (by omega) (by omega)]
      exact i3
    · obtain ⟨⟨a1, a2, a3⟩, b1, d1, d2⟩ := i4 q hq
      unfold rS
      rw [n2]
      refine ⟨⟨up_b a1 (fun h => hvb.1 (by omega)), up_b a2 (fun h => hvb.2.1 (by omega)), up_b a3 (fun h => hvb.2.2.1 (by omega))⟩, ?_, up_b d1 (fun h => hvb.2.2.2.2.2.1 (by omega)), up_b d2 (fun h => hvb.2.2.2.2.2.2.2.2.2.2 (by omega))⟩
      unfold rP rn at b1 ⊢
      rw [no 3 (by omega) (by omega), no 4 (by omega) (by omega), no 5 (by omega) (by omega)]
      exact b1
set_option maxHeartbeats 1000000 in
theorem inv_stop {M N : Nat → Nat → Int} {np ns p n : Nat} {x k : Int} (hi : INV M N np ns) (hp : p < np) (hn : M (29 + 4 * p) 3 = ((n : Nat) : Int)) (hn8 : n < 8) (hx : inn x 0 30000 ∧ inn k 0 2) : INV (q_stp (q_fg M) p n x k) (r_stM N p n x k) np ns := by
  have hi0 := hi
  obtain ⟨ht, ⟨c1, c2, c3, c4⟩, ⟨g1, g2, g3, g4, g5⟩, -⟩ := hi
  obtain ⟨t1, t2, t3, t4, t5, t6, t7⟩ := ht
  obtain ⟨M', hM'⟩ : ∃ K, K = q_stp (q_fg M) p n x k := ⟨_, rfl⟩
  obtain ⟨N', hN'⟩ : ∃ K, K = r_stM N p n x k := ⟨_, rfl⟩
  have h30 := t4.2.2
  have eo : ∀ j, j ≠ 0 → j ≠ 3 → j ≠ 5 → j ≠ 29 + 4 * p → j ≠ 31 + 4 * p → j ≠ 32 + 4 * p → M' j = M j := fun j h0 h3 h5 h29 h31 h32 => by rw [hM']; unfold q_stp; rw [mset_ne h29, mset_ne h32, mset_ne h31, q_fg_ne h0 h3 h5]
  have e29 : M' (29 + 4 * p) = va_up (M (29 + 4 * p)) 3 (((n : Nat) : Int) + 1) := by rw [hM']; unfold q_stp; rw [mset_at, mset_ne (by omega), mset_ne (by omega), q_fg_ne (by omega) (by omega) (by omega)]
  have e31 : M' (31 + 4 * p) = va_up (M (31 + 4 * p)) n x := by rw [hM']; unfold q_stp; rw [mset_ne (by omega), mset_ne (by omega), mset_at, q_fg_ne (by omega) (by omega) (by omega)]
  have e32 : M' (32 + 4 * p) = va_up (M (32 + 4 * p)) n k := by rw [hM']; unfold q_stp; rw [mset_ne (by omega), mset_at, mset_ne (by omega), q_fg_ne (by omega) (by omega) (by omega)]
  have e29o : ∀ i y, y ≠ 3 → M' (29 + 4 * i) y = M (29 + 4 * i) y := fun i y hy => by
    by_cases h : i = p
    · subst h; rw [e29, va_up_ne _ _ hy]
    · rw [eo _ (by omega) (by omega) (by omega) (by omega) (by omega) (by omega)]
  have no : ∀ j, j ≠ 0 → j ≠ 3 → j ≠ 4 → j ≠ 5 → N' j = N j := fun j h0 h3 h4 h5 => by rw [hN']; unfold r_stM; rw [mset_ne h0, mset_ne h3, mset_ne h5, mset_ne h4, mset_ne h0]
  have n3 : N' 3 = va_up (N 3) p (((n : Nat) : Int) + 1) := by rw [hN']; unfold r_stM; rw [mset_ne (by omega), mset_at, mset_ne (by omega), mset_ne (by omega), mset_ne (by omega)]
  have n4 : N' 4 = va_up (N 4) (8 * p + n) x := by rw [hN']; unfold r_stM; rw [mset_ne (by omega), mset_ne (by omega), mset_ne (by omega), mset_at, mset_ne (by omega)]
  have n5 : N' 5 = va_up (N 5) (8 * p + n) k := by rw [hN']; unfold r_stM; rw [mset_ne (by omega), mset_ne (by omega), mset_at, mset_ne (by omega), mset_ne (by omega)]
  have n0 : ∀ y, y ≠ 0 → y ≠ 15 → N' 0 y = N 0 y := fun y h1 h2 => by rw [hN']; unfold r_stM; rw [mset_out h2, mset_ne (by omega), mset_ne (by omega), mset_ne (by omega), mset_out h1]
  have n15 : N' 0 15 = 0 := by rw [hN']; unfold r_stM; rw [mset_same]
  have f0 : M' 0 4 = 0 ∧ M' 3 2 = 0 ∧ M' 5 1 = 0 := by
    rw [hM']; unfold q_stp
    rw [mset_ne (by omega), mset_ne (by omega), mset_ne (by omega), mset_ne (by omega), mset_ne (by omega), mset_ne (by omega), mset_ne (by omega), mset_ne (by omega), mset_ne (by omega)]
    exact q_fg_0 M
  rw [← hM', ← hN']
  refine inv_text hi0 ?_ (fun i hi => ?_) ?_ ?_ (fun j a b => eo j (by omega) (by omega) (by omega) (by omega) (by omega) (by omega)) (fun j a b => no j (by omega) (by omega) (by omega) (by omega)) (n0 16 (by omega) (by omega)) (n0 30 (by omega) (by omega)) f0 n15
  · refine ⟨?_, ?_, fun i hi => ?_, ?_, ?_, fun i hi => ?_, fun h => ?_⟩
    · rw [eo 7 (by omega) (by omega) (by omega) (by omega) (by omega) (by omega), eo 8 (by omega) (by omega) (by omega) (by omega) (by omega) (by omega), eo 9 (by omega) (by omega) (by omega) (by omega) (by omega) (by omega), no 6 (by omega) (by omega) (by omega) (by omega), no 7 (by omega) (by omega) (by omega) (by omega), no 8 (by omega) (by omega) (by omega) (by omega)]; exact t1
    · rw [eo 2 (by omega) (by omega) (by omega) (by omega) (by omega) (by omega), n0 1 (by omega) (by omega), n0 2 (by omega) (by omega), n0 3 (by omega) (by omega)]; exact t2
    · obtain ⟨k1, k2, k3⟩ := t3 i hi
      rw [eo (30 + 4 * i) (by omega) (by omega) (by omega) (by omega) (by omega) (by omega), no 2 (by omega) (by omega) (by omega) (by omega), n3, n4, n5]
      by_cases h : i = p
      · subst h
        rw [e29, e31, e32]
        refine ⟨k1, by rw [va_up_self, va_up_self], fun j hj => ?_⟩
        by_cases q : j = n
        · subst q; rw [va_up_self, va_up_self, va_up_self, va_up_self]; exact ⟨rfl, rfl⟩
        · rw [va_up_ne _ _ q, va_up_ne _ _ q, va_up_ne _ _ (show 8 * i + j ≠ 8 * i + n by omega), va_up_ne _ _ (show 8 * i + j ≠ 8 * i + n by omega)]; exact k3 j hj
      · rw [eo (29 + 4 * i) (by omega) (by omega) (by omega) (by omega) (by omega) (by omega), eo (31 + 4 * i) (by omega) (by omega) (by omega) (by omega) (by omega) (by omega), eo (32 + 4 * i) (by omega) (by omega) (by omega) (by omega) (by omega) (by omega)]
        refine ⟨k1, by rw [va_up_ne _ _ h]; exact k2, fun j hj => ?_⟩
        rw [va_up_ne _ _ (show 8 * i + j ≠ 8 * p + n by omega), va_up_ne _ _ (show 8 * i + j ≠ 8 * p + n by omega)]
        exact k3 j hj
    · rw [eo 1 (by omega) (by omega) (by omega) (by omega) (by omega) (by omega), n0 4 (by omega) (by omega)]; exact t4
    · rw [eo 1 (by omega) (by omega) (by omega) (by omega) (by omega) (by omega), no 1 (by omega) (by omega) (by omega) (by omega)]; exact t5
    · rw [e29o i 4 (by omega), e29o i 5 (by omega), no 1 (by omega) (by omega) (by omega) (by omega)]; exact t6 i hi
    · rw [no 1 (by omega) (by omega) (by omega) (by omega)]; exact t7 h
  · have hx' := c1 i hi
    by_cases h : i = p
    · subst h
      have h3 : M' (29 + 4 * i) 3 = ((n : Nat) : Int) + 1 := by rw [e29, va_up_self]
      unfold wfX wfP pn at hx' ⊢
      rw [h3, e29o i 4 (by omega), e29o i 5 (by omega), eo (30 + 4 * i) (by omega) (by omega) (by omega) (by omega) (by omega) (by omega), e31, e32]
      refine ⟨⟨hi, by omega, by omega, up_ab hx'.1.2.2.2.1 hx.1, up_ab hx'.1.2.2.2.2 hx.2⟩, hx'.2⟩
    · unfold wfX wfP pn at hx' ⊢
      rw [eo (29 + 4 * i) (by omega) (by omega) (by omega) (by omega) (by omega) (by omega), eo (30 + 4 * i) (by omega) (by omega) (by omega) (by omega) (by omega) (by omega), eo (31 + 4 * i) (by omega) (by omega) (by omega) (by omega) (by omega) (by omega), eo (32 + 4 * i) (by omega) (by omega) (by omega) (by omega) (by omega) (by omega)]
      exact hx'
  · unfold wfT at c2 ⊢
    rw [eo 2 (by omega) (by omega) (by omega) (by omega) (by omega) (by omega), eo 7 (by omega) (by omega) (by omega) (by omega) (by omega) (by omega), eo 8 (by omega) (by omega) (by omega) (by omega) (by omega) (by omega), eo 9 (by omega) (by omega) (by omega) (by omega) (by omega) (by omega)]
    exact c2
  · obtain ⟨i1, i2, i3, i4, i5, i6⟩ := g1
    refine ⟨by rw [n0 4 (by omega) (by omega)]; exact i1, i2, ?_, fun q hq => ?_, fun j => by rw [no 2 (by omega) (by omega) (by omega) (by omega)]; exact i5 j, fun q hq => by rw [no 1 (by omega) (by omega) (by omega) (by omega)]; exact i6 q hq⟩
    · unfold rT at i3 ⊢
      rw [no 6 (by omega) (by omega) (by omega) (by omega), no 7 (by omega) (by omega) (by omega) (by omega), no 8 (by omega) (by omega) (by omega) (by omega), n0 1 (by omega) (by omega), n0 2 (by omega) (by omega), n0 3 (by omega) (by omega)]
      exact i3
    · obtain ⟨a1, b1, d1, d2⟩ := i4 q hq
      unfold rS at a1 ⊢
      rw [no 2 (by omega) (by omega) (by omega) (by omega)]
      refine ⟨a1, ?_, d1, d2⟩
      unfold rP rn at b1 ⊢
      rw [n3, n4, n5]
      by_cases h : q = p
      · subst h
        rw [va_up_self]
        exact ⟨hq, by omega, by omega, up_ab b1.2.2.2.1 hx.1, up_ab b1.2.2.2.2 hx.2⟩
      · rw [va_up_ne _ _ h]
        exact ⟨hq, b1.2.1, b1.2.2.1, up_ab b1.2.2.2.1 hx.1, up_ab b1.2.2.2.2 hx.2⟩
/-- the class's lay: where nothing is laid -/
def q_layI (M : Nat → Nat → Int) (np : Nat) : Nat → Nat → Int := if M 0 4 = 0 then q_lay M np else M
theorem inv_lay {M N : Nat → Nat → Int} {np ns : Nat} (hi : INV M N np ns) : INV (q_layI M np) (r_lay N np) np ns ∧ q_layI M np 5 1 = r_layP N np 0 30 := by
  obtain ⟨ht, ⟨c1, c2, c3, c4⟩, ⟨g1, g2, g3, g4, g5⟩, hs⟩ := hi
  have fin : ∀ M0, tie M0 N np ns → wfC M0 → q_layI M np = q_lay M0 np → INV (q_layI M np) (r_lay N np) np ns ∧ q_layI M np 5 1 = r_layP N np 0 30 := by
    intro M0 h1 h2 h3
    rw [h3]
    obtain ⟨d1, d2, d3, d4⟩ := h2
    obtain ⟨eT, eU, eL, eC, eR, eW, eRL, e04, e15, -, eA⟩ := e_lay h1 d1 d2 d3 d4 g1 g2 g3
    have wT := wf_T eT
    refine ⟨⟨tie_U eU (tie_T eT h1), ⟨fun i hi => wT.2 i (d1 i hi), wT.1 d2, eW, eC⟩, ⟨rI_U eU g1, eRL, eR, ?_, ?_⟩, Or.inr ⟨e04, e15, eL, M0, rfl, tie_U eU h1, d1, d2, d3, d4⟩⟩, eA⟩
    · obtain ⟨nl, g, q1, q2, q3, q4, q5, q6, -⟩ := eL
      rw [q4]; omega
    · obtain ⟨nl, g, q1, q2, q3, q4, q5, q6, -⟩ := eL
      rw [q6]; omega
  rcases hs with ⟨a, b, c, d⟩ | ⟨a, b, c, M0, d, f, w⟩
  · exact fin M ht ⟨c1, c2, c3, c4⟩ (if_pos a)
  · exact fin M0 f w (by unfold q_layI; rw [if_neg (by omega)]; exact d)
