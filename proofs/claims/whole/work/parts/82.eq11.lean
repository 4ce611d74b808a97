/-! The two run side by side: what stays true, and that both answer alike. My own. -/
def wfC (M : Nat → Nat → Int) : Prop := (∀ i, i < 30 → wfX M i) ∧ wfT M ∧ wfl M ∧ bC M
def wfN (N : Nat → Nat → Int) (np : Nat) : Prop := rI N np ∧ rL N ∧ bR N ∧ (0 ≤ N 0 16 ∧ N 0 16 ≤ 630) ∧ (0 ≤ N 0 30 ∧ N 0 30 ≤ 630)
def stat (M N : Nat → Nat → Int) (np ns : Nat) : Prop := (M 0 4 = 0 ∧ N 0 15 = 0 ∧ M 3 2 = 0 ∧ M 5 1 = 0) ∨ (M 0 4 = 1 ∧ N 0 15 = 1 ∧ laid M N ns ∧ ∃ M0, M = q_lay M0 np ∧ tie M0 N np ns ∧ wfC M0)
def INV (M N : Nat → Nat → Int) (np ns : Nat) : Prop := tie M N np ns ∧ wfC M ∧ wfN N np ∧ stat M N np ns
/-- the rows of lines, signs and pages stay -/
theorem keepC {M M' : Nat → Nat → Int} (h : ∀ j, 13 ≤ j → j ≤ 28 → M' j = M j) : (wfl M → wfl M') ∧ (bC M → bC M') := by
  refine ⟨fun hw j => ?_, fun hb j => ?_⟩
  · rw [h 13 (by omega) (by omega), h 14 (by omega) (by omega), h 15 (by omega) (by omega), h 18 (by omega) (by omega)]; exact hw j
  · rw [h 20 (by omega) (by omega), h 24 (by omega) (by omega), h 25 (by omega) (by omega)]; exact hb j
theorem keepN {N N' : Nat → Nat → Int} (h : ∀ j, 11 ≤ j → j ≤ 24 → N' j = N j) : (rL N → rL N') ∧ (bR N → bR N') := by
  refine ⟨fun hw j => ?_, fun hb r h1 h2 j => ?_⟩
  · rw [h 11 (by omega) (by omega), h 12 (by omega) (by omega), h 13 (by omega) (by omega), h 16 (by omega) (by omega)]; exact hw j
  · rw [h r (by omega) (by omega)]; exact hb r h1 h2 j
theorem inv_code {M N : Nat → Nat → Int} {np ns : Nat} (v : Int) (h : INV M N np ns) : INV M (mset N 0 0 v) np ns := by
  obtain ⟨h1, h2, ⟨g1, g2, g3, g4, g5⟩, h4⟩ := h
  have eU : eqU (mset N 0 0 v) N := eqU_0 (by omega)
  have e : ∀ j, j ≠ 0 → mset N 0 0 v j = N j := fun j hj => mset_ne hj
  have e0 : ∀ k, k ≠ 0 → mset N 0 0 v 0 k = N 0 k := fun k hk => mset_out hk
  have k := keepN (N := N) (N' := mset N 0 0 v) (fun j _ _ => e j (by omega))
  refine ⟨tie_U eU h1, h2, ⟨rI_U eU g1, k.1 g2, k.2 g3, by rw [e0 16 (by omega)]; exact g4, by rw [e0 30 (by omega)]; exact g5⟩, ?_⟩
  rcases h4 with ⟨a, b, c, d⟩ | ⟨a, b, ⟨nl, g, q⟩, M0, d, f, w⟩
  · exact Or.inl ⟨a, by rw [e0 15 (by omega)]; exact b, c, d⟩
  · refine Or.inr ⟨a, by rw [e0 15 (by omega)]; exact b, ⟨nl, g, ?_⟩, M0, d, tie_U eU f, w⟩
    obtain ⟨q1, q2, q3, q4, q5, q6, q7, q8, q9, q10⟩ := q
    refine ⟨q1, q2, q3, by rw [e0 16 (by omega)]; exact q4, q5, by rw [e0 30 (by omega)]; exact q6, fun r hr j hj => by rw [e (11 + r) (by omega)]; exact q7 r hr j hj, fun j hj => by rw [e 21 (by omega), e 22 (by omega), e 23 (by omega)]; exact q8 j hj, fun p hp => ?_, q10⟩
    rw [e 24 (by omega), e 18 (by omega), e 16 (by omega)]
    exact q9 p hp
theorem q_fg_0 (M : Nat → Nat → Int) : q_fg M 0 4 = 0 ∧ q_fg M 3 2 = 0 ∧ q_fg M 5 1 = 0 := by
  unfold q_fg
  refine ⟨?_, ?_, mset_same _ _ _ _⟩
  · rw [mset_ne (by omega), mset_ne (by omega), mset_same]
  · rw [mset_ne (by omega), mset_same]
theorem eqT_fg (M : Nat → Nat → Int) : eqT (q_fg M) M := ⟨q_fg_ne (by omega) (by omega) (by omega), q_fg_ne (by omega) (by omega) (by omega), q_fg_ne (by omega) (by omega) (by omega), q_fg_ne (by omega) (by omega) (by omega), q_fg_ne (by omega) (by omega) (by omega), fun j hj => q_fg_ne (by omega) (by omega) (by omega)⟩
/-- behind a change of the text: all is forgotten -/
theorem inv_text {M N M' N' : Nat → Nat → Int} {np ns np' ns' : Nat} (h : INV M N np ns) (ht : tie M' N' np' ns') (hX : ∀ i, i < 30 → wfX M' i) (hT : wfT M') (hI : rI N' np') (hM : ∀ j, 13 ≤ j → j ≤ 28 → M' j = M j) (hN : ∀ j, 11 ≤ j → j ≤ 24 → N' j = N j) (h16 : N' 0 16 = N 0 16) (h30 : N' 0 30 = N 0 30) (h0 : M' 0 4 = 0 ∧ M' 3 2 = 0 ∧ M' 5 1 = 0) (h15 : N' 0 15 = 0) : INV M' N' np' ns' := by
  obtain ⟨-, ⟨-, -, c3, c4⟩, ⟨-, g2, g3, g4, g5⟩, -⟩ := h
  have k := keepC hM
  have k2 := keepN hN
  exact ⟨ht, ⟨hX, hT, k.1 c3, k.2 c4⟩, ⟨hI, k2.1 g2, k2.2 g3, by rw [h16]; exact g4, by rw [h30]; exact g5⟩, Or.inl ⟨h0.1, h15, h0.2.1, h0.2.2⟩⟩
theorem inv_sheet {M N : Nat → Nat → Int} {np ns : Nat} {w h s : Int} (hi : INV M N np ns) (hw : inn w 1 30000 ∧ inn h 1 30000 ∧ inn s 1 30000) : INV (mset (mset (mset (q_fg M) 2 0 w) 2 1 h) 2 2 s) (r_shM N w h s) np ns := by
  have hi0 := hi
  obtain ⟨ht, ⟨c1, c2, c3, c4⟩, ⟨g1, g2, g3, g4, g5⟩, -⟩ := hi
  obtain ⟨M', hM'⟩ : ∃ K, K = mset (mset (mset (q_fg M) 2 0 w) 2 1 h) 2 2 s := ⟨_, rfl⟩
  have e : ∀ j, j ≠ 2 → M' j = q_fg M j := fun j hj => by rw [hM', mset_ne hj, mset_ne hj, mset_ne hj]
  have eo : ∀ j, j ≠ 0 → j ≠ 2 → j ≠ 3 → j ≠ 5 → M' j = M j := fun j h0 h2 h3 h5 => by rw [e j h2, q_fg_ne h0 h3 h5]
  have v0 : M' 2 0 = w := by rw [hM', mset_out (by omega), mset_out (by omega), mset_same]
  have v1 : M' 2 1 = h := by rw [hM', mset_out (by omega), mset_same]
  have v2 : M' 2 2 = s := by rw [hM', mset_same]
  have n0 : ∀ j, j ≠ 0 → r_shM N w h s j = N j := fun j hj => by unfold r_shM; rw [mset_ne hj, mset_ne hj, mset_ne hj, mset_ne hj, mset_ne hj]
  have nk : ∀ k, 4 ≤ k → k ≠ 15 → r_shM N w h s 0 k = N 0 k := fun k h1 h2 => by unfold r_shM; rw [mset_out h2, mset_out (by omega), mset_out (by omega), mset_out (by omega), mset_out (by omega)]
  have u1 : r_shM N w h s 0 1 = w := by unfold r_shM; rw [mset_out (by omega), mset_out (by omega), mset_out (by omega), mset_same]
  have u2 : r_shM N w h s 0 2 = h := by unfold r_shM; rw [mset_out (by omega), mset_out (by omega), mset_same]
  have u3 : r_shM N w h s 0 3 = s := by unfold r_shM; rw [mset_out (by omega), mset_same]
  have u15 : r_shM N w h s 0 15 = 0 := by unfold r_shM; rw [mset_same]
  rw [← hM']
  refine inv_text hi0 ?_ (fun i hi => ?_) ?_ ?_ (fun j a b => eo j (by omega) (by omega) (by omega) (by omega)) (fun j a b => n0 j (by omega)) (nk 16 (by omega) (by omega)) (nk 30 (by omega) (by omega)) (by rw [e 0 (by omega), e 3 (by omega), e 5 (by omega)]; exact q_fg_0 M) u15
  · obtain ⟨t1, t2, t3, t4, t5, t6, t7⟩ := ht
    refine ⟨?_, ?_, fun i hi => ?_, ?_, ?_, fun i hi => ?_, ?_⟩
    · rw [eo 7 (by omega) (by omega) (by omega) (by omega), eo 8 (by omega) (by omega) (by omega) (by omega), eo 9 (by omega) (by omega) (by omega) (by omega), n0 6 (by omega), n0 7 (by omega), n0 8 (by omega)]; exact t1
    · rw [v0, v1, v2, u1, u2, u3]; exact ⟨rfl, rfl, rfl⟩
    · rw [eo (30 + 4 * i) (by omega) (by omega) (by omega) (by omega), eo (29 + 4 * i) (by omega) (by omega) (by omega) (by omega), eo (31 + 4 * i) (by omega) (by omega) (by omega) (by omega), eo (32 + 4 * i) (by omega) (by omega) (by omega) (by omega), n0 2 (by omega), n0 3 (by omega), n0 4 (by omega), n0 5 (by omega)]; exact t3 i hi
    · rw [eo 1 (by omega) (by omega) (by omega) (by omega), nk 4 (by omega) (by omega)]; exact t4
    · rw [eo 1 (by omega) (by omega) (by omega) (by omega), n0 1 (by omega)]; exact t5
    · rw [eo (29 + 4 * i) (by omega) (by omega) (by omega) (by omega), n0 1 (by omega)]; exact t6 i hi
    · rw [n0 1 (by omega)]; exact t7
  · have := c1 i hi
    unfold wfX wfP pn at this ⊢
    rw [eo (30 + 4 * i) (by omega) (by omega) (by omega) (by omega), eo (29 + 4 * i) (by omega) (by omega) (by omega) (by omega), eo (31 + 4 * i) (by omega) (by omega) (by omega) (by omega), eo (32 + 4 * i) (by omega) (by omega) (by omega) (by omega)]
    exact this
  · unfold wfT at c2 ⊢
    rw [eo 7 (by omega) (by omega) (by omega) (by omega), eo 8 (by omega) (by omega) (by omega) (by omega), eo 9 (by omega) (by omega) (by omega) (by omega), v0, v1, v2]
    exact ⟨c2.1, c2.2.1, c2.2.2.1, hw.1, hw.2.1, hw.2.2⟩
  · unfold rI rT rS rP rZ rn at g1 ⊢
    rw [n0 1 (by omega), n0 2 (by omega), n0 3 (by omega), n0 4 (by omega), n0 5 (by omega), n0 6 (by omega), n0 7 (by omega), n0 8 (by omega), u1, u2, u3, nk 4 (by omega) (by omega)]
    exact ⟨g1.1, g1.2.1, ⟨g1.2.2.1.1, g1.2.2.1.2.1, g1.2.2.1.2.2.1, hw.1, hw.2.1, hw.2.2⟩, g1.2.2.2⟩
theorem inv_clear {M N : Nat → Nat → Int} {np ns : Nat} (hi : INV M N np ns) : INV (q_clr M) (r_clr N) 0 0 := by
  have hi0 := hi
  obtain ⟨ht, ⟨c1, c2, c3, c4⟩, ⟨g1, g2, g3, g4, g5⟩, -⟩ := hi
  have eo : ∀ j, j ≠ 0 → j ≠ 1 → j ≠ 3 → j ≠ 5 → q_clr M j = M j := fun j h0 h1 h3 h5 => by unfold q_clr; rw [q_fg_ne h0 h3 h5, mset_ne h1, mset_ne h1]
  have v4 : q_clr M 1 4 = 0 := by unfold q_clr; rw [q_fg_ne (by omega) (by omega) (by omega), mset_out (by omega), mset_same]
  have v5 : q_clr M 1 5 = 0 := by unfold q_clr; rw [q_fg_ne (by omega) (by omega) (by omega), mset_same]
  have n0 : ∀ j, j ≠ 0 → r_clr N j = N j := fun j hj => by unfold r_clr; rw [mset_ne hj, mset_ne hj, mset_ne hj]
  have nk : ∀ k, k ≠ 0 → k ≠ 4 → k ≠ 15 → r_clr N 0 k = N 0 k := fun k h1 h2 h3 => by unfold r_clr; rw [mset_out h3, mset_out h2, mset_out h1]
  have u4 : r_clr N 0 4 = 0 := by unfold r_clr; rw [mset_out (by omega), mset_same]
  have u15 : r_clr N 0 15 = 0 := by unfold r_clr; rw [mset_same]
  refine inv_text hi0 ?_ (fun i hi => ?_) ?_ ?_ (fun j a b => eo j (by omega) (by omega) (by omega) (by omega)) (fun j a b => n0 j (by omega)) (nk 16 (by omega) (by omega) (by omega)) (nk 30 (by omega) (by omega) (by omega)) (by unfold q_clr; exact q_fg_0 _) u15
  · obtain ⟨t1, t2, t3, t4, t5, t6, t7⟩ := ht
    refine ⟨?_, ?_, fun i hi => ?_, ?_, ?_, fun i hi => by omega, fun h => by omega⟩
    · rw [eo 7 (by omega) (by omega) (by omega) (by omega), eo 8 (by omega) (by omega) (by omega) (by omega), eo 9 (by omega) (by omega) (by omega) (by omega), n0 6 (by omega), n0 7 (by omega), n0 8 (by omega)]; exact t1
    · rw [eo 2 (by omega) (by omega) (by omega) (by omega), nk 1 (by omega) (by omega) (by omega), nk 2 (by omega) (by omega) (by omega), nk 3 (by omega) (by omega) (by omega)]; exact t2
    · rw [eo (30 + 4 * i) (by omega) (by omega) (by omega) (by omega), eo (29 + 4 * i) (by omega) (by omega) (by omega) (by omega), eo (31 + 4 * i) (by omega) (by omega) (by omega) (by omega), eo (32 + 4 * i) (by omega) (by omega) (by omega) (by omega), n0 2 (by omega), n0 3 (by omega), n0 4 (by omega), n0 5 (by omega)]; exact t3 i hi
    · rw [v4, u4]; exact ⟨rfl, rfl, by omega⟩
    · rw [v5]; exact ⟨rfl, by omega, fun h => by omega, fun _ => rfl⟩
  · have := c1 i hi
    unfold wfX wfP pn at this ⊢
    rw [eo (30 + 4 * i) (by omega) (by omega) (by omega) (by omega), eo (29 + 4 * i) (by omega) (by omega) (by omega) (by omega), eo (31 + 4 * i) (by omega) (by omega) (by omega) (by omega), eo (32 + 4 * i) (by omega) (by omega) (by omega) (by omega)]
    exact this
  · unfold wfT at c2 ⊢
    rw [eo 7 (by omega) (by omega) (by omega) (by omega), eo 8 (by omega) (by omega) (by omega) (by omega), eo 9 (by omega) (by omega) (by omega) (by omega), eo 2 (by omega) (by omega) (by omega) (by omega)]
    exact c2
  · unfold rI rT rS rP rZ rn at g1 ⊢
    rw [n0 1 (by omega), n0 2 (by omega), n0 3 (by omega), n0 4 (by omega), n0 5 (by omega), n0 6 (by omega), n0 7 (by omega), n0 8 (by omega), u4, nk 1 (by omega) (by omega) (by omega), nk 2 (by omega) (by omega) (by omega), nk 3 (by omega) (by omega) (by omega)]
    exact ⟨rfl, by omega, g1.2.2.1, g1.2.2.2.1, g1.2.2.2.2.1, fun q hq => by omega⟩
