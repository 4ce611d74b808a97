/-! What a laid line leaves in the rows. My own. -/
theorem q_al_eq2 (M : Nat → Nat → Int) (i a b bp nl : Nat) : eqb 21 25 (q_al M i a b bp nl) M := by
  have w1 : ∀ N : Nat → Nat → Int, eqb 23 25 N M → eqb 21 25 N M := fun N h j hj => h j (by omega)
  unfold q_al
  split
  · exact eqb_set (eqb_set (w1 _ (q_mv_eq _ _ _ _)) (by omega) (by omega)) (by omega) (by omega)
  · split
    · exact eqb_set (eqb_set (w1 _ (q_mv_eq _ _ _ _)) (by omega) (by omega)) (by omega) (by omega)
    · split
      · exact eqb_set (eqb_set (w1 _ (eqb_tr (q_mv_eq _ _ _ _) (q_wgM_eq _ _ _ _))) (by omega) (by omega)) (by omega) (by omega)
      · exact eqb_set (eqb_set (w1 _ (q_mv_eq _ _ _ _)) (by omega) (by omega)) (by omega) (by omega)
theorem q_ad_lo (M : Nat → Nat → Int) (i n a b bp nl : Nat) (x : Int) {j : Nat} (hj : j < 21) (h3 : j ≠ 3) : q_ad M i n a b bp nl x j = q_ad1 M i n a b nl x j := by
  unfold q_ad
  rw [mset_ne h3, q_al_eq2 _ _ _ _ _ _ j (by omega)]
theorem q_ps0_lo (M : Nat → Nat → Int) (i n a b : Nat) (x : Int) {j : Nat} (hj : j < 23) : q_ps0 M i n a b x j = M j := q_ps_eq _ _ _ _ _ _ _ _ _ _ j (by omega)
theorem q_ad_13 (M : Nat → Nat → Int) (i n a b bp nl : Nat) (x : Int) : q_ad M i n a b bp nl x 13 = va_up (M 13) nl ((i : Nat) : Int) := by
  rw [q_ad_lo _ _ _ _ _ _ _ _ (by omega) (by omega)]
  unfold q_ad1
  rw [mset_ne (by omega), mset_ne (by omega), mset_ne (by omega), mset_ne (by omega), mset_ne (by omega), mset_at, q_ps0_lo _ _ _ _ _ _ (by omega)]
theorem q_ad_14 (M : Nat → Nat → Int) (i n a b bp nl : Nat) (x : Int) : q_ad M i n a b bp nl x 14 = va_up (M 14) nl ((a : Nat) : Int) := by
  rw [q_ad_lo _ _ _ _ _ _ _ _ (by omega) (by omega)]
  unfold q_ad1
  rw [mset_ne (by omega), mset_ne (by omega), mset_ne (by omega), mset_ne (by omega), mset_at, mset_ne (by omega), q_ps0_lo _ _ _ _ _ _ (by omega)]
theorem q_ad_15 (M : Nat → Nat → Int) (i n a b bp nl : Nat) (x : Int) : q_ad M i n a b bp nl x 15 = va_up (M 15) nl (((b : Nat) : Int) - ((a : Nat) : Int)) := by
  rw [q_ad_lo _ _ _ _ _ _ _ _ (by omega) (by omega)]
  unfold q_ad1
  rw [mset_ne (by omega), mset_ne (by omega), mset_ne (by omega), mset_at, mset_ne (by omega), mset_ne (by omega), q_ps0_lo _ _ _ _ _ _ (by omega)]
theorem q_ad_16 (M : Nat → Nat → Int) (i n a b bp nl : Nat) (x : Int) : q_ad M i n a b bp nl x 16 = va_up (M 16) nl x := by
  rw [q_ad_lo _ _ _ _ _ _ _ _ (by omega) (by omega)]
  unfold q_ad1
  rw [mset_ne (by omega), mset_ne (by omega), mset_at, mset_ne (by omega), mset_ne (by omega), mset_ne (by omega), q_ps0_lo _ _ _ _ _ _ (by omega)]
theorem q_ad_17 (M : Nat → Nat → Int) (i n a b bp nl : Nat) (x : Int) : q_ad M i n a b bp nl x 17 = va_up (M 17) nl (q_end (q_ps0 M i n a b x) a (p_solid (M 7) a b) x) := by
  rw [q_ad_lo _ _ _ _ _ _ _ _ (by omega) (by omega)]
  unfold q_ad1
  rw [mset_ne (by omega), mset_at, mset_ne (by omega), mset_ne (by omega), mset_ne (by omega), mset_ne (by omega), q_ps0_lo _ _ _ _ _ _ (by omega)]
theorem q_ad_18 (M : Nat → Nat → Int) (i n a b bp nl : Nat) (x : Int) : q_ad M i n a b bp nl x 18 = va_up (M 18) nl (p_hgt (M 9) b (b - a) a (M (30 + 4 * i) 10)) := by
  rw [q_ad_lo _ _ _ _ _ _ _ _ (by omega) (by omega)]
  unfold q_ad1
  rw [mset_at, mset_ne (by omega), mset_ne (by omega), mset_ne (by omega), mset_ne (by omega), mset_ne (by omega), q_ps0_lo _ _ _ _ _ _ (by omega)]
theorem p_hgtb {ht : Nat → Int} {b : Nat} (hh : ∀ j, 0 ≤ ht j ∧ ht j ≤ 2000) : ∀ f i h, 0 ≤ h ∧ h ≤ 2000 → 0 ≤ p_hgt ht b f i h ∧ p_hgt ht b f i h ≤ 2000 := by
  intro f
  induction f with
  | zero => intro i h q; exact q
  | succ f ih =>
    intro i h q
    unfold p_hgt
    split
    · have := hh i
      exact ih _ _ (by omega)
    · exact q
theorem q_ad_wfl {M : Nat → Nat → Int} {i n a b bp nl : Nat} {x : Int} (hl : wfl M) (hi : i < 30) (hab : a ≤ b) (hb : b ≤ 600) (ht : wfT M) (h10 : 0 ≤ M (30 + 4 * i) 10 ∧ M (30 + 4 * i) 10 ≤ 2000) : wfl (q_ad M i n a b bp nl x) := by
  intro j
  rw [q_ad_13, q_ad_14, q_ad_15, q_ad_18]
  have hh := p_hgtb (b := b) ht.2.2.1 (b - a) a (M (30 + 4 * i) 10) h10
  have h0 := hl j
  unfold va_up
  by_cases h : j = nl
  · rw [if_pos h, if_pos h, if_pos h, if_pos h]
    omega
  · rw [if_neg h, if_neg h, if_neg h, if_neg h]
    exact h0
theorem wfl_rset {M : Nat → Nat → Int} {r : p_R} (hl : wfl M) : wfl (rset M r) := fun j => by
  rw [rset_ne (by omega), rset_ne (by omega), rset_ne (by omega), rset_ne (by omega)]
  exact hl j
theorem wfl_n {M : Nat → Nat → Int} {v : Int} (hl : wfl M) : wfl (mset M 3 2 v) := fun j => by
  rw [mset_ne (by omega), mset_ne (by omega), mset_ne (by omega), mset_ne (by omega)]
  exact hl j
theorem q_lines_wfl (i : Nat) (hi : i < 30) : ∀ f a x (M : Nat → Nat → Int), wfl M → wfT M → wfX M i → a ≤ pb M i → wfl (q_lines i f a x M) := by
  intro f
  induction f with
  | zero => intro a x M h _ _ _; exact h
  | succ f ih =>
    intro a x M hl ht hw ha
    unfold q_lines
    split
    · rename_i hlt
      have hle : (q_lx M i a x).1 ≤ pb M i := p_lx_le _ _ _ _ ha
      have hb6 : pb M i ≤ 600 := by have := hw.2.1; unfold pb; omega
      have hq : eqL (q_ad (rset M (q_lx M i a x).2) i (pn M i) a (max (a + 1) (q_lx M i a x).1) (pb M i) (nlM M) x) M := eqL_tr (q_ad_eqL _ _ _ _ _ _ _ _) eqL_rset
      refine ih _ _ _ ?_ (eqL_wfT hq ht) (eqL_wfX hq hw) (by unfold pb at *; rw [eqL_29 hq]; omega)
      refine q_ad_wfl (wfl_rset hl) hi (by omega) (by omega) (rset_wfT ht) ?_
      rw [rset_ne (by omega)]
      exact hw.2.2.2.2.2.2.2.2.2.2.2.2
    · exact hl
theorem q_par_wfl {M : Nat → Nat → Int} {i : Nat} (hi : i < 30) (hl : wfl M) (ht : wfT M) (hw : wfX M i) : wfl (q_par M i) := by
  have h1 := hw.2.1
  unfold q_par
  split
  · exact q_ad_wfl hl hi (Nat.le_refl _) (by unfold pf; omega) ht hw.2.2.2.2.2.2.2.2.2.2.2.2
  · exact q_lines_wfl i hi _ _ _ _ hl ht hw (by unfold pf pb; omega)
theorem q_all_eqL : ∀ f i M, eqL (q_all f i M) M := by
  intro f
  induction f with
  | zero => intro i M; exact eqL_rf
  | succ f ih => intro i M; exact eqL_tr (ih _ _) (q_par_eqL _ _)
theorem q_all_wfl : ∀ f i M, i + f ≤ 30 → wfl M → wfT M → (∀ k, k < 30 → wfX M k) → wfl (q_all f i M) := by
  intro f
  induction f with
  | zero => intro i M _ h _ _; exact h
  | succ f ih =>
    intro i M hif hl ht hw
    have hq := q_par_eqL M i
    exact ih _ _ (by omega) (q_par_wfl (by omega) hl ht (hw i (by omega))) (eqL_wfT hq ht) (fun k hk => eqL_wfX hq (hw k hk))
theorem q_all_n : ∀ f i (M : Nat → Nat → Int), i + f ≤ 30 → (∀ k, k < 30 → wfX M k) → (∀ k, k + 1 < i + f → M (29 + 4 * (k + 1)) 4 = M (29 + 4 * k) 5) → (0 ≤ M 3 2 ∧ (0 < f → M 3 2 ≤ M (29 + 4 * i) 4 + ((i : Nat) : Int)) ∧ M 3 2 ≤ 630) → 0 ≤ q_all f i M 3 2 ∧ q_all f i M 3 2 ≤ 630 := by
  intro f
  induction f with
  | zero => intro i M _ _ _ h; exact ⟨h.1, h.2.2⟩
  | succ f ih =>
    intro i M hif hw hch hn
    have hq := q_par_eqL M i
    have hwi := hw i (by omega)
    have h1 := q_par_n M i hwi ⟨hn.1, hn.2.1 (by omega)⟩
    have h2 := hwi.2.1
    refine ih _ _ (by omega) (fun k hk => eqL_wfX hq (hw k hk)) (fun k hk => ?_) ⟨h1.1, fun hf => ?_, by omega⟩
    · rw [eqL_29 hq (k + 1), eqL_29 hq k]
      exact hch k (by omega)
    · rw [eqL_29 hq (i + 1), hch i (by omega)]
      omega
