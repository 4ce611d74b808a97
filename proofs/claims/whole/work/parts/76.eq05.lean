/-- a line aligned: what the class writes is what the reference writes -/
theorem e_al {M1 N0 : Nat → Nat → Int} {q a b e nl : Nat} {kd ac br : Nat → Int} {rest : Int} (hkd : M1 7 = kd) (hab : a ≤ b) (hbe : b ≤ e) (hb6 : b ≤ 600) (hin : ∀ k, a ≤ k → k + 1 < b → ¬ p_endl kd k)
    (hr : q_rest M1 q nl = rest) (hrb : 0 ≤ rest ∧ rest ≤ 30000) (h24 : ∀ j, a ≤ j → j < b → M1 24 j = ac j ∧ M1 25 j = br j ∧ M1 23 j = ((nl : Nat) : Int)) (hac : ∀ j, a ≤ j → j < b → (0 ≤ ac j ∧ ac j ≤ 37000000) ∧ (0 ≤ br j ∧ br j ≤ 60000))
    {al : Int} (hal : M1 (30 + 4 * q) 5 = al) {mv sp : Int} (hmv : mv = if al = 1 then rest else if al = 2 then rest.tdiv 2 else 0) (hsp : sp = if al = 3 ∧ 0 < r_gc kd (p_solid kd a b) (b - a) a 0 ∧ decide (b = e) = false ∧ ¬ p_endl kd (b - 1) then 1 else 0)
    {R : Nat → Nat → Int} (hR : R = r_l3 kd ac br (p_solid kd a b) (r_gc kd (p_solid kd a b) (b - a) a 0) sp rest ((nl : Nat) : Int) (b - a) a mv 0 ((q_gc kd (p_solid kd a b - a) a 0 : Nat) : Int) N0) :
    (q_al M1 q a b e nl 21 = va_up (M1 21) nl mv ∧ q_al M1 q a b e nl 22 = va_up (M1 22) nl (if sp = 0 then 0 else rest)) ∧
    (∀ j, a ≤ j → j < b → (q_al M1 q a b e nl 23 j = R 21 j ∧ q_al M1 q a b e nl 24 j = R 22 j ∧ q_al M1 q a b e nl 25 j = R 23 j) ∧ (R 21 j = ((nl : Nat) : Int) ∧ (0 ≤ R 22 j ∧ R 22 j ≤ 100000000) ∧ (0 ≤ R 23 j ∧ R 23 j ≤ 100000000))) ∧
    (∀ j, j < a ∨ b ≤ j → q_al M1 q a b e nl 23 j = M1 23 j ∧ q_al M1 q a b e nl 24 j = M1 24 j ∧ q_al M1 q a b e nl 25 j = M1 25 j) := by
  have hsl := p_solid_le kd a b
  have hsg := p_solid_ge kd a b hab
  have hss := p_solid_sp hab hin
  obtain ⟨t1, t2, t3, t4⟩ := p_blt_sp kd a b
  have t2 := t2 hab
  have hTs : p_blt kd a b ≤ p_solid kd a b := by
    by_cases h : a < p_blt kd a b
    · have h2 := t4 h
      by_cases h3 : p_solid kd a b ≤ p_blt kd a b - 1
      · rcases hss.1 _ h3 (by omega) with q | q | q <;> omega
      · omega
    · omega
  have hg := r_gaps_eq hab hsl hTs
  -- the simple roads: one shift of all
  have simple : ∀ (v w : Int), sp = 0 → mv = v → 0 ≤ v ∧ v ≤ 30000 → w = 0 →
      (mset (mset (q_mv v (b - a) a M1) 21 nl v) 22 nl w 21 = va_up (M1 21) nl mv ∧ mset (mset (q_mv v (b - a) a M1) 21 nl v) 22 nl w 22 = va_up (M1 22) nl (if sp = 0 then 0 else rest)) ∧
      (∀ j, a ≤ j → j < b → (mset (mset (q_mv v (b - a) a M1) 21 nl v) 22 nl w 23 j = R 21 j ∧ mset (mset (q_mv v (b - a) a M1) 21 nl v) 22 nl w 24 j = R 22 j ∧ mset (mset (q_mv v (b - a) a M1) 21 nl v) 22 nl w 25 j = R 23 j) ∧ (R 21 j = ((nl : Nat) : Int) ∧ (0 ≤ R 22 j ∧ R 22 j ≤ 100000000) ∧ (0 ≤ R 23 j ∧ R 23 j ≤ 100000000))) ∧
      (∀ j, j < a ∨ b ≤ j → mset (mset (q_mv v (b - a) a M1) 21 nl v) 22 nl w 23 j = M1 23 j ∧ mset (mset (q_mv v (b - a) a M1) 21 nl v) 22 nl w 24 j = M1 24 j ∧ mset (mset (q_mv v (b - a) a M1) 21 nl v) 22 nl w 25 j = M1 25 j) := by
    intro v w hs hm hv hw
    refine ⟨⟨?_, ?_⟩, fun j h1 h2 => ?_, fun j h => ?_⟩
    · rw [mset_ne (by omega), mset_at, q_mv_23 _ _ _ _ _ (by omega), hm]
    · rw [mset_at, mset_ne (by omega), q_mv_23 _ _ _ _ _ (by omega), if_pos hs, hw]
    · have g := h24 j h1 h2
      have g2 := hac j h1 h2
      obtain ⟨r1, r2, r3⟩ := r_l3_0 (kd := kd) (ac := ac) (br := br) (so := p_solid kd a b) (gaps := r_gc kd (p_solid kd a b) (b - a) a 0) (rest := rest) (ln := ((nl : Nat) : Int)) (b - a) a mv 0 ((q_gc kd (p_solid kd a b - a) a 0 : Nat) : Int) N0 j h1 (by omega)
      rw [hR, hs, r1, r2, r3, mset_ne (by omega), mset_ne (by omega), mset_ne (by omega), mset_ne (by omega), mset_ne (by omega), mset_ne (by omega), q_mv_23 _ _ _ _ 23 (by omega), q_mv_23 _ _ _ _ 25 (by omega), q_mv_at _ _ _ _ _ h1 (by omega), g.1, g.2.1, g.2.2, hm]
      omega
    · rw [mset_ne (by omega), mset_ne (by omega), mset_ne (by omega), mset_ne (by omega), mset_ne (by omega), mset_ne (by omega), q_mv_23 _ _ _ _ 23 (by omega), q_mv_23 _ _ _ _ 25 (by omega), q_mv_lt _ _ _ _ _ _ (by omega)]
      exact ⟨rfl, rfl, rfl⟩
  unfold q_al
  rw [hal, hr, hkd]
  by_cases h1 : al = 1
  · rw [if_pos h1]
    exact simple rest 0 (by rw [hsp]; exact if_neg (by omega)) (by rw [hmv, if_pos h1]) hrb rfl
  · rw [if_neg h1]
    by_cases h2 : al = 2
    · rw [if_pos h2]
      have : 0 ≤ rest.tdiv 2 ∧ rest.tdiv 2 ≤ 30000 := by rw [Int.tdiv_eq_ediv_of_nonneg hrb.1]; omega
      exact simple _ 0 (by rw [hsp]; exact if_neg (by omega)) (by rw [hmv, if_neg h1, if_pos h2]) this rfl
    · rw [if_neg h2]
      have hmv0 : mv = 0 := by rw [hmv, if_neg h1, if_neg h2]
      by_cases h3 : al = 3 ∧ b < e ∧ ¬ p_endl kd (b - 1)
      · rw [if_pos h3]
        unfold q_wgM q_wgV
        rw [hkd, ← hg]
        by_cases h4 : r_gc kd (p_solid kd a b) (b - a) a 0 < 1
        · rw [if_pos h4, if_pos h4]
          exact simple 0 0 (by rw [hsp]; exact if_neg (by omega)) hmv0 (by omega) rfl
        · rw [if_neg h4, if_neg h4]
          have hs1 : sp = 1 := by rw [hsp]; exact if_pos ⟨h3.1, by omega, decide_eq_false (by omega), h3.2.2⟩
          generalize hgp : r_gc kd (p_solid kd a b) (b - a) a 0 = gaps at h4 hg hR ⊢
          have hB : q_gc kd (p_solid kd a b - a) a 0 = q_gc kd (p_blt kd a b - a) a 0 + gaps := by
            rw [show p_solid kd a b - a = (p_blt kd a b - a) + (p_solid kd a b - p_blt kd a b) by omega, q_gc_split, show a + (p_blt kd a b - a) = p_blt kd a b by omega, hg]
          generalize p_blt kd a b = T at t1 t2 t3 t4 hTs hg hB ⊢
          generalize p_solid kd a b = so at hsl hsg hss hTs hR hB ⊢
          obtain ⟨M', g1, g2, g3, g4⟩ := r_l3_a (kd := kd) (ac := ac) (br := br) (so := so) (gaps := gaps) (sp := sp) (rest := rest) (ln := ((nl : Nat) : Int)) (b - T) (T - a) a mv 0 ((q_gc kd (so - a) a 0 : Nat) : Int) N0 (by omega) (by omega) (by omega)
          rw [show T - a + (b - T) = b - a by omega, show a + (T - a) = T by omega] at g1
          have hd : 0 ≤ rest.tdiv ((gaps : Nat) : Int) ∧ rest.tdiv ((gaps : Nat) : Int) ≤ 30000 := by
            rw [Int.tdiv_eq_ediv_of_nonneg hrb.1]
            refine ⟨Int.ediv_nonneg hrb.1 (by omega), ?_⟩
            exact Int.le_trans (Int.ediv_le_self _ hrb.1) hrb.2
          have hw := e_wg (kd := kd) (ac := ac) (br := br) (so := so) (gaps := gaps) (sp := sp) (rest := rest) (ln := ((nl : Nat) : Int)) (by omega) hd (b - T) T (rest - rest.tdiv ((gaps : Nat) : Int) * ((gaps : Nat) : Int)) 0 0 ((gaps : Nat) : Int) M1 M' (by omega) (Int.le_refl _) (Int.le_refl _) (fun j q1 q2 => ⟨(h24 j (by omega) (by omega)).1, (h24 j (by omega) (by omega)).2.1⟩)
          rw [hmv0] at g1 hR g2 ⊢
          rw [g1] at hR
          refine ⟨⟨?_, ?_⟩, fun j q1 q2 => ?_, fun j h => ?_⟩
          · rw [mset_ne (by omega), mset_at, q_mv_23 _ _ _ _ _ (by omega), q_wg_eq _ _ _ _ _ _ _ _ 21 (by omega)]
          · rw [mset_at, mset_ne (by omega), q_mv_23 _ _ _ _ _ (by omega), q_wg_eq _ _ _ _ _ _ _ _ 22 (by omega), if_neg (by omega)]
          · have g := h24 j q1 q2
            have g0 := hac j q1 q2
            rw [mset_ne (by omega), mset_ne (by omega), mset_ne (by omega), mset_ne (by omega), mset_ne (by omega), mset_ne (by omega), q_mv_23 _ _ _ _ 23 (by omega), q_mv_23 _ _ _ _ 25 (by omega), q_mv_at _ _ _ _ _ q1 (by omega), q_wg_23, g.2.2]
            by_cases hj : j < T
            · rw [q_wg_lt _ _ _ _ _ _ _ _ _ _ hj, q_wg_lt _ _ _ _ _ _ _ _ _ _ hj, hR, r_l3_lt _ _ _ _ _ _ _ _ _ _ _ _ _ _ _ _ hj, r_l3_lt _ _ _ _ _ _ _ _ _ _ _ _ _ _ _ _ hj, r_l3_lt _ _ _ _ _ _ _ _ _ _ _ _ _ _ _ _ hj, (g2 j q1 (by omega)).1, (g2 j q1 (by omega)).2.1, (g2 j q1 (by omega)).2.2, g.1, g.2.1]
              omega
            · have k := hw j (by omega) (by omega)
              rw [hR, k.1.1, k.1.2.1, k.1.2.2]
              omega
          · rw [mset_ne (by omega), mset_ne (by omega), mset_ne (by omega), mset_ne (by omega), mset_ne (by omega), mset_ne (by omega), q_mv_23 _ _ _ _ 23 (by omega), q_mv_23 _ _ _ _ 25 (by omega), q_mv_lt _ _ _ _ _ _ (by omega), q_wg_23]
            rcases h with h | h
            · rw [q_wg_lt _ _ _ _ _ _ _ _ _ _ (by omega), q_wg_lt _ _ _ _ _ _ _ _ _ _ (by omega)]
              exact ⟨rfl, rfl, rfl⟩
            · rw [q_wg_ge _ _ _ _ _ _ _ _ _ _ (by omega), q_wg_ge _ _ _ _ _ _ _ _ _ _ (by omega)]
              exact ⟨rfl, rfl, rfl⟩
      · rw [if_neg h3]
        refine simple 0 0 ?_ hmv0 (by omega) rfl
        rw [hsp]
        refine if_neg (fun q => h3 ⟨q.1, ?_, q.2.2.2⟩)
        have := of_decide_eq_false q.2.2.1
        omega
