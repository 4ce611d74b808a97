/-! The two side by side, behind each call. My own. -/
theorem aft_par {M N : Nat → Nat → Int} {np ns : Nat} (h : INV M N np ns) : INV (if r_pac np = 0 then q_apar (q_fg M) np else M) (if np = 30 then mset N 0 0 1 else r_pa N np) (if r_pac np = 0 then np + 1 else np) ns ∧ (if np = 30 then mset N 0 0 1 else r_pa N np) 0 0 = r_pac np ∧ (0 ≤ r_pac np ∧ r_pac np ≤ 3) ∧ (r_pac np = 0 → (if np = 30 then 0 else ((np : Nat) : Int)) = ((np : Nat) : Int)) := by
  unfold r_pac
  by_cases h0 : np = 30
  · simp only [if_pos h0, if_neg (show ¬ (1 : Int) = 0 by omega)]
    exact ⟨inv_code 1 h, mset_same _ _ _ _, by omega, fun q => by omega⟩
  · simp only [if_neg h0, if_pos (show (0 : Int) = 0 from rfl)]
    have h1 : r_pa N np 0 0 = 0 := by
      unfold r_pa
      rw [mset_out (by omega), mset_out (by omega), mset_ne (by omega), r_shl_ne _ (by omega)]
      unfold r_pa1
      rw [mset_ne (by omega), r_pab_ne _ _ (by omega), mset_same]
    have := h.1.2.2.2.1.2.2
    exact ⟨inv_par h (by omega), h1, by omega, fun _ => trivial⟩
theorem aft_sign {M N : Nat → Nat → Int} {np ns : Nat} (h : INV M N np ns) (k w v : Int) : INV (if r_sgc N np k w v = 0 then q_asgn (q_fg M) np ns k w v else M) (if r_sgc N np k w v = 0 then r_sg N np ns k w v else mset N 0 0 (r_sgc N np k w v)) np (if r_sgc N np k w v = 0 then ns + 1 else ns) ∧ (if r_sgc N np k w v = 0 then r_sg N np ns k w v else mset N 0 0 (r_sgc N np k w v)) 0 0 = r_sgc N np k w v ∧ (0 ≤ r_sgc N np k w v ∧ r_sgc N np k w v ≤ 3) := by
  have hc := ans_sign h k w v
  have hb : 0 ≤ r_sgc N np k w v ∧ r_sgc N np k w v ≤ 3 := by
    rw [hc]
    split
    · omega
    · split
      · split <;> omega
      · omega
  by_cases h0 : r_sgc N np k w v = 0
  · rw [h0] at hc
    rw [h0, if_pos rfl, if_pos rfl, if_pos rfl]
    have h1 : r_sg N np ns k w v 0 0 = 0 := by unfold r_sg; rw [mset_out (by omega), mset_ne (by omega), mset_ne (by omega), mset_ne (by omega), mset_ne (by omega), mset_same]
    by_cases g0 : np = 0
    · rw [if_pos g0] at hc; omega
    · rw [if_neg g0] at hc
      by_cases g1 : inn k 0 6 ∧ inn w 0 4000 ∧ inn v 0 2000
      · rw [if_pos g1] at hc
        by_cases g2 : ns = 600
        · rw [if_pos g2] at hc; omega
        · have := h.1.2.2.2.2.1.2.1
          exact ⟨inv_sign h (by omega) g1 (by omega), h1, by omega⟩
      · rw [if_neg g1] at hc; omega
  · rw [if_neg h0, if_neg h0, if_neg h0]
    exact ⟨inv_code _ h, mset_same _ _ _ _, hb⟩
theorem aft_shape {M N : Nat → Nat → Int} {np ns : Nat} (h : INV M N np ns) (x w v : Int) : INV (if r_spc np x w v = 0 then mset (q_fg M) (30 + 4 * x.toNat) w.toNat v else M) (if r_spc np x w v = 0 then r_spM N x.toNat w.toNat v else mset N 0 0 (r_spc np x w v)) np ns ∧ (if r_spc np x w v = 0 then r_spM N x.toNat w.toNat v else mset N 0 0 (r_spc np x w v)) 0 0 = r_spc np x w v ∧ (0 ≤ r_spc np x w v ∧ r_spc np x w v ≤ 3) := by
  have hb : 0 ≤ r_spc np x w v ∧ r_spc np x w v ≤ 3 := by
    unfold r_spc
    split
    · split <;> omega
    · omega
  by_cases h0 : r_spc np x w v = 0
  · have hc := h0
    rw [h0, if_pos rfl, if_pos rfl]
    have h1 : r_spM N x.toNat w.toNat v 0 0 = 0 := by unfold r_spM; rw [mset_out (by omega), mset_ne (by omega), mset_same]
    unfold r_spc at hc
    by_cases g0 : inn x 0 (((np : Nat) : Int) - 1)
    · rw [if_pos g0] at hc
      by_cases g1 : inn w 0 10 ∧ inn v (r_least w) (r_most w)
      · have g2 : w = ((w.toNat : Nat) : Int) := by have := g1.1; unfold inn at this; omega
        have g3 := g1.1
        unfold inn at g0 g3
        refine ⟨inv_shape h (by omega) (by omega) ?_, h1, by omega⟩
        rw [← g2]
        exact g1.2
      · rw [if_neg g1] at hc; omega
    · rw [if_neg g0] at hc; omega
  · rw [if_neg h0, if_neg h0]
    exact ⟨inv_code _ h, mset_same _ _ _ _, hb⟩
theorem aft_stop {M N : Nat → Nat → Int} {np ns : Nat} (h : INV M N np ns) (x a k : Int) : INV (if r_stc N np x a k = 0 then q_stp (q_fg M) x.toNat (N 3 x.toNat).toNat a k else M) (if r_stc N np x a k = 0 then r_stM N x.toNat (N 3 x.toNat).toNat a k else mset N 0 0 (r_stc N np x a k)) np ns ∧ (if r_stc N np x a k = 0 then r_stM N x.toNat (N 3 x.toNat).toNat a k else mset N 0 0 (r_stc N np x a k)) 0 0 = r_stc N np x a k ∧ (0 ≤ r_stc N np x a k ∧ r_stc N np x a k ≤ 3) := by
  obtain ⟨a1, a2⟩ := ans_stop h x a k
  have hb : 0 ≤ r_stc N np x a k ∧ r_stc N np x a k ≤ 3 := by
    unfold r_stc
    split
    · split
      · split <;> omega
      · omega
    · omega
  by_cases h0 : r_stc N np x a k = 0
  · rw [h0, if_pos rfl, if_pos rfl]
    have h1 : r_stM N x.toNat (N 3 x.toNat).toNat a k 0 0 = 0 := by unfold r_stM; rw [mset_out (by omega), mset_ne (by omega), mset_ne (by omega), mset_ne (by omega), mset_same]
    by_cases g0 : inn x 0 (((np : Nat) : Int) - 1)
    · have g3 := g0
      unfold inn at g3
      obtain ⟨n, hwf, hn3, hcd⟩ := a2 x.toNat (by omega) (by omega)
      rw [h0] at hcd
      by_cases g1 : inn a (p_last n (M (31 + 4 * x.toNat)) + 1) 30000 ∧ inn k 0 2
      · rw [if_pos g1] at hcd
        by_cases g2 : n = 8
        · rw [if_pos g2] at hcd; omega
        · have hz : 0 ≤ p_last n (M (31 + 4 * x.toNat)) := by
            unfold p_last
            split
            · exact (hwf.2.2.2.1 _).1
            · omega
          have hn8 := hwf.2.1
          have e1 : (N 3 x.toNat).toNat = n := by rw [hn3]; omega
          have g4 := g1.1
          unfold inn at g4
          rw [e1] at h1 ⊢
          exact ⟨inv_stop h (by omega) hwf.2.2.1 (by omega) ⟨⟨by omega, by omega⟩, g1.2⟩, h1, by omega⟩
      · rw [if_neg g1] at hcd; omega
    · rw [a1 g0] at h0; omega
  · rw [if_neg h0, if_neg h0]
    exact ⟨inv_code _ h, mset_same _ _ _ _, hb⟩
theorem aft_sheet {M N : Nat → Nat → Int} {np ns : Nat} (h : INV M N np ns) (w v s : Int) : INV (if r_shc w v s = 0 then mset (mset (mset (q_fg M) 2 0 w) 2 1 v) 2 2 s else M) (if r_shc w v s = 0 then r_shM N w v s else mset N 0 0 (r_shc w v s)) np ns ∧ (if r_shc w v s = 0 then r_shM N w v s else mset N 0 0 (r_shc w v s)) 0 0 = r_shc w v s ∧ (0 ≤ r_shc w v s ∧ r_shc w v s ≤ 3) := by
  unfold r_shc
  by_cases h0 : inn w 1 30000 ∧ inn v 1 30000 ∧ inn s 1 30000
  · rw [if_pos h0, if_pos rfl, if_pos rfl]
    have h1 : r_shM N w v s 0 0 = 0 := by unfold r_shM; rw [mset_out (by omega), mset_out (by omega), mset_out (by omega), mset_out (by omega), mset_same]
    exact ⟨inv_sheet h h0, h1, by omega⟩
  · rw [if_neg h0, if_neg (by omega), if_neg (by omega)]
    exact ⟨inv_code _ h, mset_same _ _ _ _, by omega⟩
theorem aft_b {a b c : Int} {P R : Prop} [Decidable P] [Decidable R] (ha : 0 ≤ a ∧ a ≤ 3) (hb : 0 ≤ b ∧ b ≤ 3) (hc : 0 ≤ c ∧ c ≤ 3) : 0 ≤ (if P then (if R then a else b) else c) ∧ (if P then (if R then a else b) else c) ≤ 3 := by
  split
  · split <;> assumption
  · assumption
theorem lic_b (N : Nat → Nat → Int) (x w : Int) : 0 ≤ r_lic N x w ∧ r_lic N x w ≤ 3 := aft_b (by omega) (by omega) (by omega)
theorem whc_b (N : Nat → Nat → Int) (np : Nat) (x w : Int) : 0 ≤ r_whc N np x w ∧ r_whc N np x w ≤ 3 := aft_b (by omega) (by omega) (by omega)
theorem pgc_b (N : Nat → Nat → Int) (x w : Int) : 0 ≤ r_pgc N x w ∧ r_pgc N x w ≤ 3 := aft_b (by omega) (by omega) (by omega)
theorem htc_b (N : Nat → Nat → Int) (x : Int) : 0 ≤ r_htc N x ∧ r_htc N x ≤ 3 := by unfold r_htc; split <;> omega
theorem inv_chain {M N : Nat → Nat → Int} {np ns : Nat} (h : INV M N np ns) : (∀ i, i + 1 < np → M (29 + 4 * (i + 1)) 4 = M (29 + 4 * i) 5) ∧ (0 < np → M 29 4 = 0) ∧ (M 0 4 = 0 ∨ M 0 4 = 1) ∧ (0 < np → 0 ≤ N 1 0) := by
  obtain ⟨⟨t1, t2, t3, t4, t5, t6, t7⟩, -, -, hs⟩ := h
  refine ⟨fun i hi => ?_, fun hp => ?_, ?_, fun hp => by rw [t7 hp]; omega⟩
  · rw [(t6 (i + 1) hi).1, (t6 i (by omega)).2]
  · have := (t6 0 hp).1
    rw [t7 hp] at this
    exact this
  · rcases hs with ⟨a, -⟩ | ⟨a, -⟩
    · exact Or.inl a
    · exact Or.inr a
