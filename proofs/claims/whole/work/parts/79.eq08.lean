/-! Pages: the class fills them as the reference does. My own. -/
/-- the two agree about where pages must and may end, spaces and heights -/
def e_PT (M N : Nat → Nat → Int) (nl : Nat) : Prop := (∀ w, 1 ≤ w → w < nl → (q_mu M w ↔ r_mu N nl (w - 1)) ∧ (q_ma M w ↔ r_ma N nl (w - 1)) ∧ q_sp M w = r_btw N w) ∧ (∀ w, w < nl → M 18 w = N 16 w) ∧ M 2 1 = N 0 2 ∧ nlM M = nl
/-- how far down the lines of a page stand -/
def e_D (N : Nat → Nat → Int) (a : Nat) : Nat → Int
  | 0 => 0
  | i + 1 => e_D N a i + N 16 (a + i) + r_btw N (a + (i + 1))
/-- the i-th line of a page is too low -/
abbrev e_ov (N : Nat → Nat → Int) (a i : Nat) : Prop := N 0 2 < e_D N a i + N 16 (a + i)
theorem e_can {N : Nat → Nat → Int} {a nl : Nat} : ∀ f i, a + (i + 1) + f = nl → i + 1 ≤ r_can N a nl f (i + 1) (e_D N a i + N 16 (a + i)) ∧ a + r_can N a nl f (i + 1) (e_D N a i + N 16 (a + i)) ≤ nl ∧ (∀ m, i + 1 ≤ m → m < r_can N a nl f (i + 1) (e_D N a i + N 16 (a + i)) → ¬ e_ov N a m) ∧ (a + r_can N a nl f (i + 1) (e_D N a i + N 16 (a + i)) = nl ∨ e_ov N a (r_can N a nl f (i + 1) (e_D N a i + N 16 (a + i)))) := by
  intro f
  induction f with
  | zero => intro i h; exact ⟨Nat.le_refl _, by show a + (i + 1) ≤ nl; omega, fun m h1 h2 => by have : m < i + 1 := h2; omega, Or.inl (by show a + (i + 1) = nl; omega)⟩
  | succ f ih =>
    intro i h
    have hs : r_can N a nl (f + 1) (i + 1) (e_D N a i + N 16 (a + i)) = if e_ov N a (i + 1) then i + 1 else r_can N a nl f (i + 1 + 1) (e_D N a (i + 1) + N 16 (a + (i + 1))) := rfl
    rw [hs]
    by_cases ho : e_ov N a (i + 1)
    · rw [if_pos ho]
      exact ⟨Nat.le_refl _, by omega, fun m h1 h2 => by omega, Or.inr ho⟩
    · rw [if_neg ho]
      obtain ⟨g1, g2, g3, g4⟩ := ih (i + 1) (by omega)
      refine ⟨by omega, g2, fun m h1 h2 => ?_, g4⟩
      by_cases hm : m = i + 1
      · subst hm; exact ho
      · exact g3 m (by omega) h2
theorem e_fm {N : Nat → Nat → Int} {a nl : Nat} : ∀ f n, n ≤ r_fm N a nl f n ∧ r_fm N a nl f n ≤ n + f ∧ (∀ k, n ≤ k → k < r_fm N a nl f n → ¬ r_mu N nl (a + k - 1)) ∧ (r_fm N a nl f n < n + f → r_mu N nl (a + r_fm N a nl f n - 1)) := by
  intro f
  induction f with
  | zero => intro n; exact ⟨Nat.le_refl _, Nat.le_refl _, fun k h1 h2 => by have : k < n := h2; omega, fun h => by have : n < n := h; omega⟩
  | succ f ih =>
    intro n
    have hs : r_fm N a nl (f + 1) n = if r_mu N nl (a + n - 1) then n else r_fm N a nl f (n + 1) := rfl
    rw [hs]
    by_cases hm : r_mu N nl (a + n - 1)
    · rw [if_pos hm]
      exact ⟨Nat.le_refl _, by omega, fun k h1 h2 => by omega, fun _ => hm⟩
    · rw [if_neg hm]
      obtain ⟨g1, g2, g3, g4⟩ := ih (n + 1)
      refine ⟨by omega, by omega, fun k h1 h2 => ?_, fun h => g4 (by omega)⟩
      by_cases hk : k = n
      · subst hk; exact hm
      · exact g3 k (by omega) h2
/-- what the class's standing of lines does -/
theorem e_st {M N : Nat → Nat → Int} {a nl : Nat} (hp : e_PT M N nl) : ∀ f i K, a + (i + 1) + f = nl → (∀ j, j ≤ i → K 20 (a + j) = e_D N a j) →
    (a + (i + 1) ≤ (q_st M f (a + (i + 1)) K).1 ∧ (q_st M f (a + (i + 1)) K).1 ≤ nl) ∧ (∀ w, i + 1 ≤ w → a + w < (q_st M f (a + (i + 1)) K).1 → ¬ q_mu M (a + w) ∧ ¬ e_ov N a w) ∧
    ((q_st M f (a + (i + 1)) K).1 = nl ∨ q_mu M (q_st M f (a + (i + 1)) K).1 ∨ ∃ w, (q_st M f (a + (i + 1)) K).1 = a + w ∧ e_ov N a w) ∧ (∀ j, a + j < (q_st M f (a + (i + 1)) K).1 → (q_st M f (a + (i + 1)) K).2 20 (a + j) = e_D N a j) ∧
    (∀ j, (q_st M f (a + (i + 1)) K).2 20 j = K 20 j ∨ ∃ w, a + w < nl ∧ (q_st M f (a + (i + 1)) K).2 20 j = e_D N a w) := by
  intro f
  induction f with
  | zero =>
    intro i K h hK
    have hs : q_st M 0 (a + (i + 1)) K = (a + (i + 1), K) := rfl
    rw [hs]
    exact ⟨⟨Nat.le_refl _, by omega⟩, fun w h1 h2 => by have : a + w < a + (i + 1) := h2; omega, Or.inl (by show a + (i + 1) = nl; omega), fun j hj => hK j (by have : a + j < a + (i + 1) := hj; omega), fun j => Or.inl rfl⟩
  | succ f ih =>
    intro i K h hK
    obtain ⟨p1, p2, p3, p4⟩ := hp
    have hd : K 20 (a + (i + 1) - 1) + M 18 (a + (i + 1) - 1) + q_sp M (a + (i + 1)) = e_D N a (i + 1) := by
      rw [show a + (i + 1) - 1 = a + i by omega, hK i (Nat.le_refl _), p2 _ (by omega), (p1 _ (by omega) (by omega)).2.2]
      rfl
    have hov : (M 2 1 < K 20 (a + (i + 1) - 1) + M 18 (a + (i + 1) - 1) + q_sp M (a + (i + 1)) + M 18 (a + (i + 1))) ↔ e_ov N a (i + 1) := by
      rw [hd, p2 _ (by omega), p3]
    have hs : q_st M (f + 1) (a + (i + 1)) K = if q_mu M (a + (i + 1)) then (a + (i + 1), K) else if M 2 1 < K 20 (a + (i + 1) - 1) + M 18 (a + (i + 1) - 1) + q_sp M (a + (i + 1)) + M 18 (a + (i + 1)) then (a + (i + 1), mset K 20 (a + (i + 1)) (K 20 (a + (i + 1) - 1) + M 18 (a + (i + 1) - 1) + q_sp M (a + (i + 1)))) else q_st M f (a + (i + 1 + 1)) (mset K 20 (a + (i + 1)) (K 20 (a + (i + 1) - 1) + M 18 (a + (i + 1) - 1) + q_sp M (a + (i + 1)))) := rfl
    rw [hs]
    by_cases hm : q_mu M (a + (i + 1))
    · rw [if_pos hm]
      exact ⟨⟨Nat.le_refl _, by show a + (i + 1) ≤ nl; omega⟩, fun w h1 h2 => by have : a + w < a + (i + 1) := h2; omega, Or.inr (Or.inl hm), fun j hj => hK j (by have : a + j < a + (i + 1) := hj; omega), fun j => Or.inl rfl⟩
    · rw [if_neg hm]
      by_cases ho : e_ov N a (i + 1)
      · rw [if_pos (hov.mpr ho), hd]
        refine ⟨⟨Nat.le_refl _, by show a + (i + 1) ≤ nl; omega⟩, fun w h1 h2 => by have : a + w < a + (i + 1) := h2; omega, Or.inr (Or.inr ⟨i + 1, rfl, ho⟩), fun j hj => ?_, fun j => ?_⟩
        · have hj' : a + j < a + (i + 1) := hj
          show mset K 20 _ _ 20 (a + j) = _
          rw [mset_out (by omega)]
          exact hK j (by omega)
        · dsimp only
          by_cases hj : j = a + (i + 1)
          · subst hj
            exact Or.inr ⟨i + 1, by omega, mset_same _ _ _ _⟩
          · exact Or.inl (mset_out hj)
      · rw [if_neg (fun q => ho (hov.mp q)), hd]
        obtain ⟨g1, g2, g3, g4, g5⟩ := ih (i + 1) (mset K 20 (a + (i + 1)) (e_D N a (i + 1))) (by omega) (fun j hj => by
          by_cases q : j = i + 1
          · subst q; exact mset_same _ _ _ _
          · rw [mset_out (by omega)]; exact hK j (by omega))
        refine ⟨⟨by omega, g1.2⟩, fun w h1 h2 => ?_, g3, g4, fun j => ?_⟩
        · by_cases hw : w = i + 1
          · subst hw; exact ⟨hm, ho⟩
          · exact g2 w (by omega) h2
        · rcases g5 j with q | q
          · rw [q]
            by_cases hj : j = a + (i + 1)
            · subst hj
              exact Or.inr ⟨i + 1, by omega, mset_same _ _ _ _⟩
            · exact Or.inl (mset_out hj)
          · exact Or.inr q
theorem e_dn {M N : Nat → Nat → Int} {a nl c : Nat} (hp : e_PT M N nl) : ∀ s, a + s < nl → q_dn M a (a + c) (a + s) = a + r_dn N a nl c s := by
  intro s
  induction s with
  | zero =>
    intro _
    show q_dn M a (a + c) a = a + c
    cases a with
    | zero => rfl
    | succ a =>
      show (if a + 1 < a + 1 then _ else _) = _
      rw [if_neg (by omega)]
  | succ s ih =>
    intro h
    have hq : q_ma M (a + s + 1) ↔ r_ma N nl (a + s) := (hp.1 (a + s + 1) (by omega) (by omega)).2.1
    have h1 : q_dn M a (a + c) (a + (s + 1)) = if a < a + s + 1 then (if q_ma M (a + s + 1) then a + s + 1 else q_dn M a (a + c) (a + s)) else a + c := rfl
    have h2 : r_dn N a nl c (s + 1) = if r_ma N nl (a + s) then s + 1 else r_dn N a nl c s := rfl
    rw [h1, h2, if_pos (by omega)]
    by_cases hm : r_ma N nl (a + s)
    · rw [if_pos hm, if_pos (hq.mpr hm)]; omega
    · rw [if_neg hm, if_neg (fun q => hm (hq.mp q)), ih (by omega)]
/-- a page ends at the same line -/
theorem e_pbv {M N : Nat → Nat → Int} {a nl : Nat} (hp : e_PT M N nl) (ha : a < nl) : q_pbv M a = a + r_fil N a nl ∧ q_pbv M a ≤ (q_st0 M a).1 ∧ (∀ j, a + j < (q_st0 M a).1 → (q_st0 M a).2 20 (a + j) = e_D N a j) ∧ (∀ j, (q_st0 M a).2 20 j = M 20 j ∨ ∃ w, a + w < nl ∧ (q_st0 M a).2 20 j = e_D N a w) := by
  have h0 := e_st hp (a := a) (nl - (a + 1)) 0 (mset M 20 a 0) (by omega) (fun j hj => by
    rw [show j = 0 by omega, Nat.add_zero, mset_same]
    rfl)
  have hst : q_st M (nl - (a + 1)) (a + (0 + 1)) (mset M 20 a 0) = q_st0 M a := by unfold q_st0; rw [hp.2.2.2]
  rw [hst] at h0
  obtain ⟨⟨s1, s2⟩, s3, s4, s5, s6⟩ := h0
  have hc := e_can (N := N) (a := a) (nl := nl) (nl - (a + 1)) 0 (by omega)
  have hcd : r_can N a nl (nl - (a + 1)) (0 + 1) (e_D N a 0 + N 16 (a + 0)) = r_can0 N a nl := by
    unfold r_can0
    rw [show e_D N a 0 + N 16 (a + 0) = N 16 a from Int.zero_add _]
  rw [hcd] at hc
  obtain ⟨c1, c2, c3, c4⟩ := hc
  have hf := e_fm (N := N) (a := a) (nl := nl) (r_can0 N a nl) 1
  have hmu : ∀ w, 1 ≤ w → a + w < nl → (q_mu M (a + w) ↔ r_mu N nl (a + w - 1)) := fun w h1 h2 => (hp.1 (a + w) (by omega) h2).1
  refine ⟨?_, ?_, s5, fun j => ?_⟩
  · unfold q_pbv r_fil
    rw [hp.2.2.2]
    generalize (q_st0 M a).1 = C at s1 s2 s3 s4 ⊢
    generalize r_can0 N a nl = c at c1 c2 c3 c4 hf ⊢
    generalize r_fm N a nl c 1 = m at hf ⊢
    obtain ⟨f1, f2, f3, f4⟩ := hf
    obtain ⟨w, rfl⟩ : ∃ w, C = a + w := ⟨C - a, by omega⟩
    have noov : w < c → (a + w = nl ∨ q_mu M (a + w)) := fun h => by
      rcases s4 with q | q | ⟨v, q1, q2⟩
      · exact Or.inl q
      · exact Or.inr q
      · exfalso
        rw [show v = w by omega] at q2
        exact c3 w (by omega) h q2
    by_cases hm : m ≤ c
    · rw [if_pos hm]
      have hmu2 := f4 (by omega)
      have hw : w = m := by
        rcases Nat.lt_trichotomy w m with q | q | q
        · exfalso
          rcases noov (by omega) with g | g
          · omega
          · exact f3 w (by omega) q ((hmu w (by omega) (by omega)).mp g)
        · exact q
        · exfalso
          exact (s3 m f1 (by omega)).1 ((hmu m f1 (by omega)).mpr hmu2)
      subst hw
      by_cases hnl : a + w = nl
      · rw [if_pos (Or.inl (by omega))]
      · rw [if_pos (Or.inr ((hmu w f1 (by omega)).mpr hmu2))]
    · rw [if_neg hm]
      have hno : ∀ k, 1 ≤ k → k ≤ c → ¬ r_mu N nl (a + k - 1) := fun k h1 h2 => f3 k h1 (by omega)
      by_cases hcn : a + c = nl
      · rw [if_pos hcn]
        have hw : a + w = nl := by
          rcases Nat.lt_or_ge w c with q | q
          · rcases noov q with g | g
            · exact g
            · by_cases hnl : a + w = nl
              · exact hnl
              · exact absurd ((hmu w (by omega) (by omega)).mp g) (hno w (by omega) (by omega))
          · omega
        rw [if_pos (Or.inl (by omega))]
        omega
      · rw [if_neg hcn]
        have hov : e_ov N a c := c4.resolve_left hcn
        have hw : w = c := by
          rcases Nat.lt_trichotomy w c with q | q | q
          · exfalso
            rcases noov q with g | g
            · omega
            · exact hno w (by omega) (by omega) ((hmu w (by omega) (by omega)).mp g)
          · exact q
          · exfalso
            exact (s3 c c1 (by omega)).2 hov
        subst hw
        have hnm : ¬ q_mu M (a + w) := fun g => hno w c1 (Nat.le_refl _) ((hmu w c1 (by omega)).mp g)
        rw [if_neg (fun q => q.elim (fun g => by omega) hnm)]
        exact e_dn hp w (by omega)
  · unfold q_pbv
    split
    · exact Nat.le_refl _
    · exact q_dn_b _ _ _ _ (Nat.le_refl _)
  · rcases s6 j with q | q
    · by_cases hj : j = a
      · subst hj
        exact Or.inr ⟨0, by omega, by rw [q, mset_same]; rfl⟩
      · exact Or.inl (q.trans (mset_out hj))
    · exact Or.inr q
