/-! A line's measure is what the ruler says. My own. -/
theorem p_back_sp (kd : Nat → Int) (a : Nat) : ∀ s, (∀ k, p_back kd a s ≤ k → k < s → kd k = 1) ∧ (a < p_back kd a s → ¬ kd (p_back kd a s - 1) = 1) := by
  intro s
  induction s with
  | zero => exact ⟨fun k _ h => by omega, fun h => by unfold p_back at h; omega⟩
  | succ s ih =>
    unfold p_back
    split
    · rename_i h
      refine ⟨fun k h1 h2 => ?_, ih.2⟩
      by_cases hk : k = s
      · subst hk; exact h.2
      · exact ih.1 k h1 (by omega)
    · rename_i h
      refine ⟨fun k h1 h2 => by omega, fun h1 h2 => h ⟨h1, h2⟩⟩
/-- what solid is -/
theorem p_solid_sp {kd : Nat → Int} {a b : Nat} (hab : a ≤ b) (hin : ∀ k, a ≤ k → k + 1 < b → ¬ p_endl kd k) : (∀ k, p_solid kd a b ≤ k → k < b → kd k = 1 ∨ p_endl kd k) ∧ (a < p_solid kd a b → ¬ kd (p_solid kd a b - 1) = 1 ∧ ¬ p_endl kd (p_solid kd a b - 1)) := by
  have h1 := p_back_sp kd a (if a < b ∧ p_endl kd (b - 1) then b - 1 else b)
  have h2 := p_back_le kd a (if a < b ∧ p_endl kd (b - 1) then b - 1 else b)
  unfold p_solid
  refine ⟨fun k g1 g2 => ?_, fun g => ⟨h1.2 g, fun q => ?_⟩⟩
  · by_cases hk : k < (if a < b ∧ p_endl kd (b - 1) then b - 1 else b)
    · exact Or.inl (h1.1 k g1 hk)
    · split at hk
      · rename_i q
        rw [show k = b - 1 by omega]
        exact Or.inr q.2
      · omega
  · by_cases hc : a < b ∧ p_endl kd (b - 1)
    · rw [if_pos hc] at h2 g q
      exact hin _ (by omega) (by omega) q
    · rw [if_neg hc] at h2 g q
      by_cases hb : p_back kd a b = b
      · rw [hb] at q; exact hc ⟨by omega, q⟩
      · exact hin _ (by omega) (by omega) q
theorem p_solid_in {kd : Nat → Int} {a b : Nat} (hab : a ≤ b) (hin : ∀ k, a ≤ k → k + 1 < b → ¬ p_endl kd k) : ∀ k, a ≤ k → k < p_solid kd a b → ¬ p_endl kd k := by
  intro k h1 h2
  have h3 := p_solid_le kd a b
  have h4 := (p_solid_sp hab hin).2 (by omega)
  by_cases hk : k + 1 < b
  · exact hin k h1 hk
  · rw [show k = p_solid kd a b - 1 by omega]
    exact h4.2
/-- the places of a line's signs -/
def e_X (kd wd : Nat → Int) (t : p_T) (so b a : Nat) (x0 : Int) : Nat → Int
  | 0 => x0
  | i + 1 => e_X kd wd t so b a x0 i + q_wide kd wd t so b (a + i) (e_X kd wd t so b a x0 i)
/-- the ruler behind so many signs -/
def e_R (kd wd : Nat → Int) (t : p_T) (a : Nat) (r0 : p_R) : Nat → p_R
  | 0 => r0
  | i + 1 => p_add kd wd t (e_R kd wd t a r0 i) (a + i)
theorem p_wbt_2 {kd wd : Nat → Int} {so b f k : Nat} {s : Int} (h : kd k = 2) : p_wbt kd wd so b f k s = s := by
  cases f with
  | zero => rfl
  | succ f => unfold p_wbt; exact if_neg (fun q => q.2 h)
theorem p_wbt_s {kd wd : Nat → Int} {so b f k : Nat} {s : Int} (h1 : k < so) (h2 : ¬ kd k = 2) : p_wbt kd wd so b (f + 1) k s = p_wbt kd wd so b f (k + 1) (s + p_wid kd wd k (decide (k + 1 = b))) := by
  show (if k < so ∧ kd k ≠ 2 then _ else _) = _
  exact if_pos ⟨h1, h2⟩
theorem p_wbt_0 {kd wd : Nat → Int} {so b k : Nat} {s : Int} : p_wbt kd wd so b 0 k s = s := rfl
theorem e_K {kd wd : Nat → Int} {t : p_T} {so b a : Nat} {x0 : Int} : ∀ i, a + i ≤ so → a + i < b → e_X kd wd t so b a x0 i = (e_R kd wd t a (0, x0, 0, 0) i).2.1 + (if (e_R kd wd t a (0, x0, 0, 0) i).1 = 0 then 0 else p_tab t.1 t.2.1 t.2.2.1 (e_R kd wd t a (0, x0, 0, 0) i).2.1 (p_wbt kd wd so b (so - (a + i)) (a + i) (e_R kd wd t a (0, x0, 0, 0) i).2.2.1) t.2.2.2) + (e_R kd wd t a (0, x0, 0, 0) i).2.2.1 := by
  intro i
  induction i with
  | zero =>
    intro _ _
    unfold e_X e_R
    simp
  | succ i ih =>
    intro h1 h2
    have hi := ih (by omega) (by omega)
    have hR : e_R kd wd t a (0, x0, 0, 0) (i + 1) = p_add kd wd t (e_R kd wd t a (0, x0, 0, 0) i) (a + i) := rfl
    have hX : e_X kd wd t so b a x0 (i + 1) = e_X kd wd t so b a x0 i + q_wide kd wd t so b (a + i) (e_X kd wd t so b a x0 i) := rfl
    rw [hR, hX]
    generalize e_R kd wd t a (0, x0, 0, 0) i = r at hi ⊢
    generalize e_X kd wd t so b a x0 i = x at hi ⊢
    by_cases hk : kd (a + i) = 2
    · rw [p_wbt_2 hk] at hi
      unfold p_add q_wide
      rw [if_pos hk, if_pos hk]
      dsimp only
      rw [if_neg (by omega)]
      have he : p_ew t r r.2.2.1 = x := by unfold p_ew; rw [hi]
      rw [he, show so - (a + i + 1) = so - (a + (i + 1)) by omega, show a + i + 1 = a + (i + 1) by omega]
      omega
    · rw [show so - (a + i) = (so - (a + (i + 1))) + 1 by omega, p_wbt_s (by omega) hk] at hi
      unfold p_add q_wide
      rw [if_neg hk, if_neg hk]
      dsimp only
      have hd : decide (a + i + 1 = b) = false := decide_eq_false (by omega)
      rw [hd] at hi ⊢
      rw [hi, show a + i + 1 = a + (i + 1) by omega]
      omega
/-- signs that trail leave the ruler's end -/
theorem e_trail {kd wd : Nat → Int} {t : p_T} {a : Nat} {r0 : p_R} (i : Nat) : ∀ j, (∀ k, a + i ≤ k → k < a + i + j → kd k = 1 ∨ p_endl kd k) → (e_R kd wd t a r0 (i + j)).1 = (e_R kd wd t a r0 i).1 ∧ (e_R kd wd t a r0 (i + j)).2.1 = (e_R kd wd t a r0 i).2.1 ∧ (e_R kd wd t a r0 (i + j)).2.2.2 = (e_R kd wd t a r0 i).2.2.2 := by
  intro j
  induction j with
  | zero => intro _; exact ⟨rfl, rfl, rfl⟩
  | succ j ih =>
    intro h
    obtain ⟨h1, h2, h3⟩ := ih (fun k g1 g2 => h k g1 (by omega))
    have hk := h (a + (i + j)) (by omega) (by omega)
    have hR : e_R kd wd t a r0 (i + (j + 1)) = p_add kd wd t (e_R kd wd t a r0 (i + j)) (a + (i + j)) := rfl
    rw [hR]
    unfold p_add
    have h2' : ¬ kd (a + (i + j)) = 2 := by
      rcases hk with q | q | q <;> omega
    rw [if_neg h2']
    have h4 : ¬ (kd (a + (i + j)) ≠ 1 ∧ ¬ p_endl kd (a + (i + j))) := fun q => hk.elim q.1 q.2
    rw [if_neg h4]
    exact ⟨h1, h2, h3⟩
theorem e_solid {kd wd : Nat → Int} {t : p_T} {r : p_R} {k : Nat} (h1 : ¬ kd k = 1) (h2 : ¬ p_endl kd k) : (p_add kd wd t r k).2.2.2 = (p_add kd wd t r k).2.2.1 := by
  unfold p_add
  split
  · rfl
  · dsimp only
    rw [if_pos ⟨h1, h2⟩]
theorem p_add_n {kd wd : Nat → Int} {t : p_T} {r : p_R} {k : Nat} (h0 : ¬ kd k = 2) (h1 : ¬ kd k = 1) (h2 : ¬ p_endl kd k) : p_add kd wd t r k = (r.1, r.2.1, r.2.2.1 + p_wid kd wd k false, r.2.2.1 + p_wid kd wd k false) := by
  unfold p_add
  rw [if_neg h0, if_pos ⟨h1, h2⟩]
/-- a line's end as it is measured is its end as the ruler tells it -/
theorem e_end {kd wd : Nat → Int} {t : p_T} {a b : Nat} {x0 : Int} (hab : a < b) (hin : ∀ k, a ≤ k → k + 1 < b → ¬ p_endl kd k) :
    (if a < p_solid kd a b then e_X kd wd t (p_solid kd a b) b a x0 (p_solid kd a b - a) else x0) = p_endb kd wd t (e_R kd wd t a (0, x0, 0, 0) (b - a)) (b - 1) := by
  have hs := p_solid_sp (Nat.le_of_lt hab) hin
  have hle := p_solid_le kd a b
  have hge := p_solid_ge kd a b (Nat.le_of_lt hab)
  generalize p_solid kd a b = so at hs hle hge ⊢
  have htr := e_trail (kd := kd) (wd := wd) (t := t) (a := a) (r0 := (0, x0, 0, 0)) (so - a) (b - so) (fun k h1 h2 => hs.1 k (by omega) (by omega))
  rw [show so - a + (b - so) = b - a by omega] at htr
  by_cases h1 : a < so
  · rw [if_pos h1]
    obtain ⟨g1, g2⟩ := hs.2 h1
    by_cases h2 : so < b
    · have hk := e_K (kd := kd) (wd := wd) (t := t) (so := so) (b := b) (a := a) (x0 := x0) (so - a) (by omega) (by omega)
      rw [show so - (a + (so - a)) = 0 by omega, p_wbt_0] at hk
      have hl := hs.1 (b - 1) (by omega) (by omega)
      have h4 : ¬ kd (b - 1) = 4 := by rcases hl with q | q | q <;> omega
      have hR : e_R kd wd t a (0, x0, 0, 0) (so - a) = p_add kd wd t (e_R kd wd t a (0, x0, 0, 0) (so - a - 1)) (so - 1) := by
        rw [show so - a = (so - a - 1) + 1 by omega]
        show p_add _ _ _ _ (a + (so - a - 1)) = _
        rw [show a + (so - a - 1) = so - 1 by omega]
        rfl
      have hsw : (e_R kd wd t a (0, x0, 0, 0) (so - a)).2.2.2 = (e_R kd wd t a (0, x0, 0, 0) (so - a)).2.2.1 := by rw [hR]; exact e_solid g1 g2
      unfold p_endb p_least p_ew
      rw [if_neg h4, htr.1, htr.2.1, htr.2.2, hsw, hk]
    · have hsb : so = b := by omega
      subst hsb
      have hk := e_K (kd := kd) (wd := wd) (t := t) (so := so) (b := so) (a := a) (x0 := x0) (so - a - 1) (by omega) (by omega)
      have hR : e_R kd wd t a (0, x0, 0, 0) (so - a) = p_add kd wd t (e_R kd wd t a (0, x0, 0, 0) (so - a - 1)) (so - 1) := by
        rw [show so - a = (so - a - 1) + 1 by omega]
        show p_add _ _ _ _ (a + (so - a - 1)) = _
        rw [show a + (so - a - 1) = so - 1 by omega]
        rfl
      have hX : e_X kd wd t so so a x0 (so - a) = e_X kd wd t so so a x0 (so - a - 1) + q_wide kd wd t so so (so - 1) (e_X kd wd t so so a x0 (so - a - 1)) := by
        rw [show so - a = (so - a - 1) + 1 by omega]
        show _ + q_wide _ _ _ _ _ (a + (so - a - 1)) _ = _
        rw [show a + (so - a - 1) = so - 1 by omega]
        rfl
      rw [show a + (so - a - 1) = so - 1 by omega, show so - (so - 1) = 0 + 1 by omega] at hk
      rw [hR, hX]
      generalize e_R kd wd t a (0, x0, 0, 0) (so - a - 1) = r at hk ⊢
      generalize e_X kd wd t so so a x0 (so - a - 1) = x at hk ⊢
      by_cases h2 : kd (so - 1) = 2
      · rw [p_wbt_2 h2] at hk
        have he : p_ew t r r.2.2.1 = x := by unfold p_ew; rw [hk]
        unfold p_endb p_least q_wide p_add
        rw [if_pos h2, if_pos h2, if_neg (by omega), he, show so - (so - 1 + 1) = 0 by omega]
        rw [p_wbt_0]
        unfold p_ew
        dsimp only
        rw [if_neg (by omega)]
        omega
      · rw [p_wbt_s (by omega) h2, p_wbt_0] at hk
        have hd : decide (so - 1 + 1 = so) = true := decide_eq_true (by omega)
        rw [hd] at hk
        unfold q_wide
        rw [if_neg h2, hd, hk]
        rw [p_add_n h2 g1 g2]
        unfold p_endb p_least
        by_cases h4 : kd (so - 1) = 4
        · rw [if_pos h4]
          have e1 : p_wid kd wd (so - 1) true = wd (so - 1) := by unfold p_wid; rw [if_neg (by rw [h4]; simp)]
          have e2 : p_wid kd wd (so - 1) false = 0 := by unfold p_wid; rw [if_pos (Or.inr (Or.inr ⟨h4, rfl⟩))]
          rw [e1, e2]
          unfold p_ew
          dsimp only
          rw [show r.2.2.1 + 0 + wd (so - 1) = r.2.2.1 + wd (so - 1) by omega]
          omega
        · rw [if_neg h4]
          have e1 : p_wid kd wd (so - 1) true = p_wid kd wd (so - 1) false := by
            unfold p_wid
            by_cases q : kd (so - 1) = 5 ∨ kd (so - 1) = 6
            · rw [if_pos (by omega), if_pos (by omega)]
            · rw [if_neg (by omega), if_neg (by omega)]
          rw [e1]
          unfold p_ew
          dsimp only
          omega
  · rw [if_neg h1]
    have hsa : so = a := by omega
    subst hsa
    have hl := hs.1 (b - 1) (by omega) (by omega)
    have h4 : ¬ kd (b - 1) = 4 := by rcases hl with q | q | q <;> omega
    rw [Nat.sub_self] at htr
    unfold p_endb p_least p_ew
    rw [if_neg h4, htr.1, htr.2.1, htr.2.2]
    unfold e_R
    simp
