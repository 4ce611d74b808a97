/-! Text(): thirty paragraphs. My own. -/
theorem wTX_len (ad : Nat → Nat) (cs : pg_C) (i : Nat) : (wTX ad cs i).length = 5 + 4 * i := by simp [wTX]
theorem wTX_at {ad : Nat → Nat} {cs : pg_C} {i k : Nat} (h : k < 5 + 4 * i) : (wTX ad cs i)[k]? = some (ad k, tx_ce ad cs i k) := by
  simp [wTX, h]
def tx_ad (ad : Nat → Nat) (i q : Nat) (u : Nat × Nat × Nat) : Nat → Nat := fun k => if k < 5 + 4 * i then ad k else if k = 5 + 4 * i then q else if k = 6 + 4 * i then u.1 else if k = 7 + 4 * i then u.2.1 else u.2.2
theorem tx_ad_lt {ad : Nat → Nat} {i q : Nat} {u : Nat × Nat × Nat} {k : Nat} (h : k < 5 + 4 * i) : tx_ad ad i q u k = ad k := if_pos h
theorem tx_ad_0 {ad : Nat → Nat} {i q : Nat} {u : Nat × Nat × Nat} : tx_ad ad i q u (5 + 4 * i) = q := by
  unfold tx_ad
  rw [if_neg (by omega), if_pos rfl]
theorem tx_ad_1 {ad : Nat → Nat} {i q : Nat} {u : Nat × Nat × Nat} : tx_ad ad i q u (6 + 4 * i) = u.1 := by
  unfold tx_ad
  rw [if_neg (by omega), if_neg (by omega), if_pos rfl]
theorem tx_ad_2 {ad : Nat → Nat} {i q : Nat} {u : Nat × Nat × Nat} : tx_ad ad i q u (7 + 4 * i) = u.2.1 := by
  unfold tx_ad
  rw [if_neg (by omega), if_neg (by omega), if_neg (by omega), if_pos rfl]
theorem tx_ad_3 {ad : Nat → Nat} {i q : Nat} {u : Nat × Nat × Nat} : tx_ad ad i q u (8 + 4 * i) = u.2.2 := by
  unfold tx_ad
  rw [if_neg (by omega), if_neg (by omega), if_neg (by omega), if_neg (by omega)]
theorem tx_ce_far (ad : Nat → Nat) (cs : pg_C) (i k : Nat) : tx_ce ad cs i (5 + k) = if k % 4 = 0 then .inr (6, [.ref (ad (k + 6)), .ref (ad (k + 7)), .ref (ad (k + 8)), .int (iI 0), .int (iI 0), .int (iI 0)]) else if k % 4 = 1 then e_ia cs 11 else e_ia cs 8 := by
  rw [Nat.add_comm]
  rfl
theorem wTX_s (ad : Nat → Nat) (cs : pg_C) (i q : Nat) (u : Nat × Nat × Nat) : ((wTX ad cs i) ++ wPA cs q u).set 1 (ad 1, .inl (cs.2.2, 30, .inr (.inr (.inr (.inr (va_up (fun j => if j < i then some (ad (5 + 4 * j)) else none) i (some q))))))) = wTX (tx_ad ad i q u) cs (i + 1) := by
  apply List.ext_getElem?
  intro k
  by_cases h1 : k = 1
  · subst h1
    rw [List.getElem?_set_self (by rw [List.length_append, wTX_len]; omega), wTX_at (by omega)]
    refine congrArg some (Prod.ext (tx_ad_lt (by omega)).symm ?_)
    show _ = tx_ce _ _ _ 1
    unfold tx_ce
    refine congrArg (fun z => Sum.inl (cs.2.2, 30, Sum.inr (Sum.inr (Sum.inr (Sum.inr z))))) ?_
    funext j
    by_cases hj : j = i
    · subst hj
      rw [va_up_self, if_pos (by omega), tx_ad_0]
    · rw [va_up_ne _ _ hj]
      by_cases h2 : j < i
      · rw [if_pos h2, if_pos (by omega), tx_ad_lt (by omega)]
      · rw [if_neg h2, if_neg (by omega)]
  · rw [List.getElem?_set_ne (Ne.symm h1)]
    by_cases h2 : k < 5 + 4 * i
    · rw [z_left (wTX_at h2), wTX_at (by omega)]
      refine congrArg some (Prod.ext (tx_ad_lt h2).symm ?_)
      show tx_ce ad cs i k = tx_ce (tx_ad ad i q u) cs (i + 1) k
      match k, h1, h2 with
      | 0, _, _ =>
        unfold tx_ce
        rw [tx_ad_lt (by omega), tx_ad_lt (by omega), tx_ad_lt (by omega), tx_ad_lt (by omega)]
      | 2, _, _ => rfl
      | 3, _, _ => rfl
      | 4, _, _ => rfl
      | k + 5, _, h2 =>
        rw [Nat.add_comm k 5, tx_ce_far, tx_ce_far]
        by_cases h3 : k % 4 = 0
        · rw [if_pos h3, if_pos h3, tx_ad_lt (by omega), tx_ad_lt (by omega), tx_ad_lt (by omega)]
        · rw [if_neg h3, if_neg h3]
    · by_cases h3 : k < 5 + 4 * (i + 1)
      · rw [wTX_at h3]
        have hk : (wTX ad cs i ++ wPA cs q u)[k]? = (wPA cs q u)[k - (5 + 4 * i)]? := by
          rw [List.getElem?_append_right (by rw [wTX_len]; omega), wTX_len]
        rw [hk]
        have : k = 5 + 4 * i ∨ k = 6 + 4 * i ∨ k = 7 + 4 * i ∨ k = 8 + 4 * i := by omega
        rcases this with h | h | h | h
        · rw [h, Nat.sub_self, tx_ad_0, tx_ce_far, if_pos (by omega), show 4 * i + 6 = 6 + 4 * i by omega, show 4 * i + 7 = 7 + 4 * i by omega, show 4 * i + 8 = 8 + 4 * i by omega, tx_ad_1, tx_ad_2, tx_ad_3]
          rfl
        · rw [h, show 6 + 4 * i - (5 + 4 * i) = 1 by omega, tx_ad_1, show 6 + 4 * i = 5 + (4 * i + 1) by omega, tx_ce_far, if_neg (by omega), if_pos (by omega)]
          rfl
        · rw [h, show 7 + 4 * i - (5 + 4 * i) = 2 by omega, tx_ad_2, show 7 + 4 * i = 5 + (4 * i + 2) by omega, tx_ce_far, if_neg (by omega), if_neg (by omega)]
          rfl
        · rw [h, show 8 + 4 * i - (5 + 4 * i) = 3 by omega, tx_ad_3, show 8 + 4 * i = 5 + (4 * i + 3) by omega, tx_ce_far, if_neg (by omega), if_neg (by omega)]
          rfl
      · rw [List.getElem?_eq_none (by rw [List.length_append, wTX_len]; show 5 + 4 * i + 4 ≤ k; omega), List.getElem?_eq_none (by rw [wTX_len]; omega)]
