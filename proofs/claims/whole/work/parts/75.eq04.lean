theorem r_l3_lt (kd ac br : Nat → Int) (so gaps : Nat) (sp rest ln : Int) : ∀ f k mv gp bl M r j, j < k → r_l3 kd ac br so gaps sp rest ln f k mv gp bl M r j = M r j := by
  intro f
  induction f with
  | zero => intro k mv gp bl M r j h; rfl
  | succ f ih =>
    intro k mv gp bl M r j h
    unfold r_l3
    split
    · split
      · rw [ih _ _ _ _ _ r j (by omega), mset_out (by omega), mset_out (by omega), mset_out (by omega)]
      · rw [ih _ _ _ _ _ r j (by omega), mset_out (by omega), mset_out (by omega), mset_out (by omega)]
    · rw [ih _ _ _ _ _ r j (by omega), mset_out (by omega), mset_out (by omega), mset_out (by omega)]
theorem r_l3_ge (kd ac br : Nat → Int) (so gaps : Nat) (sp rest ln : Int) : ∀ f k mv gp bl M r j, k + f ≤ j → r_l3 kd ac br so gaps sp rest ln f k mv gp bl M r j = M r j := by
  intro f
  induction f with
  | zero => intro k mv gp bl M r j h; rfl
  | succ f ih =>
    intro k mv gp bl M r j h
    unfold r_l3
    split
    · split
      · rw [ih _ _ _ _ _ r j (by omega), mset_out (by omega), mset_out (by omega), mset_out (by omega)]
      · rw [ih _ _ _ _ _ r j (by omega), mset_out (by omega), mset_out (by omega), mset_out (by omega)]
    · rw [ih _ _ _ _ _ r j (by omega), mset_out (by omega), mset_out (by omega), mset_out (by omega)]
theorem w3 (M : Nat → Nat → Int) (k : Nat) (u v w : Int) : mset (mset (mset M 21 k u) 22 k v) 23 k w 21 k = u ∧ mset (mset (mset M 21 k u) 22 k v) 23 k w 22 k = v ∧ mset (mset (mset M 21 k u) 22 k v) 23 k w 23 k = w := by
  refine ⟨?_, ?_, ?_⟩
  · rw [mset_ne (by omega), mset_ne (by omega), mset_same]
  · rw [mset_ne (by omega), mset_same]
  · rw [mset_same]
/-- no gap is widened -/
theorem r_l3_0 {kd ac br : Nat → Int} {so gaps : Nat} {rest ln : Int} : ∀ f k mv gp bl M j, k ≤ j → j < k + f → r_l3 kd ac br so gaps 0 rest ln f k mv gp bl M 21 j = ln ∧ r_l3 kd ac br so gaps 0 rest ln f k mv gp bl M 22 j = ac j + mv ∧ r_l3 kd ac br so gaps 0 rest ln f k mv gp bl M 23 j = br j := by
  intro f
  induction f with
  | zero => intro k mv gp bl M j h1 h2; omega
  | succ f ih =>
    intro k mv gp bl M j h1 h2
    unfold r_l3
    rw [if_neg (fun q => q.1 rfl)]
    by_cases hj : j = k
    · subst hj
      rw [r_l3_lt _ _ _ _ _ _ _ _ _ _ _ _ _ _ _ _ (by omega), r_l3_lt _ _ _ _ _ _ _ _ _ _ _ _ _ _ _ _ (by omega), r_l3_lt _ _ _ _ _ _ _ _ _ _ _ _ _ _ _ _ (by omega)]
      exact w3 M j _ _ _
    · exact ih _ _ _ _ _ j (by omega) (by omega)
theorem r_l3_s (kd ac br : Nat → Int) (so gaps : Nat) (sp rest ln : Int) (f k : Nat) (mv gp bl : Int) (M : Nat → Nat → Int) : r_l3 kd ac br so gaps sp rest ln (f + 1) k mv gp bl M =
    if ¬ sp = 0 ∧ kd k = 1 ∧ k < so then
      if bl - 1 < ((gaps : Nat) : Int) then r_l3 kd ac br so gaps sp rest ln f (k + 1) (mv + (rest.tdiv ((gaps : Nat) : Int) + if gp < rest - rest.tdiv ((gaps : Nat) : Int) * ((gaps : Nat) : Int) then 1 else 0)) (gp + 1) (bl - 1) (mset (mset (mset M 21 k ln) 22 k (ac k + mv)) 23 k (br k + (rest.tdiv ((gaps : Nat) : Int) + if gp < rest - rest.tdiv ((gaps : Nat) : Int) * ((gaps : Nat) : Int) then 1 else 0)))
      else r_l3 kd ac br so gaps sp rest ln f (k + 1) mv gp (bl - 1) (mset (mset (mset M 21 k ln) 22 k (ac k + mv)) 23 k (br k))
    else r_l3 kd ac br so gaps sp rest ln f (k + 1) mv gp bl (mset (mset (mset M 21 k ln) 22 k (ac k + mv)) 23 k (br k)) := rfl
/-- ahead of the last TAB nothing is widened -/
theorem r_l3_a {kd ac br : Nat → Int} {so gaps : Nat} {sp rest ln : Int} (f2 : Nat) : ∀ f k mv gp bl M, k + f ≤ so → bl = ((gaps : Nat) : Int) + ((q_gc kd f k 0 : Nat) : Int) → ¬ sp = 0 → ∃ M' : Nat → Nat → Int, r_l3 kd ac br so gaps sp rest ln (f + f2) k mv gp bl M = r_l3 kd ac br so gaps sp rest ln f2 (k + f) mv gp ((gaps : Nat) : Int) M' ∧ (∀ j, k ≤ j → j < k + f → M' 21 j = ln ∧ M' 22 j = ac j + mv ∧ M' 23 j = br j) ∧ (∀ r j, j < k → M' r j = M r j) ∧ (∀ r j, k + f ≤ j → M' r j = M r j) := by
  intro f
  induction f with
  | zero =>
    intro k mv gp bl M hk hb hs
    refine ⟨M, ?_, fun j h1 h2 => by omega, fun _ _ _ => rfl, fun _ _ _ => rfl⟩
    rw [Nat.zero_add, Nat.add_zero, hb]
    show r_l3 _ _ _ _ _ _ _ _ _ _ _ _ (_ + ((0 : Nat) : Int)) _ = _
    rw [show ((gaps : Nat) : Int) + ((0 : Nat) : Int) = ((gaps : Nat) : Int) by omega]
  | succ f ih =>
    intro k mv gp bl M hk hb hs
    have hq : q_gc kd (f + 1) k 0 = (if kd k = 1 then 1 else 0) + q_gc kd f (k + 1) 0 := by
      show q_gc kd f (k + 1) (0 + if kd k = 1 then 1 else 0) = _
      rw [q_gc_add]
      omega
    rw [hq] at hb
    rw [show f + 1 + f2 = (f + f2) + 1 by omega]
    have fin : ∀ bl2 M2, bl2 = ((gaps : Nat) : Int) + ((q_gc kd f (k + 1) 0 : Nat) : Int) → M2 = mset (mset (mset M 21 k ln) 22 k (ac k + mv)) 23 k (br k) → ∃ M' : Nat → Nat → Int, r_l3 kd ac br so gaps sp rest ln (f + f2) (k + 1) mv gp bl2 M2 = r_l3 kd ac br so gaps sp rest ln f2 (k + (f + 1)) mv gp ((gaps : Nat) : Int) M' ∧ (∀ j, k ≤ j → j < k + (f + 1) → M' 21 j = ln ∧ M' 22 j = ac j + mv ∧ M' 23 j = br j) ∧ (∀ r j, j < k → M' r j = M r j) ∧ (∀ r j, k + (f + 1) ≤ j → M' r j = M r j) := by
      intro bl2 M2 h1 h2
      obtain ⟨M', g1, g2, g3, g4⟩ := ih (k + 1) mv gp bl2 M2 (by omega) h1 hs
      refine ⟨M', by rw [g1, show k + 1 + f = k + (f + 1) by omega], fun j q1 q2 => ?_, fun r j q => ?_, fun r j q => ?_⟩
      · by_cases hj : j = k
        · subst hj
          rw [g3 21 j (by omega), g3 22 j (by omega), g3 23 j (by omega), h2]
          exact w3 M j _ _ _
        · exact g2 j (by omega) (by omega)
      · rw [g3 r j (by omega), h2, mset_out (by omega), mset_out (by omega), mset_out (by omega)]
      · rw [g4 r j (by omega), h2, mset_out (by omega), mset_out (by omega), mset_out (by omega)]
    rw [r_l3_s]
    by_cases h1 : kd k = 1
    · rw [if_pos (show ¬ sp = 0 ∧ kd k = 1 ∧ k < so from ⟨hs, h1, by omega⟩)]
      rw [if_pos h1] at hb
      rw [if_neg (by omega)]
      refine fin _ _ ?_ rfl
      omega
    · rw [if_neg (show ¬ (¬ sp = 0 ∧ kd k = 1 ∧ k < so) from fun q => h1 q.2.1)]
      rw [if_neg h1] at hb
      refine fin _ _ ?_ rfl
      omega
theorem q_wg_lt (kd : Nat → Int) (so : Nat) (each : Int) : ∀ f k rem mv M r j, j < k → q_wg kd so each f k rem mv M r j = M r j := by
  intro f
  induction f with
  | zero => intro k rem mv M r j h; rfl
  | succ f ih =>
    intro k rem mv M r j h
    unfold q_wg
    split
    · rw [ih _ _ _ _ r j (by omega), mset_out (by omega), mset_out (by omega)]
    · rw [ih _ _ _ _ r j (by omega), mset_out (by omega)]
theorem q_wg_ge (kd : Nat → Int) (so : Nat) (each : Int) : ∀ f k rem mv M r j, k + f ≤ j → q_wg kd so each f k rem mv M r j = M r j := by
  intro f
  induction f with
  | zero => intro k rem mv M r j h; rfl
  | succ f ih =>
    intro k rem mv M r j h
    unfold q_wg
    split
    · rw [ih _ _ _ _ r j (by omega), mset_out (by omega), mset_out (by omega)]
    · rw [ih _ _ _ _ r j (by omega), mset_out (by omega)]
theorem q_wg_23 (kd : Nat → Int) (so : Nat) (each : Int) : ∀ f k rem mv M, q_wg kd so each f k rem mv M 23 = M 23 := by
  intro f
  induction f with
  | zero => intro k rem mv M; rfl
  | succ f ih =>
    intro k rem mv M
    unfold q_wg
    split
    · rw [ih, mset_ne (by omega), mset_ne (by omega)]
    · rw [ih, mset_ne (by omega)]
theorem q_mv_23 (mv : Int) : ∀ f k M r, r ≠ 24 → q_mv mv f k M r = M r := by
  intro f
  induction f with
  | zero => intro k M r _; rfl
  | succ f ih =>
    intro k M r h
    unfold q_mv
    rw [ih _ _ _ h, mset_ne h]
theorem q_mv_lt (mv : Int) : ∀ f k M r j, j < k ∨ k + f ≤ j → q_mv mv f k M r j = M r j := by
  intro f
  induction f with
  | zero => intro k M r j _; rfl
  | succ f ih =>
    intro k M r j h
    unfold q_mv
    rw [ih _ _ r j (by omega), mset_out (by omega)]
theorem q_mv_at (mv : Int) : ∀ f k M j, k ≤ j → j < k + f → q_mv mv f k M 24 j = M 24 j + mv := by
  intro f
  induction f with
  | zero => intro k M j h1 h2; omega
  | succ f ih =>
    intro k M j h1 h2
    unfold q_mv
    by_cases hj : j = k
    · subst hj; rw [q_mv_lt _ _ _ _ _ _ (by omega), mset_same]
    · rw [ih _ _ j (by omega) (by omega), mset_out (by omega)]
/-- behind the last TAB both widen the same gaps by the same -/
theorem e_wg {kd ac br : Nat → Int} {so gaps : Nat} {sp rest ln : Int} (hs : ¬ sp = 0) (he : 0 ≤ rest.tdiv ((gaps : Nat) : Int) ∧ rest.tdiv ((gaps : Nat) : Int) ≤ 30000) : ∀ f k rem mv gp bl (M N : Nat → Nat → Int), rem = rest - rest.tdiv ((gaps : Nat) : Int) * ((gaps : Nat) : Int) - gp → bl ≤ ((gaps : Nat) : Int) → 0 ≤ mv → (∀ j, k ≤ j → j < k + f → M 24 j = ac j ∧ M 25 j = br j) → ∀ j, k ≤ j → j < k + f →
      (q_wg kd so (rest.tdiv ((gaps : Nat) : Int)) f k rem mv M 24 j = r_l3 kd ac br so gaps sp rest ln f k mv gp bl N 22 j ∧ q_wg kd so (rest.tdiv ((gaps : Nat) : Int)) f k rem mv M 25 j = r_l3 kd ac br so gaps sp rest ln f k mv gp bl N 23 j ∧ r_l3 kd ac br so gaps sp rest ln f k mv gp bl N 21 j = ln) ∧
      (ac j + mv ≤ r_l3 kd ac br so gaps sp rest ln f k mv gp bl N 22 j ∧ r_l3 kd ac br so gaps sp rest ln f k mv gp bl N 22 j ≤ ac j + mv + 30001 * ((f : Nat) : Int)) ∧ (br j ≤ r_l3 kd ac br so gaps sp rest ln f k mv gp bl N 23 j ∧ r_l3 kd ac br so gaps sp rest ln f k mv gp bl N 23 j ≤ br j + 30001) := by
  intro f
  induction f with
  | zero => intro k rem mv gp bl M N _ _ _ _ j h1 h2; omega
  | succ f ih =>
    intro k rem mv gp bl M N hr hb hm hM j h1 h2
    have hk := hM k (by omega) (by omega)
    unfold q_wg r_l3
    by_cases h : k < so ∧ kd k = 1
    · rw [if_pos h, if_pos (show ¬ sp = 0 ∧ kd k = 1 ∧ k < so from ⟨hs, h.2, h.1⟩), if_pos (show bl - 1 < ((gaps : Nat) : Int) by omega)]
      have hmo : (if 0 < rem then (1 : Int) else 0) = if gp < rest - rest.tdiv ((gaps : Nat) : Int) * ((gaps : Nat) : Int) then 1 else 0 := by
        by_cases q : 0 < rem
        · rw [if_pos q, if_pos (by omega)]
        · rw [if_neg q, if_neg (by omega)]
      rw [hmo]
      obtain ⟨mo, hmo2⟩ : ∃ z, z = rest.tdiv ((gaps : Nat) : Int) + (if gp < rest - rest.tdiv ((gaps : Nat) : Int) * ((gaps : Nat) : Int) then (1 : Int) else 0) := ⟨_, rfl⟩
      have hmob : 0 ≤ mo ∧ mo ≤ 30001 := by rw [hmo2]; split <;> omega
      rw [← hmo2, hk.1, hk.2]
      by_cases hj : j = k
      · subst hj
        rw [q_wg_lt _ _ _ _ _ _ _ _ _ _ (by omega), q_wg_lt _ _ _ _ _ _ _ _ _ _ (by omega), r_l3_lt _ _ _ _ _ _ _ _ _ _ _ _ _ _ _ _ (by omega), r_l3_lt _ _ _ _ _ _ _ _ _ _ _ _ _ _ _ _ (by omega), r_l3_lt _ _ _ _ _ _ _ _ _ _ _ _ _ _ _ _ (by omega), (w3 N j _ _ _).1, (w3 N j _ _ _).2.1, (w3 N j _ _ _).2.2, mset_ne (by omega), mset_same, mset_same]
        omega
      · have g := ih (k + 1) (rem - 1) (mv + mo) (gp + 1) (bl - 1) (mset (mset M 24 k (ac k + mv)) 25 k (br k + mo)) (mset (mset (mset N 21 k ln) 22 k (ac k + mv)) 23 k (br k + mo)) (by omega) (by omega) (by omega) (fun i g1 g2 => by rw [mset_out (by omega), mset_out (by omega), mset_out (by omega), mset_out (by omega)]; exact hM i (by omega) (by omega)) j (by omega) (by omega)
        refine ⟨g.1, ?_, g.2.2⟩
        omega
    · rw [if_neg h, if_neg (show ¬ (¬ sp = 0 ∧ kd k = 1 ∧ k < so) from fun q => h ⟨q.2.2, q.2.1⟩), hk.1]
      by_cases hj : j = k
      · subst hj
        rw [q_wg_lt _ _ _ _ _ _ _ _ _ _ (by omega), q_wg_lt _ _ _ _ _ _ _ _ _ _ (by omega), r_l3_lt _ _ _ _ _ _ _ _ _ _ _ _ _ _ _ _ (by omega), r_l3_lt _ _ _ _ _ _ _ _ _ _ _ _ _ _ _ _ (by omega), r_l3_lt _ _ _ _ _ _ _ _ _ _ _ _ _ _ _ _ (by omega), (w3 N j _ _ _).1, (w3 N j _ _ _).2.1, (w3 N j _ _ _).2.2, mset_same, mset_ne (by omega), hk.2]
        omega
      · have g := ih (k + 1) rem mv gp bl (mset M 24 k (ac k + mv)) (mset (mset (mset N 21 k ln) 22 k (ac k + mv)) 23 k (br k)) hr hb hm (fun i g1 g2 => by rw [mset_out (by omega), mset_out (by omega)]; exact hM i (by omega) (by omega)) j (by omega) (by omega)
        refine ⟨g.1, ?_, g.2.2⟩
        omega
