/-- the class's and the reference's texts are the same -/
def tie (M N : Nat → Nat → Int) (np ns : Nat) : Prop :=
  (M 7 = N 6 ∧ M 8 = N 7 ∧ M 9 = N 8) ∧ (M 2 0 = N 0 1 ∧ M 2 1 = N 0 2 ∧ M 2 2 = N 0 3) ∧
  (∀ i, i < 30 → (∀ j, j < 11 → M (30 + 4 * i) j = N 2 (11 * i + j)) ∧ M (29 + 4 * i) 3 = N 3 i ∧ (∀ j, j < 8 → M (31 + 4 * i) j = N 4 (8 * i + j) ∧ M (32 + 4 * i) j = N 5 (8 * i + j))) ∧
  (M 1 4 = ((np : Nat) : Int) ∧ N 0 4 = ((np : Nat) : Int) ∧ np ≤ 30) ∧ (M 1 5 = ((ns : Nat) : Int) ∧ ns ≤ 600 ∧ (0 < np → N 1 np = ((ns : Nat) : Int)) ∧ (np = 0 → ns = 0)) ∧
  (∀ i, i < np → M (29 + 4 * i) 4 = N 1 i ∧ M (29 + 4 * i) 5 = N 1 (i + 1)) ∧ (0 < np → N 1 0 = 0)
theorem tie_L {M M' N : Nat → Nat → Int} {np ns : Nat} (h : eqL M' M) (ht : tie M N np ns) : tie M' N np ns := by
  have e : ∀ j, j ≠ 3 → j ≠ 4 → (j < 13 ∨ 25 < j) → M' j = M j := h
  obtain ⟨h1, h2, h3, h4, h5, h6, h7⟩ := ht
  refine ⟨?_, ?_, fun i hi => ?_, ?_, ?_, fun i hi => ?_, h7⟩
  · rw [e 7 (by omega) (by omega) (by omega), e 8 (by omega) (by omega) (by omega), e 9 (by omega) (by omega) (by omega)]; exact h1
  · rw [e 2 (by omega) (by omega) (by omega)]; exact h2
  · rw [e (30 + 4 * i) (by omega) (by omega) (by omega), e (29 + 4 * i) (by omega) (by omega) (by omega), e (31 + 4 * i) (by omega) (by omega) (by omega), e (32 + 4 * i) (by omega) (by omega) (by omega)]; exact h3 i hi
  · rw [e 1 (by omega) (by omega) (by omega)]; exact h4
  · rw [e 1 (by omega) (by omega) (by omega)]; exact h5
  · rw [e (29 + 4 * i) (by omega) (by omega) (by omega)]; exact h6 i hi
theorem tie_R {M N N' : Nat → Nat → Int} {np ns : Nat} (h : eqR N' N) (ht : tie M N np ns) : tie M N' np ns := by
  obtain ⟨h1, h2, h3, h4, h5, h6, h7⟩ := ht
  refine ⟨?_, ?_, fun i hi => ?_, ?_, ?_, fun i hi => ?_, ?_⟩
  · rw [h.1 6 (by omega) (by omega), h.1 7 (by omega) (by omega), h.1 8 (by omega) (by omega)]; exact h1
  · rw [h.2 1 (by omega), h.2 2 (by omega), h.2 3 (by omega)]; exact h2
  · rw [h.1 2 (by omega) (by omega), h.1 3 (by omega) (by omega), h.1 4 (by omega) (by omega), h.1 5 (by omega) (by omega)]; exact h3 i hi
  · rw [h.2 4 (by omega)]; exact h4
  · rw [h.1 1 (by omega) (by omega)]; exact h5
  · rw [h.1 1 (by omega) (by omega)]; exact h6 i hi
  · rw [h.1 1 (by omega) (by omega)]; exact h7
/-- bounds of what the laying writes -/
def bC (M : Nat → Nat → Int) : Prop := ∀ j, (0 ≤ M 20 j ∧ M 20 j ≤ 100000000) ∧ (0 ≤ M 24 j ∧ M 24 j ≤ 100000000) ∧ (0 ≤ M 25 j ∧ M 25 j ≤ 100000000)
def bR (N : Nat → Nat → Int) : Prop := ∀ r, 14 ≤ r → r ≤ 23 → ∀ j, 0 ≤ N r j ∧ N r j ≤ 100000000
theorem e_tabs {M N : Nat → Nat → Int} {np ns q n : Nat} (ht : tie M N np ns) (hq : q < 30) (hn : n ≤ 8) : e_teq (p_tabs M q n) (r_tabs N q n) := by
  intro x w
  have h := (ht.2.2.1 q hq).2.2
  unfold p_tabs r_tabs
  dsimp only
  rw [ht.2.1.2.2]
  exact p_tab_cong (fun j hj => (h j (by omega)).1) (fun j hj => (h j (by omega)).2)
theorem e_rm {M N : Nat → Nat → Int} {np ns q n a b : Nat} (ht : tie M N np ns) (hq : q < 30) (hn : n ≤ 8) (K : Nat → Nat → Int) : r_m N q n a b K = r_ms (M 7) (M 8) (p_tabs M q n) (p_solid (M 7) a b) b (b - a) (a + 0) (e_X (M 7) (M 8) (p_tabs M q n) (p_solid (M 7) a b) b a (r_beg N q a) 0) (r_beg N q a) K := by
  unfold r_m
  rw [← ht.1.1, ← ht.1.2.1]
  exact (r_ms_cong (e_tabs ht hq hn) _ _ _ _ _).symm
/-- the measure, as places -/
theorem e_rm1 {M N : Nat → Nat → Int} {np ns q n a b : Nat} (ht : tie M N np ns) (hq : q < 30) (hn : n ≤ 8) (hab : a ≤ b) (hin : ∀ k, a ≤ k → k + 1 < b → ¬ p_endl (M 7) k) (K : Nat → Nat → Int) : (r_m N q n a b K).1 = if a < p_solid (M 7) a b then e_X (M 7) (M 8) (p_tabs M q n) (p_solid (M 7) a b) b a (r_beg N q a) (p_solid (M 7) a b - a) else r_beg N q a := by
  rw [e_rm ht hq hn]
  exact r_ms_end (p_solid_le _ _ _) (p_solid_in hab hin) (b - a) 0 _ _ (by omega)
theorem e_rm2 {M N : Nat → Nat → Int} {np ns q n a b : Nat} (ht : tie M N np ns) (hq : q < 30) (hn : n ≤ 8) (K : Nat → Nat → Int) {j : Nat} (h1 : a ≤ j) (h2 : j < b) : (r_m N q n a b K).2 9 j = e_X (M 7) (M 8) (p_tabs M q n) (p_solid (M 7) a b) b a (r_beg N q a) (j - a) ∧ (r_m N q n a b K).2 10 j = q_wide (M 7) (M 8) (p_tabs M q n) (p_solid (M 7) a b) b j (e_X (M 7) (M 8) (p_tabs M q n) (p_solid (M 7) a b) b a (r_beg N q a) (j - a)) := by
  rw [e_rm ht hq hn]
  exact r_ms_at (b - a) 0 _ _ j (by omega) (by omega)
/-- the measure is the ruler's -/
theorem e_rm3 {M N : Nat → Nat → Int} {np ns q n a b : Nat} (ht : tie M N np ns) (hq : q < 30) (hn : n ≤ 8) (hab : a < b) (hin : ∀ k, a ≤ k → k + 1 < b → ¬ p_endl (M 7) k) (K : Nat → Nat → Int) : (r_m N q n a b K).1 = p_endb (M 7) (M 8) (p_tabs M q n) (e_R (M 7) (M 8) (p_tabs M q n) a (0, r_beg N q a, 0, 0) (b - a)) (b - 1) := by
  rw [e_rm1 ht hq hn (by omega) hin, e_end hab hin]
set_option maxHeartbeats 1000000 in
/-- a line: what the class writes is what the reference writes -/
theorem e_line {M N : Nat → Nat → Int} {np ns q n a b e nl : Nat} {x : Int} (ht : tie M N np ns) (hX : wfX M q) (hT : wfT M) (hq : q < 30) (hn : n = pn M q) (hab : a ≤ b) (hbe : b ≤ e) (hb6 : b ≤ 600) (hin : ∀ k, a ≤ k → k + 1 < b → ¬ p_endl (M 7) k) (hx : x = r_beg N q a) (hxb : 0 ≤ x ∧ x ≤ 10000) (hnl : M 3 2 = ((nl : Nat) : Int)) :
    (∀ r, r < 10 → r ≠ 6 → r ≠ 7 → ∃ v, (3 ≤ r → 0 ≤ v ∧ v ≤ 100000000) ∧ q_ad M q n a b e nl x (13 + r) = va_up (M (13 + r)) nl v ∧ r_la N q n a b nl (decide (b = e)) (11 + r) = va_up (N (11 + r)) nl v) ∧
    (∀ j, a ≤ j → j < b → (q_ad M q n a b e nl x 23 j = r_la N q n a b nl (decide (b = e)) 21 j ∧ q_ad M q n a b e nl x 24 j = r_la N q n a b nl (decide (b = e)) 22 j ∧ q_ad M q n a b e nl x 25 j = r_la N q n a b nl (decide (b = e)) 23 j) ∧ (r_la N q n a b nl (decide (b = e)) 21 j = ((nl : Nat) : Int) ∧ (0 ≤ r_la N q n a b nl (decide (b = e)) 22 j ∧ r_la N q n a b nl (decide (b = e)) 22 j ≤ 100000000) ∧ (0 ≤ r_la N q n a b nl (decide (b = e)) 23 j ∧ r_la N q n a b nl (decide (b = e)) 23 j ≤ 100000000))) ∧
    (∀ j, j < a ∨ b ≤ j → (q_ad M q n a b e nl x 23 j = M 23 j ∧ q_ad M q n a b e nl x 24 j = M 24 j ∧ q_ad M q n a b e nl x 25 j = M 25 j) ∧ (r_la N q n a b nl (decide (b = e)) 21 j = N 21 j ∧ r_la N q n a b nl (decide (b = e)) 22 j = N 22 j ∧ r_la N q n a b nl (decide (b = e)) 23 j = N 23 j)) := by
  have hn8 : n ≤ 8 := by rw [hn]; exact hX.1.2.1
  have hsh := (ht.2.2.1 q hq).1
  have hm1 := e_rm1 ht hq hn8 hab hin N
  have hso := p_solid_le (M 7) a b
  have hsg := p_solid_ge (M 7) a b hab
  have hps : ∀ j, a ≤ j → j < b → q_ps0 M q n a b x 24 j = (r_m N q n a b N).2 9 j ∧ q_ps0 M q n a b x 25 j = (r_m N q n a b N).2 10 j ∧ q_ps0 M q n a b x 23 j = ((nl : Nat) : Int) := fun j h1 h2 => by
    have g := e_rm2 ht hq hn8 (b := b) N h1 h2
    have g2 := q_ps_at (kd := M 7) (wd := M 8) (t := p_tabs M q n) (ln := M 3 2) (so := p_solid (M 7) a b) (b := b) (a := a) (x0 := x) (b - a) 0 M j (by omega) (by omega)
    rw [← hx] at g
    rw [g.1, g.2]
    exact ⟨g2.1, g2.2.1, g2.2.2.trans hnl⟩
  have hpo : ∀ r j, j < a ∨ b ≤ j → q_ps0 M q n a b x r j = M r j := fun r j h => by
    rcases h with h | h
    · exact q_ps_lt _ _ _ _ _ _ _ _ _ _ _ _ h
    · exact q_ps_ge _ _ _ _ _ _ _ _ _ _ _ _ (by omega)
  have hXb := e_Xb (kd := M 7) (wd := M 8) (t := p_tabs M q n) (so := p_solid (M 7) a b) (b := b) (a := a) hxb.1 hT.2.1 hT.2.2.2.2.2 (fun j => hX.1.2.2.2.1 j)
  have hac : ∀ j, a ≤ j → j < b → (0 ≤ (r_m N q n a b N).2 9 j ∧ (r_m N q n a b N).2 9 j ≤ 37000000) ∧ (0 ≤ (r_m N q n a b N).2 10 j ∧ (r_m N q n a b N).2 10 j ≤ 60000) := fun j h1 h2 => by
    have g := e_rm2 ht hq hn8 (b := b) N h1 h2
    rw [← hx] at g
    have g1 := hXb (j - a)
    have g2 := q_wideb (kd := M 7) (so := p_solid (M 7) a b) (b := b) (k := j) g1.1 hT.2.1 hT.2.2.2.2.2 (fun j => hX.1.2.2.2.1 j) (t := p_tabs M q n)
    rw [g.1, g.2]
    omega
  have hend : q_end (q_ps0 M q n a b x) a (p_solid (M 7) a b) x = (r_m N q n a b N).1 := by
    rw [hm1]
    unfold q_end
    by_cases h : a < p_solid (M 7) a b
    · rw [if_pos h, if_pos h]
      have g := hps (p_solid (M 7) a b - 1) (by omega) (by omega)
      have g2 := e_rm2 ht hq hn8 (a := a) (b := b) N (j := p_solid (M 7) a b - 1) (by omega) (by omega)
      rw [g.1, g.2.1, g2.1, g2.2]
      have hs : e_X (M 7) (M 8) (p_tabs M q n) (p_solid (M 7) a b) b a (r_beg N q a) (p_solid (M 7) a b - a) = e_X (M 7) (M 8) (p_tabs M q n) (p_solid (M 7) a b) b a (r_beg N q a) (p_solid (M 7) a b - 1 - a) + q_wide (M 7) (M 8) (p_tabs M q n) (p_solid (M 7) a b) b (a + (p_solid (M 7) a b - 1 - a)) (e_X (M 7) (M 8) (p_tabs M q n) (p_solid (M 7) a b) b a (r_beg N q a) (p_solid (M 7) a b - 1 - a)) := by
        generalize p_solid (M 7) a b = so at h hso ⊢
        rw [show so - a = (so - 1 - a) + 1 by omega]
        rfl
      rw [hs, show a + (p_solid (M 7) a b - 1 - a) = p_solid (M 7) a b - 1 by omega]
    · rw [if_neg h, if_neg h, hx]
  have hendb := q_endb (i := q) (n := n) (x := x) (by rw [hn]; exact hX.1) hT hxb hab hb6
  rw [hend] at hendb
  -- what q_ad1 leaves
  have a24 : ∀ r, 19 ≤ r → q_ad1 M q n a b nl x r = q_ps0 M q n a b x r := fun r hr => by
    unfold q_ad1
    rw [mset_ne (by omega), mset_ne (by omega), mset_ne (by omega), mset_ne (by omega), mset_ne (by omega), mset_ne (by omega)]
  have a7 : ∀ r, r < 13 → q_ad1 M q n a b nl x r = M r := fun r hr => q_ad1_eq M q n a b nl x r (by omega)
  have a30 : q_ad1 M q n a b nl x (30 + 4 * q) = M (30 + 4 * q) := q_ad1_eq M q n a b nl x _ (by omega)
  have a17 : q_ad1 M q n a b nl x 17 nl = (r_m N q n a b N).1 := by
    unfold q_ad1
    rw [mset_ne (by omega), mset_same, hend]
  have hroom : r_room N q = M 2 0 - M (30 + 4 * q) 1 := by
    unfold r_room
    rw [ht.2.1.1, hsh 1 (by omega)]
  have hrest : q_rest (q_ad1 M q n a b nl x) q nl = r_rest N q n a b := by
    unfold q_rest r_rest
    rw [a17, a30, a7 2 (by omega), hroom]
    split <;> omega
  have hrb : 0 ≤ r_rest N q n a b ∧ r_rest N q n a b ≤ 30000 := by
    rw [← hrest]
    exact q_restb (by unfold wfT at hT ⊢; rw [a7 7 (by omega), a7 8 (by omega), a7 9 (by omega), a7 2 (by omega)]; exact hT) (by rw [a30]; exact hX.2.2.2.1.1) (by rw [a17]; omega)
  have hal := e_al (M1 := q_ad1 M q n a b nl x) (N0 := r_la2 N q n a b nl (decide (b = e))) (q := q) (a := a) (b := b) (e := e) (nl := nl) (kd := M 7) (ac := (r_m N q n a b N).2 9) (br := (r_m N q n a b N).2 10) (rest := r_rest N q n a b) (a7 7 (by omega)) hab hbe hb6 hin hrest hrb
    (fun j h1 h2 => by rw [a24 24 (by omega), a24 25 (by omega), a24 23 (by omega)]; exact hps j h1 h2) hac (al := M (30 + 4 * q) 5) (by rw [a30]) (mv := r_mv N q n a b) (sp := r_sprd N q a b (decide (b = e))) (by unfold r_mv; rw [hsh 5 (by omega)]) (by unfold r_sprd r_gaps; rw [hsh 5 (by omega), ht.1.1]) (R := _) rfl
  have hla : ∀ r j, r ≠ 0 → r_la N q n a b nl (decide (b = e)) r j = r_l3 (M 7) ((r_m N q n a b N).2 9) ((r_m N q n a b N).2 10) (p_solid (M 7) a b) (r_gc (M 7) (p_solid (M 7) a b) (b - a) a 0) (r_sprd N q a b (decide (b = e))) (r_rest N q n a b) ((nl : Nat) : Int) (b - a) a (r_mv N q n a b) 0 ((q_gc (M 7) (p_solid (M 7) a b - a) a 0 : Nat) : Int) (r_la2 N q n a b nl (decide (b = e))) r j := fun r j hr => by
    unfold r_la r_gaps
    rw [mset_ne hr, ← ht.1.1]
  obtain ⟨⟨l21, l22⟩, lin, lout⟩ := hal
  have qad : ∀ r, r ≠ 3 → q_ad M q n a b e nl x r = q_al (q_ad1 M q n a b nl x) q a b e nl r := fun r hr => by
    unfold q_ad
    rw [mset_ne hr]
  have hmvb : 0 ≤ r_mv N q n a b ∧ r_mv N q n a b ≤ 30000 := by
    unfold r_mv
    split
    · exact hrb
    · split
      · rw [Int.tdiv_eq_ediv_of_nonneg hrb.1]; omega
      · omega
  refine ⟨fun r hr h6 h7 => ?_, fun j h1 h2 => ?_, fun j h => ⟨?_, ?_⟩⟩
  · match r, hr, h6, h7 with
    | 0, _, _, _ => exact ⟨_, fun h => by omega, q_ad_13 _ _ _ _ _ _ _ _, r_la_11 _ _ _ _ _ _ _⟩
    | 1, _, _, _ => exact ⟨_, fun h => by omega, q_ad_14 _ _ _ _ _ _ _ _, r_la_12 _ _ _ _ _ _ _⟩
    | 2, _, _, _ => exact ⟨_, fun h => by omega, q_ad_15 _ _ _ _ _ _ _ _, r_la_13 _ _ _ _ _ _ _⟩
    | 3, _, _, _ => exact ⟨x, fun _ => by omega, q_ad_16 _ _ _ _ _ _ _ _, by rw [hx]; exact r_la_14 _ _ _ _ _ _ _⟩
    | 4, _, _, _ => exact ⟨(r_m N q n a b N).1, fun _ => by omega, by rw [← hend]; exact q_ad_17 _ _ _ _ _ _ _ _, r_la_15 _ _ _ _ _ _ _⟩
    | 5, _, _, _ =>
      refine ⟨p_hgt (M 9) b (b - a) a (M (30 + 4 * q) 10), fun _ => ?_, q_ad_18 _ _ _ _ _ _ _ _, ?_⟩
      · have := p_hgtb (b := b) hT.2.2.1 (b - a) a (M (30 + 4 * q) 10) hX.2.2.2.2.2.2.2.2.2.2.2.2
        omega
      · rw [p_hgt_mh _ _ _ _ _ (by omega), hsh 10 (by omega), ht.1.2.2]
        exact r_la_16 _ _ _ _ _ _ _
    | 8, _, _, _ =>
      refine ⟨r_mv N q n a b, fun _ => by omega, ?_, r_la_19 _ _ _ _ _ _ _⟩
      rw [qad 21 (by omega), l21, a24 21 (by omega), q_ps0_lo _ _ _ _ _ _ (by omega)]
    | 9, _, _, _ =>
      refine ⟨if r_sprd N q a b (decide (b = e)) = 0 then 0 else r_rest N q n a b, fun _ => by split <;> omega, ?_, r_la_20 _ _ _ _ _ _ _⟩
      rw [qad 22 (by omega), l22, a24 22 (by omega), q_ps0_lo _ _ _ _ _ _ (by omega)]
    | r + 10, h, _, _ => omega
  · rw [hla 21 j (by omega), hla 22 j (by omega), hla 23 j (by omega), qad 23 (by omega), qad 24 (by omega), qad 25 (by omega)]
    exact lin j h1 h2
  · obtain ⟨g1, g2, g3⟩ := lout j h
    rw [qad 23 (by omega), qad 24 (by omega), qad 25 (by omega), g1, g2, g3, a24 23 (by omega), a24 24 (by omega), a24 25 (by omega), hpo 23 j h, hpo 24 j h, hpo 25 j h]
    exact ⟨rfl, rfl, rfl⟩
  · have hl2 : ∀ r, 21 ≤ r → r_la2 N q n a b nl (decide (b = e)) r = N r := fun r hr => by
      unfold r_la2
      rw [mset_ne (by omega), mset_ne (by omega), r_la1_eq N q n a b nl r (by omega)]
    rw [hla 21 j (by omega), hla 22 j (by omega), hla 23 j (by omega)]
    rcases h with h | h
    · rw [r_l3_lt _ _ _ _ _ _ _ _ _ _ _ _ _ _ _ _ h, r_l3_lt _ _ _ _ _ _ _ _ _ _ _ _ _ _ _ _ h, r_l3_lt _ _ _ _ _ _ _ _ _ _ _ _ _ _ _ _ h, hl2 21 (by omega), hl2 22 (by omega), hl2 23 (by omega)]
      exact ⟨rfl, rfl, rfl⟩
    · rw [r_l3_ge _ _ _ _ _ _ _ _ _ _ _ _ _ _ _ _ (by omega), r_l3_ge _ _ _ _ _ _ _ _ _ _ _ _ _ _ _ _ (by omega), r_l3_ge _ _ _ _ _ _ _ _ _ _ _ _ _ _ _ _ (by omega), hl2 21 (by omega), hl2 22 (by omega), hl2 23 (by omega)]
      exact ⟨rfl, rfl, rfl⟩
