theorem inv_G {M N : Nat → Nat → Int} {np ns : Nat} (h : INV M N np ns) : rG N ∧ rF N := by
  obtain ⟨h1, h2, ⟨g1, g2, g3, g4, g5⟩, h4⟩ := h
  refine ⟨⟨?_, g4, g5, fun j => ?_⟩, fun h15 g hg => ?_⟩
  · rcases h4 with ⟨a, b, c, d⟩ | ⟨a, b, c, d⟩
    · exact Or.inl b
    · exact Or.inr b
  · have z : ∀ r, 14 ≤ r → r ≤ 23 → zb (N r j) := fun r h1 h2 => by
      have := g3 r h1 h2 j
      exact ⟨by omega, by omega⟩
    have a := g3 22 (by omega) (by omega) j
    have b := g3 23 (by omega) (by omega) j
    exact ⟨z 14 (by omega) (by omega), z 15 (by omega) (by omega), z 17 (by omega) (by omega), z 18 (by omega) (by omega), z 19 (by omega) (by omega), z 20 (by omega) (by omega), z 21 (by omega) (by omega), by omega, by omega⟩
  · rcases h4 with ⟨a, b, c, d⟩ | ⟨a, b, ⟨nl, pg, q1, q2, q3, q4, q5, q6, q7, q8, q9, q10⟩, d⟩
    · omega
    · rw [q4]
      exact (q9 g (by omega)).2.2.1
theorem inv_nl {M N : Nat → Nat → Int} {np ns : Nat} (h : INV M N np ns) : ∃ nl g : Nat, M 3 2 = ((nl : Nat) : Int) ∧ nl ≤ 630 ∧ M 5 1 = ((g : Nat) : Int) ∧ g ≤ 630 ∧ ((N 0 15 = 1 ∧ M 0 4 = 1 ∧ N 0 16 = ((nl : Nat) : Int) ∧ N 0 30 = ((g : Nat) : Int)) ∨ (nl = 0 ∧ g = 0 ∧ N 0 15 = 0 ∧ M 0 4 = 0)) := by
  obtain ⟨h1, h2, h3, h4⟩ := h
  rcases h4 with ⟨a, b, c, d⟩ | ⟨a, b, ⟨nl, pg, q1, q2, q3, q4, q5, q6, q7⟩, d⟩
  · exact ⟨0, 0, c, by omega, d, by omega, Or.inr ⟨rfl, rfl, b, a⟩⟩
  · exact ⟨nl, pg, q3, q1, q5, by omega, Or.inl ⟨b, a, q4, q6⟩⟩
theorem ans_count {M N : Nat → Nat → Int} {np ns : Nat} (h : INV M N np ns) (w : Int) : (if w = 0 then M 1 4 else if w = 1 then M 1 5 else if w = 2 then M 3 2 else if w = 3 then M 5 1 else -1) = r_cnt N np w := by
  obtain ⟨nl, g, a1, a2, a3, a4, a5⟩ := inv_nl h
  obtain ⟨t1, t2, t3, t4, t5, t6, t7⟩ := h.1
  unfold r_cnt
  by_cases h0 : w = 0
  · rw [if_pos h0, if_pos h0]; exact t4.1
  · rw [if_neg h0, if_neg h0]
    by_cases h1 : w = 1
    · rw [if_pos h1, if_pos h1, t5.1]
      by_cases q : np = 0
      · rw [if_pos q, t5.2.2.2 q]; rfl
      · rw [if_neg q, t5.2.2.1 (by omega)]
    · rw [if_neg h1, if_neg h1]
      by_cases h2 : w = 2
      · rw [if_pos h2, if_pos h2, a1]
        rcases a5 with ⟨b1, b2, b3, b4⟩ | ⟨b1, b2, b3, b4⟩
        · rw [if_neg (by omega), b3]
        · rw [if_pos b3, b1]; rfl
      · rw [if_neg h2, if_neg h2]
        by_cases h3 : w = 3
        · rw [if_pos h3, if_pos h3, a3]
          rcases a5 with ⟨b1, b2, b3, b4⟩ | ⟨b1, b2, b3, b4⟩
          · rw [if_neg (by omega), b4]
          · rw [if_pos b3, b2]; rfl
        · rw [if_neg h3, if_neg h3]
theorem ans_line {M N : Nat → Nat → Int} {np ns : Nat} (h : INV M N np ns) (x w : Int) : r_lic N x w = (if inn x 0 (M 3 2 - 1) then (if inn w 0 9 then 0 else 2) else 1) ∧ (inn x 0 (M 3 2 - 1) → inn w 0 9 → M (13 + w.toNat) x.toNat = N (11 + w.toNat) x.toNat) := by
  obtain ⟨h1, h2, h3, h4⟩ := h
  unfold r_lic
  rcases h4 with ⟨a, b, c, d⟩ | ⟨a, b, ⟨nl, pg, q1, q2, q3, q4, q5, q6, q7, q8, q9, q10⟩, d⟩
  · rw [c, if_neg (fun q => by omega), if_neg (by unfold inn; omega)]
    exact ⟨rfl, fun q => by unfold inn at q; omega⟩
  · rw [q3, q4]
    refine ⟨?_, fun g1 g2 => ?_⟩
    · by_cases g : inn x 0 (((nl : Nat) : Int) - 1)
      · rw [if_pos ⟨b, g⟩, if_pos g]
      · rw [if_neg (fun q => g q.2), if_neg g]
    · unfold inn at g1 g2
      exact q7 _ (by omega) _ (by omega)
theorem ans_where {M N : Nat → Nat → Int} {np ns : Nat} (h : INV M N np ns) (x w : Int) : r_whc N np x w = (if M 0 4 = 1 ∧ inn x 0 (((ns : Nat) : Int) - 1) then (if inn w 0 2 then 0 else 2) else 1) ∧ (M 0 4 = 1 ∧ inn x 0 (((ns : Nat) : Int) - 1) → inn w 0 2 → M (23 + w.toNat) x.toNat = N (21 + w.toNat) x.toNat) := by
  obtain ⟨h1, h2, h3, h4⟩ := h
  obtain ⟨t1, t2, t3, t4, t5, t6, t7⟩ := h1
  unfold r_whc
  rcases h4 with ⟨a, b, c, d⟩ | ⟨a, b, ⟨nl, pg, q1, q2, q3, q4, q5, q6, q7, q8, q9, q10⟩, d⟩
  · rw [if_neg (fun q => by omega), if_neg (fun q => by omega)]
    exact ⟨rfl, fun q => by omega⟩
  · refine ⟨?_, fun g1 g2 => ?_⟩
    · by_cases g : inn x 0 (((ns : Nat) : Int) - 1)
      · have hnp : ¬ np = 0 := fun q => by
          have := t5.2.2.2 q
          unfold inn at g
          omega
        rw [if_pos ⟨b, hnp, by rw [t5.2.2.1 (by omega)]; exact g⟩, if_pos (show M 0 4 = 1 ∧ inn x 0 (((ns : Nat) : Int) - 1) from ⟨a, g⟩)]
      · rw [if_neg (fun q => g (by have := q.2.2; rw [t5.2.2.1 (by omega)] at this; exact this)), if_neg (fun q => g q.2)]
    · have g3 := g1.2
      unfold inn at g3 g2
      have k := q8 x.toNat (by omega)
      have : w = 0 ∨ w = 1 ∨ w = 2 := by omega
      rcases this with e | e | e
      · subst e; exact k.1
      · subst e; exact k.2.1
      · subst e; exact k.2.2
theorem ans_page {M N : Nat → Nat → Int} {np ns : Nat} (h : INV M N np ns) (x w : Int) : r_pgc N x w = (if inn x 0 (M 5 1 - 1) then (if inn w 0 2 then 0 else 2) else 1) ∧ (inn x 0 (M 5 1 - 1) → inn w 0 2 → M (26 + w.toNat) x.toNat = r_pgv N x.toNat w) := by
  obtain ⟨h1, h2, h3, h4⟩ := h
  unfold r_pgc r_isp
  rcases h4 with ⟨a, b, c, d⟩ | ⟨a, b, ⟨nl, pg, q1, q2, q3, q4, q5, q6, q7, q8, q9, q10⟩, d⟩
  · rw [d, if_neg (fun q => by omega), if_neg (by unfold inn; omega)]
    exact ⟨rfl, fun q => by unfold inn at q; omega⟩
  · rw [q5, q6]
    refine ⟨?_, fun g1 g2 => ?_⟩
    · by_cases g : inn x 0 (((pg : Nat) : Int) - 1)
      · rw [if_pos ⟨b, g⟩, if_pos g]
      · rw [if_neg (fun q => g q.2), if_neg g]
    · unfold inn at g1 g2
      obtain ⟨k1, k2, k3, k4, k5⟩ := q9 x.toNat (by omega)
      unfold r_pgv
      have : w = 0 ∨ w = 1 ∨ w = 2 := by omega
      rcases this with e | e | e
      · subst e; rw [if_pos rfl]; exact k1
      · subst e
        rw [if_neg (by omega), if_pos rfl]
        show M 27 x.toNat = _
        omega
      · subst e; rw [if_neg (by omega), if_neg (by omega)]; exact k4
theorem r_hl_sp (dn : Nat → Int) (y : Int) : ∀ f l, (∀ j, l < j → j ≤ r_hl dn y f l → dn j ≤ y) ∧ (r_hl dn y f l < l + f → y < dn (r_hl dn y f l + 1)) := by
  intro f
  induction f with
  | zero => intro l; exact ⟨fun j h1 h2 => by have : j ≤ l := h2; omega, fun h => by have : l < l + 0 := h; omega⟩
  | succ f ih =>
    intro l
    have hs : r_hl dn y (f + 1) l = if dn (l + 1) ≤ y then r_hl dn y f (l + 1) else l := rfl
    rw [hs]
    by_cases h : dn (l + 1) ≤ y
    · rw [if_pos h]
      obtain ⟨g1, g2⟩ := ih (l + 1)
      refine ⟨fun j h1 h2 => ?_, fun q => g2 (by omega)⟩
      by_cases hj : j = l + 1
      · subst hj; exact h
      · exact g1 j (by omega) h2
    · rw [if_neg h]
      exact ⟨fun j h1 h2 => by omega, fun _ => by omega⟩
theorem p_lat_sp (dn : Nat → Int) (y : Int) (a : Nat) : ∀ s, a ≤ s → a ≤ p_lat dn y a s ∧ p_lat dn y a s ≤ s ∧ (∀ j, p_lat dn y a s < j → j ≤ s → y < dn j) ∧ (a < p_lat dn y a s → dn (p_lat dn y a s) ≤ y) := by
  intro s
  induction s with
  | zero => intro h; exact ⟨h, Nat.le_refl _, fun j h1 h2 => by have : 0 < j := h1; omega, fun h1 => by have : a < 0 := h1; omega⟩
  | succ s ih =>
    intro h
    have hs : p_lat dn y a (s + 1) = if a < s + 1 ∧ y < dn (s + 1) then p_lat dn y a s else s + 1 := rfl
    rw [hs]
    by_cases hc : a < s + 1 ∧ y < dn (s + 1)
    · rw [if_pos hc]
      obtain ⟨g1, g2, g3, g4⟩ := ih (by omega)
      refine ⟨g1, by omega, fun j h1 h2 => ?_, g4⟩
      by_cases hj : j = s + 1
      · subst hj; exact hc.2
      · exact g3 j h1 (by omega)
    · rw [if_neg hc]
      exact ⟨h, Nat.le_refl _, fun j h1 h2 => by omega, fun h1 => by
        have : ¬ y < dn (s + 1) := fun q => hc ⟨h1, q⟩
        omega⟩
theorem p_ah_hk {kd pf pw kd' pf' pw' : Nat → Int} {x : Int} : ∀ f i, (∀ j, i ≤ j → j < i + f → kd j = kd' j ∧ pf j = pf' j ∧ pw j = pw' j) → p_ah kd pf pw x f i = r_hk kd' pf' pw' x f i := by
  intro f
  induction f with
  | zero => intro i _; rfl
  | succ f ih =>
    intro i h
    have h0 := h i (by omega) (by omega)
    have h1 : p_ah kd pf pw x (f + 1) i = if x < pf i + (pw i).tdiv 2 ∨ p_endl kd i then i else p_ah kd pf pw x f (i + 1) := rfl
    have h2 : r_hk kd' pf' pw' x (f + 1) i = if ¬ p_endl kd' i ∧ pf' i + (pw' i).tdiv 2 ≤ x then r_hk kd' pf' pw' x f (i + 1) else i := rfl
    rw [h1, h2]
    unfold p_endl
    rw [h0.1, h0.2.1, h0.2.2, ih (i + 1) (fun j q1 q2 => h j (by omega) (by omega))]
    by_cases hc : ¬ (kd' i = 5 ∨ kd' i = 6) ∧ pf' i + (pw' i).tdiv 2 ≤ x
    · rw [if_pos hc, if_neg (by omega)]
    · rw [if_neg hc, if_pos (by omega)]
theorem ans_hit {M N : Nat → Nat → Int} {np ns : Nat} (h : INV M N np ns) (x : Int) : r_htc N x = (if inn x 0 (M 5 1 - 1) then 0 else 1) ∧ (inn x 0 (M 5 1 - 1) → ∃ g a k : Nat, x = ((g : Nat) : Int) ∧ M 26 g = ((a : Nat) : Int) ∧ M 27 g = ((k : Nat) : Int) ∧ 1 ≤ k ∧ a + k ≤ 630 ∧
    ∀ xx yy : Int, p_ah (M 7) (M 24) (M 25) xx (lk M (p_lat (M 20) yy a (a + k - 1))) (lf M (p_lat (M 20) yy a (a + k - 1))) = r_hit N x.toNat xx yy) := by
  obtain ⟨h1, h2, h3, h4⟩ := h
  unfold r_htc r_isp
  rcases h4 with ⟨a, b, c, d⟩ | ⟨a, b, ⟨nl, pg, q1, q2, q3, q4, q5, q6, q7, q8, q9, q10⟩, d⟩
  · rw [d, if_neg (fun q => by omega), if_neg (by unfold inn; omega)]
    exact ⟨rfl, fun q => by unfold inn at q; omega⟩
  · rw [q5, q6]
    refine ⟨?_, fun g1 => ?_⟩
    · by_cases g : inn x 0 (((pg : Nat) : Int) - 1)
      · rw [if_pos ⟨b, g⟩, if_pos g]
      · rw [if_neg (fun q => g q.2), if_neg g]
    · unfold inn at g1
      obtain ⟨k1, k2, k3, k4, k5⟩ := q9 x.toNat (by omega)
      obtain ⟨s, hs⟩ : ∃ s : Nat, N 24 x.toNat = ((s : Nat) : Int) := ⟨(N 24 x.toNat).toNat, by omega⟩
      obtain ⟨e, he⟩ : ∃ e : Nat, N 24 (x.toNat + 1) = ((e : Nat) : Int) := ⟨(N 24 (x.toNat + 1)).toNat, by omega⟩
      refine ⟨x.toNat, s, e - s, by omega, by rw [k1, hs], by omega, by omega, by omega, fun xx yy => ?_⟩
      rw [hs, he] at k3 k5
      have hln : r_hln N x.toNat yy = p_lat (M 20) yy s (s + (e - s) - 1) := by
        unfold r_hln
        rw [hs, he, show (((e : Nat) : Int)).toNat - 1 - (((s : Nat) : Int)).toNat = e - 1 - s by omega, show (((s : Nat) : Int)).toNat = s by omega, show s + (e - s) - 1 = e - 1 by omega]
        obtain ⟨p1, p2, p3, p4⟩ := p_lat_sp (M 20) yy s (e - 1) (by omega)
        obtain ⟨r1, r2⟩ := r_hl_b (N 18) yy (e - 1 - s) s
        obtain ⟨r3, r4⟩ := r_hl_sp (N 18) yy (e - 1 - s) s
        have h20 : ∀ j, j < nl → M 20 j = N 18 j := fun j hj => q7 7 (by omega) j hj
        generalize r_hl (N 18) yy (e - 1 - s) s = R at r1 r2 r3 r4 ⊢
        generalize p_lat (M 20) yy s (e - 1) = L at p1 p2 p3 p4 ⊢
        have mono : ∀ d j, s ≤ j → j + d < e → N 18 j ≤ N 18 (j + d) := by
          intro d
          induction d with
          | zero => intro j _ _; exact Int.le_refl _
          | succ d ihd =>
            intro j z1 z2
            have z3 := ihd j z1 (by omega)
            have z4 := k5 (j + d) (by omega) (by omega)
            rw [show j + d + 1 = j + (d + 1) by omega] at z4
            omega
        rcases Nat.lt_trichotomy R L with q | q | q
        · exfalso
          have z1 := r4 (by omega)
          have z2 := p4 (by omega)
          rw [h20 L (by omega)] at z2
          have z3 := mono (L - (R + 1)) (R + 1) (by omega) (by omega)
          rw [show R + 1 + (L - (R + 1)) = L by omega] at z3
          omega
        · exact q
        · exfalso
          have z1 := r3 R (by omega) (Nat.le_refl _)
          have z2 := p3 R q (by omega)
          rw [h20 R (by omega)] at z2
          omega
      unfold r_hit
      rw [hln]
      obtain ⟨p1, p2, p3, p4⟩ := p_lat_sp (M 20) yy s (s + (e - s) - 1) (by omega)
      generalize p_lat (M 20) yy s (s + (e - s) - 1) = L at p1 p2 p3 p4 ⊢
      have e1 : lk M L = rk N L := by unfold lk rk; rw [show M 15 L = N 13 L from q7 2 (by omega) L (by omega)]
      have e2 : lf M L = rf N L := by unfold lf rf; rw [show M 14 L = N 12 L from q7 1 (by omega) L (by omega)]
      have hsum := q10 L (by omega)
      have hw := h2.2.2.1 L
      rw [← e1, ← e2]
      refine p_ah_hk _ _ (fun j z1 z2 => ?_)
      have hj : j < ns := by unfold lk lf at z2; omega
      have k := q8 j hj
      exact ⟨by rw [h1.1.1], k.2.1, k.2.2⟩
theorem ans_sign {M N : Nat → Nat → Int} {np ns : Nat} (h : INV M N np ns) (k w v : Int) : r_sgc N np k w v = if np = 0 then 1 else if inn k 0 6 ∧ inn w 0 4000 ∧ inn v 0 2000 then (if ns = 600 then 3 else 0) else 2 := by
  obtain ⟨t1, t2, t3, t4, t5, t6, t7⟩ := h.1
  unfold r_sgc
  by_cases h0 : np = 0
  · rw [if_pos h0, if_pos h0]
  · rw [if_neg h0, if_neg h0]
    by_cases h1 : inn k 0 6 ∧ inn w 0 4000 ∧ inn v 0 2000
    · rw [if_pos h1, if_pos h1, t5.2.2.1 (by omega)]
      by_cases h2 : ns = 600
      · rw [if_pos h2, if_pos (by omega)]
      · rw [if_neg h2, if_neg (by omega)]
    · rw [if_neg h1, if_neg h1]
theorem ans_stop {M N : Nat → Nat → Int} {np ns : Nat} (h : INV M N np ns) (x a k : Int) : (¬ inn x 0 (((np : Nat) : Int) - 1) → r_stc N np x a k = 1) ∧ (∀ q, x = ((q : Nat) : Int) → q < np → ∃ n, wfP M q n ∧ N 3 x.toNat = ((n : Nat) : Int) ∧ r_stc N np x a k = if inn a (p_last n (M (31 + 4 * q)) + 1) 30000 ∧ inn k 0 2 then (if n = 8 then 3 else 0) else 2) := by
  obtain ⟨⟨t1, t2, t3, t4, t5, t6, t7⟩, ⟨c1, -⟩, -⟩ := h
  refine ⟨fun h0 => ?_, fun q hq hqn => ?_⟩
  · unfold r_stc
    rw [if_neg h0]
  · have hx := (c1 q (by omega)).1
    obtain ⟨k1, k2, k3⟩ := t3 q (by omega)
    refine ⟨pn M q, hx, ?_, ?_⟩
    · rw [show x.toNat = q by omega, ← k2]; exact hx.2.2.1
    · have h3 : N 3 q = ((pn M q : Nat) : Int) := by rw [← k2]; exact hx.2.2.1
      have hl : p_last (pn M q) (M (31 + 4 * q)) = if 0 < pn M q then N 4 (8 * q + pn M q - 1) else 0 := by
        unfold p_last
        by_cases h : 0 < pn M q
        · rw [if_pos h, if_pos h, (k3 (pn M q - 1) (by have := hx.2.1; omega)).1, show 8 * q + (pn M q - 1) = 8 * q + pn M q - 1 by omega]
        · rw [if_neg h, if_neg h]
      have hz : 0 ≤ p_last (pn M q) (M (31 + 4 * q)) := by
        unfold p_last
        split
        · exact (hx.2.2.2.1 _).1
        · omega
      unfold r_stc
      rw [show x.toNat = q by omega, h3, if_pos (by unfold inn; omega), show (((pn M q : Nat) : Int)).toNat = pn M q by omega]
      have hc : (inn a 1 30000 ∧ inn k 0 2 ∧ ¬ (0 < ((pn M q : Nat) : Int) ∧ a ≤ N 4 (8 * q + pn M q - 1))) ↔ (inn a (p_last (pn M q) (M (31 + 4 * q)) + 1) 30000 ∧ inn k 0 2) := by
        unfold inn
        rw [hl] at hz ⊢
        by_cases h : 0 < pn M q
        · rw [if_pos h] at hz ⊢
          omega
        · rw [if_neg h]
          omega
      by_cases g : inn a (p_last (pn M q) (M (31 + 4 * q)) + 1) 30000 ∧ inn k 0 2
      · rw [if_pos (hc.mpr g), if_pos g]
        by_cases h8 : pn M q = 8
        · rw [if_pos h8, if_pos (by omega)]
        · rw [if_neg h8, if_neg (by omega)]
      · rw [if_neg (fun q => g (hc.mp q)), if_neg g]
