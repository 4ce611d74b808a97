/-- the lines laid so far are the same, and the signs placed so far -/
def e_LT (M N : Nat → Nat → Int) (nl k : Nat) : Prop := M 3 2 = ((nl : Nat) : Int) ∧ N 0 16 = ((nl : Nat) : Int) ∧ (∀ r, r < 10 → r ≠ 6 → r ≠ 7 → ∀ j, j < nl → M (13 + r) j = N (11 + r) j) ∧ (∀ j, j < k → M 23 j = N 21 j ∧ M 24 j = N 22 j ∧ M 25 j = N 23 j) ∧ (∀ j, j < nl → M 14 j + M 15 j ≤ ((k : Nat) : Int))
theorem eqb_R {N N' : Nat → Nat → Int} (h : eqb 9 10 N' N) : eqR N' N := ⟨fun j _ _ => h j (by omega), fun k _ => by rw [h 0 (by omega)]⟩
theorem r_bk_end {N : Nat → Nat → Int} {q n a : Nat} : ∀ f b fi fo M, (∀ j : Nat, a ≤ j → j + 1 < b → ¬ p_endl (N 6) j) → (∀ j : Nat, a ≤ j → ((j : Nat) : Int) + 1 < fi → ¬ p_endl (N 6) j) → (∀ j : Nat, a ≤ j → ((j : Nat) : Int) + 1 < fo → ¬ p_endl (N 6) j) → 1 ≤ b →
    (∀ j : Nat, a ≤ j → ((j : Nat) : Int) + 1 < (r_bk N q n a f b fi fo M).1 → ¬ p_endl (N 6) j) ∧ (∀ j : Nat, a ≤ j → ((j : Nat) : Int) + 1 < (r_bk N q n a f b fi fo M).2.1 → ¬ p_endl (N 6) j) := by
  intro f
  induction f with
  | zero => intro b fi fo M _ h2 h3 _; exact ⟨h2, h3⟩
  | succ f ih =>
    intro b fi fo M h1 h2 h3 hb
    have g2 : ∀ j : Nat, a ≤ j → ((j : Nat) : Int) + 1 < (if fi < 0 then ((b : Nat) : Int) else fi) → ¬ p_endl (N 6) j := by
      intro j q1 q2
      split at q2
      · exact h1 j q1 (by omega)
      · exact h2 j q1 q2
    have g3 : ∀ j : Nat, a ≤ j → ((j : Nat) : Int) + 1 < (if (r_m N q n a b M).1 ≤ r_room N q then ((b : Nat) : Int) else fo) → ¬ p_endl (N 6) j := by
      intro j q1 q2
      split at q2
      · exact h1 j q1 (by omega)
      · exact h3 j q1 q2
    have g1 : ¬ p_endl (N 6) (b - 1) → ∀ j : Nat, a ≤ j → j + 1 < b + 1 → ¬ p_endl (N 6) j := fun he j q1 q2 => by
      by_cases hj : j = b - 1
      · rw [hj]; exact he
      · exact h1 j q1 (by omega)
    unfold r_bk
    split
    · split
      · exact ⟨g2, g3⟩
      · exact ih _ _ _ _ (g1 ‹_›) g2 g3 (by omega)
    · split
      · exact ⟨h2, h3⟩
      · exact ih _ _ _ _ (g1 ‹_›) h2 h3 (by omega)
/-- where a line ends: the same -/
theorem e_to {M N : Nat → Nat → Int} {np ns q a : Nat} {x : Int} (ht : tie M N np ns) (hX : wfX M q) (hT : wfT M) (hq : q < np) (ha : a < pb M q) (hx : x = r_beg N q a) :
    max (a + 1) (q_lx M q a x).1 = r_to N q (pn M q) (pb M q) a ∧ (∀ k, a ≤ k → k + 1 < r_to N q (pn M q) (pb M q) a → ¬ p_endl (M 7) k) ∧ a < r_to N q (pn M q) (pb M q) a ∧ r_to N q (pn M q) (pb M q) a ≤ pb M q := by
  have hq30 : q < 30 := by have := ht.2.2.2.1.2.2; omega
  have he : N 1 (q + 1) = ((pb M q : Nat) : Int) := by
    rw [← (ht.2.2.2.2.2.1 q hq).2]
    have := hX.2.1
    unfold pb
    omega
  have hb := r_to_b (n := pn M q) he (Nat.le_of_lt ha)
  have hroom : r_room N q = M 2 0 - M (30 + 4 * q) 1 := by
    unfold r_room
    rw [ht.2.1.1, (ht.2.2.1 q hq30).1 1 (by omega)]
  have hs := e_search (N := N) (q := q) (n := pn M q) (a := a) (e := pb M q) (kd := M 7) (wd := M 8) (t := p_tabs M q (pn M q)) (room := M 2 0 - M (30 + 4 * q) 1) (x0 := x) ht.1.1.symm hroom he hT.2.1
    (fun b K h1 h2 h3 => by rw [hx]; exact e_rm3 ht hq30 hX.1.2.1 h1 h3 K) (pb M q - a) a (-1) (-1) N (by omega) (Nat.le_refl _) (fun j h1 h2 => by omega) (fun h => by omega) (fun h => by omega) (fun h => by omega)
  rw [Nat.sub_self] at hs
  have hs2 : (q_lx M q a x).1 = e_sel a (r_bkM N q (pn M q) (pb M q) a).1 (r_bkM N q (pn M q) (pb M q) a).2.1 := hs
  have hto := hb.2.2.2 ha
  have hlt := hb.2.2.1 ha
  have hsel : e_sel a (r_bkM N q (pn M q) (pb M q) a).1 (r_bkM N q (pn M q) (pb M q) a).2.1 = r_to N q (pn M q) (pb M q) a := by
    unfold e_sel
    by_cases h : (r_bkM N q (pn M q) (pb M q) a).2.1 < 0
    · rw [if_pos h] at hto
      rw [if_neg (by omega), if_pos (by omega)]
      omega
    · rw [if_neg h] at hto
      rw [if_pos (by omega)]
      omega
  have hen := r_bk_end (N := N) (q := q) (n := pn M q) (a := a) (pb M q - a) (a + 1) (-1) (-1) N (fun j h1 h2 => by omega) (fun j h1 h2 => by omega) (fun j h1 h2 => by omega) (by omega)
  refine ⟨by rw [hs2, hsel]; omega, fun k h1 h2 => ?_, hlt, hb.2.1⟩
  rw [ht.1.1]
  by_cases h : (r_bkM N q (pn M q) (pb M q) a).2.1 < 0
  · rw [if_pos h] at hto
    exact hen.1 k h1 (show ((k : Nat) : Int) + 1 < (r_bkM N q (pn M q) (pb M q) a).1 by omega)
  · rw [if_neg h] at hto
    exact hen.2 k h1 (show ((k : Nat) : Int) + 1 < (r_bkM N q (pn M q) (pb M q) a).2.1 by omega)
/-- one line more -/
theorem e_LTl {M N : Nat → Nat → Int} {np ns q n a b e nl : Nat} {x : Int} (ht : tie M N np ns) (hX : wfX M q) (hT : wfT M) (hq : q < 30) (hn : n = pn M q) (hab : a ≤ b) (hbe : b ≤ e) (hb6 : b ≤ 600) (hin : ∀ k, a ≤ k → k + 1 < b → ¬ p_endl (M 7) k) (hx : x = r_beg N q a) (hxb : 0 ≤ x ∧ x ≤ 10000) (hl : e_LT M N nl a) (hnl : nl ≤ 630) (hC : bC M) (hR : bR N) :
    e_LT (q_ad M q n a b e nl x) (r_la N q n a b nl (decide (b = e))) (nl + 1) b ∧ bC (q_ad M q n a b e nl x) ∧ bR (r_la N q n a b nl (decide (b = e))) := by
  obtain ⟨l1, l2, l3, l4, l5⟩ := hl
  obtain ⟨g1, g2, g3⟩ := e_line (e := e) (nl := nl) ht hX hT hq hn hab hbe hb6 hin hx hxb l1
  refine ⟨⟨?_, ?_, fun r h1 h2 h3 j hj => ?_, fun j hj => ?_, fun j hj => ?_⟩, fun j => ⟨?_, ?_⟩, fun r h1 h2 j => ?_⟩
  · rw [q_ad_n]; omega
  · rw [r_la_n]; omega
  · obtain ⟨v, -, e1, e2⟩ := g1 r h1 h2 h3
    rw [e1, e2]
    by_cases h : j = nl
    · subst h; rw [va_up_self, va_up_self]
    · rw [va_up_ne _ _ h, va_up_ne _ _ h]; exact l3 r h1 h2 h3 j (by omega)
  · by_cases h : j < a
    · have k := g3 j (Or.inl h)
      rw [k.1.1, k.1.2.1, k.1.2.2, k.2.1, k.2.2.1, k.2.2.2]
      exact l4 j h
    · exact (g2 j (by omega) hj).1
  · rw [q_ad_14, q_ad_15]
    by_cases h : j = nl
    · subst h; rw [va_up_self, va_up_self]; omega
    · rw [va_up_ne _ _ h, va_up_ne _ _ h]
      have := l5 j (by omega)
      omega
  · rw [q_ad_lo _ _ _ _ _ _ _ _ (by omega) (by omega)]
    have : q_ad1 M q n a b nl x 20 = M 20 := by
      unfold q_ad1
      rw [mset_ne (by omega), mset_ne (by omega), mset_ne (by omega), mset_ne (by omega), mset_ne (by omega), mset_ne (by omega), q_ps0_lo _ _ _ _ _ _ (by omega)]
    rw [this]
    exact (hC j).1
  · by_cases h : a ≤ j ∧ j < b
    · have k := g2 j h.1 h.2
      rw [k.1.2.1, k.1.2.2]
      exact k.2.2
    · have k := (g3 j (by omega)).1
      rw [k.2.1, k.2.2]
      exact (hC j).2
  · by_cases hr : r ≤ 20
    · by_cases h6 : r = 17 ∨ r = 18
      · have e1 : r_la N q n a b nl (decide (b = e)) r = N r := by
          rw [r_la_lo _ _ _ _ _ _ _ (by omega) (by omega)]
          unfold r_la2 r_la1
          rw [mset_ne (by omega), mset_ne (by omega), mset_ne (by omega), mset_ne (by omega), mset_ne (by omega), mset_ne (by omega), mset_ne (by omega), mset_ne (by omega), r_m_ne _ _ _ _ _ (by omega)]
        rw [e1]
        exact hR r h1 h2 j
      · obtain ⟨v, hv, -, e2⟩ := g1 (r - 11) (by omega) (by omega) (by omega)
        rw [show 11 + (r - 11) = r by omega] at e2
        rw [e2]
        by_cases h : j = nl
        · subst h; rw [va_up_self]; exact hv (by omega)
        · rw [va_up_ne _ _ h]; exact hR r h1 h2 j
    · by_cases h : a ≤ j ∧ j < b
      · have k := (g2 j h.1 h.2).2
        have : r = 21 ∨ r = 22 ∨ r = 23 := by omega
        rcases this with h | h | h
        · subst h; rw [k.1]; omega
        · subst h; exact k.2.1
        · subst h; exact k.2.2
      · have k := (g3 j (by omega)).2
        have : r = 21 ∨ r = 22 ∨ r = 23 := by omega
        rcases this with h | h | h
        · subst h; rw [k.1]; exact hR _ h1 h2 j
        · subst h; rw [k.2.1]; exact hR _ h1 h2 j
        · subst h; rw [k.2.2]; exact hR _ h1 h2 j
theorem e_pn {M N : Nat → Nat → Int} (h : eqL M N) (i : Nat) : pn M i = pn N i ∧ pf M i = pf N i ∧ pb M i = pb N i := by
  unfold pn pf pb
  rw [eqL_29 h]
  exact ⟨rfl, rfl, rfl⟩
theorem e_begb {M N : Nat → Nat → Int} {np ns q a : Nat} (ht : tie M N np ns) (hX : wfX M q) (hq : q < 30) : 0 ≤ r_beg N q a ∧ r_beg N q a ≤ 10000 := by
  have h0 := (ht.2.2.1 q hq).1 0 (by omega)
  have h2 := (ht.2.2.1 q hq).1 2 (by omega)
  have g0 := hX.2.2.1
  have g2 := hX.2.2.2.2.1
  rw [Nat.add_zero] at h0
  unfold r_beg
  split <;> omega
theorem q_lines_stop {q : Nat} {b : Nat} {x : Int} {M : Nat → Nat → Int} (h : ¬ b < pb M q) : ∀ f, q_lines q f b x M = M := by
  intro f
  cases f with
  | zero => rfl
  | succ f => exact if_neg h
set_option maxHeartbeats 1000000 in
theorem e_lines {np ns q : Nat} : ∀ f f2 a x (M N : Nat → Nat → Int) nl, tie M N np ns → wfX M q → wfT M → q < np → pf M q ≤ a → a < pb M q → pb M q ≤ a + f → pb M q ≤ a + f2 → x = r_beg N q a → e_LT M N nl a → nl ≤ a + q → bC M → bR N →
    ∃ nl', e_LT (q_lines q f a x M) (r_lines q (pn M q) (pb M q) f2 a N) nl' (pb M q) ∧ nl' ≤ pb M q + q ∧ bC (q_lines q f a x M) ∧ bR (r_lines q (pn M q) (pb M q) f2 a N) := by
  intro f
  induction f with
  | zero => intro f2 a x M N nl _ _ _ _ _ h1 h2; omega
  | succ f ih =>
    intro f2 a x M N nl ht hX hT hq hpf ha hf hf2 hx hl hnl hC hR
    cases f2 with
    | zero => omega
    | succ f2 =>
      have hq30 : q < 30 := by have := ht.2.2.2.1.2.2; omega
      have hpb6 : pb M q ≤ 600 := by have := hX.2.1; unfold pb; omega
      obtain ⟨t1, t2, t3, t4⟩ := e_to ht hX hT hq ha hx
      obtain ⟨b, hb⟩ : ∃ b, b = r_to N q (pn M q) (pb M q) a := ⟨_, rfl⟩
      rw [← hb] at t1 t2 t3 t4
      have hnl2 : nlM M = nl := by unfold nlM; rw [hl.1]; omega
      have hrn : rnM N = nl := by unfold rnM; rw [hl.2.1]; omega
      -- the two memories the line is written into
      have eM : eqL (rset M (q_lx M q a x).2) M := eqL_rset
      have eN : eqb 9 10 (r_toM N q (pn M q) (pb M q) a) N := r_toM_eq _ _ _ _ _
      obtain ⟨M1, hM1⟩ : ∃ K, K = rset M (q_lx M q a x).2 := ⟨_, rfl⟩
      obtain ⟨N1, hN1⟩ : ∃ K, K = r_toM N q (pn M q) (pb M q) a := ⟨_, rfl⟩
      rw [← hM1] at eM
      rw [← hN1] at eN
      have m1 : ∀ r, r ≠ 4 → M1 r = M r := fun r hr => by rw [hM1]; exact rset_ne hr
      have ht1 : tie M1 N1 np ns := tie_R (eqb_R eN) (tie_L eM ht)
      have hx1 : x = r_beg N1 q a := by rw [hx]; unfold r_beg; rw [eN 1 (by omega), eN 2 (by omega)]
      have hl1 : e_LT M1 N1 nl a := by
        obtain ⟨k1, k2, k3, k4, k5⟩ := hl
        refine ⟨by rw [m1 3 (by omega)]; exact k1, by rw [eN 0 (by omega)]; exact k2, fun r h1 h2 h3 j hj => ?_, fun j hj => ?_, fun j hj => by rw [m1 14 (by omega), m1 15 (by omega)]; exact k5 j hj⟩
        · rw [m1 (13 + r) (by omega), eN (11 + r) (by omega)]; exact k3 r h1 h2 h3 j hj
        · rw [m1 23 (by omega), m1 24 (by omega), m1 25 (by omega), eN 21 (by omega), eN 22 (by omega), eN 23 (by omega)]; exact k4 j hj
      have hC1 : bC M1 := fun j => by rw [m1 20 (by omega), m1 24 (by omega), m1 25 (by omega)]; exact hC j
      have hR1 : bR N1 := fun r h1 h2 j => by rw [eN r (by omega)]; exact hR r h1 h2 j
      have hpn := e_pn eM q
      obtain ⟨g1, g2, g3⟩ := e_LTl (n := pn M q) (e := pb M q) ht1 (eqL_wfX eM hX) (eqL_wfT eM hT) hq30 hpn.1.symm (Nat.le_of_lt t3) t4 (by omega) (by rw [m1 7 (by omega)]; exact t2) hx1 (by rw [hx]; exact e_begb ht hX hq30) hl1 (by omega) hC1 hR1
      have hqs : q_lines q (f + 1) a x M = q_lines q f b (M (30 + 4 * q) 0) (q_ad M1 q (pn M q) a b (pb M q) nl x) := by
        show (if a < pb M q then _ else _) = _
        rw [if_pos ha, t1, hnl2, hM1]
      have hrs : r_lines q (pn M q) (pb M q) (f2 + 1) a N = if b < pb M q then r_lines q (pn M q) (pb M q) f2 b (r_la N1 q (pn M q) a b nl (decide (b = pb M q))) else r_la N1 q (pn M q) a b nl (decide (b = pb M q)) := by
        show (if r_to N q (pn M q) (pb M q) a < pb M q then _ else _) = _
        unfold r_ln
        rw [← hb, hrn, hN1]
      rw [hqs, hrs]
      have eM2 : eqL (q_ad M1 q (pn M q) a b (pb M q) nl x) M := eqL_tr (q_ad_eqL _ _ _ _ _ _ _ _) eM
      have eN2 : eqR (r_la N1 q (pn M q) a b nl (decide (b = pb M q))) N := eqR_tr (r_la_eqR _ _ _ _ _ _ _) (eqb_R eN)
      have hp2 := e_pn eM2 q
      by_cases hlt : b < pb M q
      · rw [if_pos hlt]
        have hbeg : M (30 + 4 * q) 0 = r_beg (r_la N1 q (pn M q) a b nl (decide (b = pb M q))) q b := by
          unfold r_beg
          rw [eN2.1 1 (by omega) (by omega), eN2.1 2 (by omega) (by omega)]
          have h0 := (ht.2.2.1 q hq30).1 0 (by omega)
          rw [Nat.add_zero] at h0
          have hfi := (ht.2.2.2.2.2.1 q hq).1
          have hw := hX.2.1
          have hw0 := hX.2.2.1
          have : ¬ ((b : Nat) : Int) = N 1 q := by
            unfold pf at hpf
            omega
          rw [if_neg this]
          omega
        obtain ⟨nl', r1, r2, r3, r4⟩ := ih f2 b (M (30 + 4 * q) 0) (q_ad M1 q (pn M q) a b (pb M q) nl x) (r_la N1 q (pn M q) a b nl (decide (b = pb M q))) (nl + 1) (tie_R eN2 (tie_L eM2 ht)) (eqL_wfX eM2 hX) (eqL_wfT eM2 hT) hq (by rw [hp2.2.1]; omega) (by rw [hp2.2.2]; exact hlt) (by rw [hp2.2.2]; omega) (by rw [hp2.2.2]; omega) hbeg g1 (by omega) g2 g3
        rw [hp2.1, hp2.2.2] at r1 r4
        rw [hp2.2.2] at r2
        exact ⟨nl', r1, r2, r3, r4⟩
      · rw [if_neg hlt, q_lines_stop (by rw [hp2.2.2]; exact hlt)]
        have hbe : b = pb M q := by omega
        rw [hbe] at g1 g2 g3 ⊢
        exact ⟨nl + 1, g1, by omega, g2, g3⟩
theorem e_par {M N : Nat → Nat → Int} {np ns q nl : Nat} (ht : tie M N np ns) (hX : wfX M q) (hT : wfT M) (hq : q < np) (hl : e_LT M N nl (pf M q)) (hnl : nl ≤ pf M q + q) (hC : bC M) (hR : bR N) :
    ∃ nl', e_LT (q_par M q) (r_par N q) nl' (pb M q) ∧ nl' ≤ pb M q + (q + 1) ∧ bC (q_par M q) ∧ bR (r_par N q) := by
  have hq30 : q < 30 := by have := ht.2.2.2.1.2.2; omega
  have hw := hX.2.1
  have hi := ht.2.2.2.2.2.1 q hq
  have e1 : rn N q = pn M q := by unfold rn pn; rw [(ht.2.2.1 q hq30).2.1]
  have e2 : re N q = pf M q := by unfold re pf; rw [hi.1]
  have e3 : re N (q + 1) = pb M q := by unfold re pb; rw [hi.2]
  have hle : pf M q ≤ pb M q := by unfold pf pb; omega
  have hpb6 : pb M q ≤ 600 := by unfold pb; omega
  have hx0 : q_x0 M q = r_beg N q (pf M q) := by
    have h0 := (ht.2.2.1 q hq30).1 0 (by omega)
    have h2 := (ht.2.2.1 q hq30).1 2 (by omega)
    rw [Nat.add_zero] at h0
    unfold q_x0 r_beg
    rw [if_pos (by unfold pf; omega), h0, h2]
  have hnl2 : nlM M = nl := by unfold nlM; rw [hl.1]; omega
  unfold q_par r_par
  rw [e1, e2, e3]
  by_cases h : pb M q ≤ pf M q
  · rw [if_pos h]
    have hbe : pb M q = pf M q := by omega
    have hrn : rnM N = nl := by unfold rnM; rw [hl.2.1]; omega
    obtain ⟨g1, g2, g3⟩ := e_LTl (n := pn M q) (a := pf M q) (b := pf M q) (e := pb M q) (nl := nl) (x := q_x0 M q) ht hX hT hq30 rfl (Nat.le_refl _) hle (by omega) (fun k h1 h2 => by omega) hx0 (by rw [hx0]; exact e_begb ht hX hq30) hl (by omega) hC hR
    have hto : r_to N q (pn M q) (pb M q) (pf M q) = pf M q := by unfold r_to; rw [if_neg (by omega)]
    have htM : r_toM N q (pn M q) (pb M q) (pf M q) = N := by unfold r_toM; rw [if_neg (by omega)]
    have hrs : r_lines q (pn M q) (pb M q) (pb M q - pf M q + 1) (pf M q) N = r_la N q (pn M q) (pf M q) (pf M q) nl (decide (pf M q = pb M q)) := by
      show (if r_to N q (pn M q) (pb M q) (pf M q) < pb M q then _ else _) = _
      unfold r_ln
      rw [hto, htM, if_neg (by omega), hrn]
    rw [hrs, hnl2]
    refine ⟨nl + 1, ?_, by omega, g2, g3⟩
    rw [hbe] at g1 ⊢
    exact g1
  · rw [if_neg h]
    obtain ⟨nl', r1, r2, r3, r4⟩ := e_lines (pb M q - pf M q) (pb M q - pf M q + 1) (pf M q) (q_x0 M q) M N nl ht hX hT hq (Nat.le_refl _) (by omega) (by omega) (by omega) hx0 hl hnl hC hR
    exact ⟨nl', r1, by omega, r3, r4⟩
theorem e_all {np ns : Nat} : ∀ f i (M N : Nat → Nat → Int) nl k, i + f = np → tie M N np ns → (∀ k, k < 30 → wfX M k) → wfT M → e_LT M N nl k → (0 < f → k = pf M i) → nl ≤ k + i → bC M → bR N →
    ∃ nl', e_LT (q_all f i M) (r_pars f i N) nl' (if f = 0 then k else pb M (np - 1)) ∧ nl' ≤ (if f = 0 then k else pb M (np - 1)) + np ∧ bC (q_all f i M) ∧ bR (r_pars f i N) := by
  intro f
  induction f with
  | zero => intro i M N nl k hi ht hX hT hl hk hnl hC hR; exact ⟨nl, hl, by rw [if_pos rfl]; omega, hC, hR⟩
  | succ f ih =>
    intro i M N nl k hi ht hX hT hl hk hnl hC hR
    have hk := hk (by omega)
    subst hk
    have h30 := ht.2.2.2.1.2.2
    obtain ⟨n1, r1, r2, r3, r4⟩ := e_par ht (hX i (by omega)) hT (by omega) hl hnl hC hR
    have eM := q_par_eqL M i
    have eN := r_par_eqR N i
    have ht2 := tie_R eN (tie_L eM ht)
    obtain ⟨n2, s1, s2, s3, s4⟩ := ih (i + 1) (q_par M i) (r_par N i) n1 (pb M i) (by omega) ht2 (fun j hj => eqL_wfX eM (hX j hj)) (eqL_wfT eM hT) r1 (fun hf => by
      have g1 := (ht.2.2.2.2.2.1 i (by omega)).2
      have g2 := (ht.2.2.2.2.2.1 (i + 1) (by omega)).1
      rw [(e_pn eM (i + 1)).2.1]
      unfold pb pf
      rw [g1, g2]) (by omega) r3 r4
    refine ⟨n2, ?_, ?_, s3, s4⟩
    · rw [if_neg (by omega)]
      by_cases hf : f = 0
      · rw [if_pos hf] at s1
        rw [show np - 1 = i by omega]
        exact s1
      · rw [if_neg hf, (e_pn eM (np - 1)).2.2] at s1
        exact s1
    · rw [if_neg (by omega)]
      by_cases hf : f = 0
      · rw [if_pos hf] at s2
        rw [show np - 1 = i by omega]
        exact s2
      · rw [if_neg hf, (e_pn eM (np - 1)).2.2] at s2
        exact s2
