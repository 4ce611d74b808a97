theorem r_pg_out (N : Nat → Nat → Int) (a : Nat) (pg : Int) : ∀ f k d M r j, j < k ∨ k + f ≤ j → r_pg N a pg f k d M r j = M r j := by
  intro f
  induction f with
  | zero => intro k d M r j _; rfl
  | succ f ih =>
    intro k d M r j h
    refine (ih _ _ _ r j (by omega)).trans ?_
    rw [mset_out (by omega), mset_out (by omega)]
theorem r_pg_at {N K : Nat → Nat → Int} {a : Nat} {pg : Int} (h16 : K 16 = N 16) (hb : ∀ w, r_btw K w = r_btw N w) : ∀ f i d M, (d + if a < a + i then r_btw K (a + i) else 0) = e_D N a i → ∀ j, i ≤ j → j < i + f → r_pg K a pg f (a + i) d M 17 (a + j) = pg ∧ r_pg K a pg f (a + i) d M 18 (a + j) = e_D N a j := by
  intro f
  induction f with
  | zero => intro i d M _ j h1 h2; omega
  | succ f ih =>
    intro i d M hd j h1 h2
    have hs : r_pg K a pg (f + 1) (a + i) d M = r_pg K a pg f (a + (i + 1)) (d + (if a < a + i then r_btw K (a + i) else 0) + K 16 (a + i)) (mset (mset M 17 (a + i) pg) 18 (a + i) (d + if a < a + i then r_btw K (a + i) else 0)) := rfl
    rw [hs, hd]
    by_cases hj : j = i
    · subst hj
      rw [r_pg_out _ _ _ _ _ _ _ _ _ (by omega), r_pg_out _ _ _ _ _ _ _ _ _ (by omega), mset_ne (by omega), mset_same, mset_same]
      exact ⟨rfl, rfl⟩
    · refine ih (i + 1) _ _ ?_ j (by omega) (by omega)
      rw [if_pos (by omega), hb, h16]
      rfl
theorem q_pg_out (num : Int) : ∀ f k M r j, j < k ∨ k + f ≤ j → q_pg num f k M r j = M r j := by
  intro f
  induction f with
  | zero => intro k M r j _; rfl
  | succ f ih =>
    intro k M r j h
    exact (ih _ _ r j (by omega)).trans (mset_out (by omega))
theorem q_pg_at (num : Int) : ∀ f k M j, k ≤ j → j < k + f → q_pg num f k M 19 j = num := by
  intro f
  induction f with
  | zero => intro k M j h1 h2; omega
  | succ f ih =>
    intro k M j h1 h2
    by_cases hj : j = k
    · subst hj
      show q_pg num f (j + 1) (mset M 19 j num) 19 j = num
      rw [q_pg_out _ _ _ _ _ _ (by omega), mset_same]
    · exact ih _ _ j (by omega) (by omega)
theorem q_st_lt (M : Nat → Nat → Int) : ∀ f b K j, j < b → (q_st M f b K).2 20 j = K 20 j := by
  intro f
  induction f with
  | zero => intro b K j _; rfl
  | succ f ih =>
    intro b K j h
    unfold q_st
    split
    · rfl
    · split
      · dsimp only
        rw [mset_out (show j ≠ b by omega)]
      · rw [ih _ _ j (by omega), mset_out (show j ≠ b by omega)]
/-- where a page ends: at the next one's begin, or where the filling stands -/
def e_en (N : Nat → Nat → Int) (a g p : Nat) : Int := if p + 1 < g then N 24 (p + 1) else ((a : Nat) : Int)
/-- the pages filled so far are the same -/
def e_FT (M N : Nat → Nat → Int) (a g : Nat) : Prop := M 5 1 = ((g : Nat) : Int) ∧ N 0 30 = ((g : Nat) : Int) ∧ g ≤ a ∧ (∀ j, j < a → M 19 j = N 17 j ∧ M 20 j = N 18 j) ∧
  (∀ p, p < g → M 26 p = N 24 p ∧ M 26 p + M 27 p = e_en N a g p ∧ (0 ≤ N 24 p ∧ N 24 p < e_en N a g p ∧ e_en N a g p ≤ ((a : Nat) : Int)) ∧ M 28 p = N 18 ((e_en N a g p).toNat - 1) + N 16 ((e_en N a g p).toNat - 1) ∧ (∀ j : Nat, N 24 p ≤ ((j : Nat) : Int) → ((j : Nat) : Int) + 1 < e_en N a g p → N 18 j ≤ N 18 (j + 1)))
theorem e_PT_G {M M' N N' : Nat → Nat → Int} {nl : Nat} (h : eqG M' M) (k : eqP N' N) (hp : e_PT M N nl) : e_PT M' N' nl := by
  obtain ⟨p1, p2, p3, p4⟩ := hp
  have m7 := h 7 (by omega) (by omega) (by omega) (by omega)
  have m13 := h 13 (by omega) (by omega) (by omega) (by omega)
  have m14 := h 14 (by omega) (by omega) (by omega) (by omega)
  have m15 := h 15 (by omega) (by omega) (by omega) (by omega)
  have m18 := h 18 (by omega) (by omega) (by omega) (by omega)
  have m2 := h 2 (by omega) (by omega) (by omega) (by omega)
  have m3 := h 3 (by omega) (by omega) (by omega) (by omega)
  have m30 : ∀ i, M' (30 + 4 * i) = M (30 + 4 * i) := fun i => h _ (by omega) (by omega) (by omega) (by omega)
  have n6 := k.1 6 (by omega) (by omega) (by omega) (by omega)
  have n2 := k.1 2 (by omega) (by omega) (by omega) (by omega)
  have n11 := k.1 11 (by omega) (by omega) (by omega) (by omega)
  have n12 := k.1 12 (by omega) (by omega) (by omega) (by omega)
  have n13 := k.1 13 (by omega) (by omega) (by omega) (by omega)
  have n16 := k.1 16 (by omega) (by omega) (by omega) (by omega)
  have q1 : ∀ w, lq M' w = lq M w := fun w => by unfold lq; rw [m13]
  have q2 : ∀ w, rq N' w = rq N w := fun w => by unfold rq; rw [n11]
  have q3 : nlM M' = nlM M := by unfold nlM; rw [m3]
  refine ⟨fun w h1 h2 => ?_, fun w hw => by rw [m18, n16]; exact p2 w hw, by rw [m2, k.2 2 (by omega)]; exact p3, by rw [q3]; exact p4⟩
  have g := p1 w h1 h2
  refine ⟨?_, ?_, ?_⟩
  · unfold q_mu r_mu lf lk rf rk
    rw [m7, m13, m14, m15, q1, m30, n6, n11, n12, n13, q2, n2]
    exact g.1
  · unfold q_ma r_ma r_sh
    rw [m13, q1, m30, q3, n11, q2, n2]
    exact g.2.1
  · unfold q_sp r_btw
    rw [m13, q1, q1, m30, m30, n11, q2, q2, n2]
    exact g.2.2
theorem e_Db {N : Nat → Nat → Int} {a nl : Nat} (h16 : ∀ w, w < nl → 0 ≤ N 16 w ∧ N 16 w ≤ 2000) (hb : ∀ w, 1 ≤ w → w < nl → 0 ≤ r_btw N w ∧ r_btw N w ≤ 10000) : ∀ i, a + i < nl → 0 ≤ e_D N a i ∧ e_D N a i ≤ 12000 * ((i : Nat) : Int) := by
  intro i
  induction i with
  | zero => intro _; unfold e_D; omega
  | succ i ih =>
    intro h
    have := ih (by omega)
    have := h16 (a + i) (by omega)
    have := hb (a + (i + 1)) (by omega) h
    unfold e_D
    omega
set_option maxHeartbeats 1000000 in
/-- one page more -/
theorem e_page {M N : Nat → Nat → Int} {a nl g : Nat} (hp : e_PT M N nl) (ha : a < nl) (hnl : nl ≤ 630) (hf : e_FT M N a g) (hC : bC M) (hR : bR N) (h16 : ∀ w, w < nl → 0 ≤ N 16 w ∧ N 16 w ≤ 2000) (hb : ∀ w, 1 ≤ w → w < nl → 0 ≤ r_btw N w ∧ r_btw N w ≤ 10000) :
    max (a + 1) (q_pbv M a) = a + r_fil N a nl ∧ e_FT (q_ap (q_st0 M a).2 a (a + r_fil N a nl)) (r_pgs N a (r_fil N a nl)) (a + r_fil N a nl) (g + 1) ∧ bC (q_ap (q_st0 M a).2 a (a + r_fil N a nl)) ∧ bR (r_pgs N a (r_fil N a nl)) := by
  obtain ⟨b1, b2, b3, b4⟩ := e_pbv hp ha
  have hfb := r_fil_b N ha
  obtain ⟨f1, f2, f0, f3, f4⟩ := hf
  have hD := e_Db (a := a) h16 hb
  generalize r_fil N a nl = n at b1 hfb ⊢
  have hkeq : eqb 20 20 (q_st0 M a).2 M := eqb_tr (q_st_eq _ _ _ _) (eqb_set eqb_rf (by omega) (by omega))
  generalize hst : (q_st0 M a) = S at b2 b3 b4 hkeq ⊢
  obtain ⟨C, K⟩ := S
  dsimp only at b2 b3 b4 hkeq ⊢
  have hnp : npM K = g := by unfold npM; rw [hkeq 5 (by omega), f1]; omega
  have hrp : rpM N = g := by unfold rpM; rw [f2]; omega
  have k51 : K 5 1 = ((g : Nat) : Int) := by rw [hkeq 5 (by omega)]; exact f1
  -- rows of the class
  have c19 : ∀ j, q_ap K a (a + n) 19 j = if a ≤ j ∧ j < a + n then ((g : Nat) : Int) else M 19 j := fun j => by
    unfold q_ap
    rw [mset_ne (by omega), mset_ne (by omega), mset_ne (by omega), mset_ne (by omega), k51]
    split
    · exact q_pg_at _ _ _ _ _ (by omega) (by omega)
    · rw [q_pg_out _ _ _ _ _ _ (by omega), hkeq 19 (by omega)]
  have c20 : q_ap K a (a + n) 20 = K 20 := by
    unfold q_ap
    rw [mset_ne (by omega), mset_ne (by omega), mset_ne (by omega), mset_ne (by omega), q_pg_eq _ _ _ _ 20 (by omega)]
  have c26 : q_ap K a (a + n) 26 = va_up (M 26) g ((a : Nat) : Int) := by
    unfold q_ap
    rw [mset_ne (by omega), mset_ne (by omega), mset_ne (by omega), mset_at, q_pg_eq _ _ _ _ 26 (by omega), hnp, hkeq 26 (by omega)]
  have c27 : q_ap K a (a + n) 27 = va_up (M 27) g (((a + n : Nat) : Int) - ((a : Nat) : Int)) := by
    unfold q_ap
    rw [mset_ne (by omega), mset_ne (by omega), mset_at, mset_ne (by omega), q_pg_eq _ _ _ _ 27 (by omega), hnp, hkeq 27 (by omega)]
  have c28 : q_ap K a (a + n) 28 = va_up (M 28) g (e_D N a (n - 1) + N 16 (a + n - 1)) := by
    have e1 : K 20 (a + n - 1) = e_D N a (n - 1) := by
      rw [show a + n - 1 = a + (n - 1) by omega]
      exact b3 (n - 1) (by omega)
    unfold q_ap
    rw [mset_ne (by omega), mset_at, mset_ne (by omega), mset_ne (by omega), q_pg_eq _ _ _ _ 28 (by omega), hnp, hkeq 28 (by omega), e1, hkeq 18 (by omega), hp.2.1 _ (by omega)]
  have c5 : q_ap K a (a + n) 5 1 = ((g : Nat) : Int) + 1 := by
    unfold q_ap
    rw [mset_same, k51]
  -- rows of the reference
  have hK : ∀ r, r ≠ 24 → mset N 24 g ((a : Nat) : Int) r = N r := fun r hr => mset_ne hr
  have rw18 : ∀ j, j < n → r_pgs N a n 17 (a + j) = ((g : Nat) : Int) ∧ r_pgs N a n 18 (a + j) = e_D N a j := fun j hj => by
    have h := r_pg_at (N := N) (K := mset N 24 g ((a : Nat) : Int)) (a := a) (pg := ((g : Nat) : Int)) (hK 16 (by omega)) (fun w => r_btw_eq (hK 11 (by omega)) (hK 2 (by omega)) w) n 0 0 (mset N 24 g ((a : Nat) : Int)) (by rw [if_neg (by omega)]; rfl) j (by omega) (by omega)
    unfold r_pgs
    rw [mset_ne (by omega), mset_ne (by omega), hrp, f2]
    exact h
  have ro : ∀ r j, r ≠ 0 → r ≠ 24 → j < a ∨ a + n ≤ j → r_pgs N a n r j = N r j := fun r j h0 h24 h => by
    unfold r_pgs
    rw [mset_ne h0, r_pg_out _ _ _ _ _ _ _ _ _ (by omega), hrp, mset_ne h24]
  have r24 : r_pgs N a n 24 = va_up (N 24) g ((a : Nat) : Int) := by
    unfold r_pgs
    rw [mset_ne (by omega), r_pg_eq _ _ _ _ _ _ _ 24 (by omega), hrp, mset_at]
  have r16 : r_pgs N a n 16 = N 16 := by
    unfold r_pgs
    rw [mset_ne (by omega), r_pg_eq _ _ _ _ _ _ _ 16 (by omega), mset_ne (by omega)]
  have r30 : r_pgs N a n 0 30 = ((g : Nat) : Int) + 1 := by
    unfold r_pgs
    rw [mset_same, f2]
  refine ⟨by omega, ⟨by rw [c5]; omega, by rw [r30]; omega, by omega, fun j hj => ?_, fun p hpg => ?_⟩, fun j => ?_, fun r h1 h2 j => ?_⟩
  · rw [c19, c20]
    by_cases h : j < a
    · rw [if_neg (by omega), ro 17 j (by omega) (by omega) (Or.inl h), ro 18 j (by omega) (by omega) (Or.inl h)]
      refine ⟨(f3 j h).1, ?_⟩
      have hlt : K 20 j = M 20 j := by
        have hk := q_st_lt M (nlM M - (a + 1)) (a + 1) (mset M 20 a 0) j (by omega)
        have e1 : (q_st0 M a).2 20 j = (mset M 20 a 0) 20 j := hk
        rw [hst] at e1
        exact e1.trans (mset_out (by omega))
      rw [hlt]
      exact (f3 j h).2
    · obtain ⟨i, rfl⟩ : ∃ i, j = a + i := ⟨j - a, by omega⟩
      rw [if_pos (by omega), (rw18 i (by omega)).1, (rw18 i (by omega)).2]
      exact ⟨rfl, b3 i (by omega)⟩
  · rw [c26, c27, c28]
    have hen : e_en (r_pgs N a n) (a + n) (g + 1) p = if p + 1 < g then N 24 (p + 1) else if p + 1 = g then ((a : Nat) : Int) else ((a + n : Nat) : Int) := by
      unfold e_en
      rw [r24]
      by_cases q1 : p + 1 < g
      · rw [if_pos (by omega), if_pos q1, va_up_ne _ _ (by omega)]
      · rw [if_neg q1]
        by_cases q2 : p + 1 = g
        · rw [if_pos (by omega), if_pos q2, q2, va_up_self]
        · rw [if_neg (by omega), if_neg q2]
    rw [hen, r24, r16]
    by_cases h : p = g
    · subst h
      rw [if_neg (by omega), if_neg (by omega), va_up_self, va_up_self, va_up_self, va_up_self, show (((a + n : Nat) : Int)).toNat - 1 = a + (n - 1) by omega, (rw18 (n - 1) (by omega)).2, show a + n - 1 = a + (n - 1) by omega]
      refine ⟨rfl, by omega, by omega, rfl, fun j q1 q2 => ?_⟩
      obtain ⟨i, rfl⟩ : ∃ i, j = a + i := ⟨j - a, by omega⟩
      rw [(rw18 i (by omega)).2, show a + i + 1 = a + (i + 1) by omega, (rw18 (i + 1) (by omega)).2]
      have z1 := h16 (a + i) (by omega)
      have z2 := hb (a + (i + 1)) (by omega) (by omega)
      show e_D N a i ≤ e_D N a i + N 16 (a + i) + r_btw N (a + (i + 1))
      omega
    · have hlt : p < g := by omega
      obtain ⟨k1, k2, k3, k4, k5⟩ := f4 p hlt
      rw [va_up_ne _ _ h, va_up_ne _ _ h, va_up_ne _ _ h, va_up_ne _ _ h]
      have hee : (if p + 1 < g then N 24 (p + 1) else if p + 1 = g then ((a : Nat) : Int) else ((a + n : Nat) : Int)) = e_en N a g p := by
        unfold e_en
        by_cases q1 : p + 1 < g
        · rw [if_pos q1, if_pos q1]
        · rw [if_neg q1, if_neg q1, if_pos (by omega)]
      rw [hee]
      refine ⟨k1, k2, by omega, ?_, fun j q1 q2 => ?_⟩
      · rw [ro 18 _ (by omega) (by omega) (Or.inl (by omega))]
        exact k4
      · rw [ro 18 j (by omega) (by omega) (Or.inl (by omega)), ro 18 (j + 1) (by omega) (by omega) (Or.inl (by omega))]
        exact k5 j q1 q2
  · rw [c20]
    have c24 : q_ap K a (a + n) 24 = M 24 := by
      rw [q_ap_eqG K a (a + n) 24 (by omega) (by omega) (by omega) (by omega), hkeq 24 (by omega)]
    have c25 : q_ap K a (a + n) 25 = M 25 := by
      rw [q_ap_eqG K a (a + n) 25 (by omega) (by omega) (by omega) (by omega), hkeq 25 (by omega)]
    rw [c24, c25]
    refine ⟨?_, (hC j).2⟩
    rcases b4 j with q | ⟨w, q1, q2⟩
    · rw [q]; exact (hC j).1
    · rw [q2]
      have := hD w q1
      omega
  · by_cases hj : a ≤ j ∧ j < a + n
    · obtain ⟨i, rfl⟩ : ∃ i, j = a + i := ⟨j - a, by omega⟩
      by_cases h17 : r = 17
      · subst h17; rw [(rw18 i (by omega)).1]; omega
      · by_cases h18 : r = 18
        · subst h18
          rw [(rw18 i (by omega)).2]
          have := hD i (by omega)
          omega
        · rw [(r_pgs_eqP N a n).1 r (by omega) h17 h18 (by omega)]
          exact hR r h1 h2 _
    · rw [ro r j (by omega) (by omega) (by omega)]
      exact hR r h1 h2 j
