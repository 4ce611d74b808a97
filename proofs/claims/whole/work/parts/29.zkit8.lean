/-! Pages filled, as functions on the memory. My own. -/
/-- the rows of lines are sound, everywhere -/
def wfl (M : Nat → Nat → Int) : Prop := ∀ j, (0 ≤ M 13 j ∧ M 13 j ≤ 29) ∧ (0 ≤ M 14 j ∧ 0 ≤ M 15 j ∧ M 14 j + M 15 j ≤ 600) ∧ (0 ≤ M 18 j ∧ M 18 j ≤ 2000)
def lq (M : Nat → Nat → Int) (w : Nat) : Nat := (M 13 w).toNat
def lf (M : Nat → Nat → Int) (w : Nat) : Nat := (M 14 w).toNat
def lk (M : Nat → Nat → Int) (w : Nat) : Nat := (M 15 w).toNat
theorem wfl_q {M : Nat → Nat → Int} (h : wfl M) (w : Nat) : M 13 w = ((lq M w : Nat) : Int) ∧ lq M w < 30 := by
  have := (h w).1
  unfold lq
  omega
theorem wfl_f {M : Nat → Nat → Int} (h : wfl M) (w : Nat) : M 14 w = ((lf M w : Nat) : Int) ∧ M 15 w = ((lk M w : Nat) : Int) ∧ lf M w + lk M w ≤ 600 := by
  have := (h w).2.1
  unfold lf lk
  omega
theorem wfl_z {M : Nat → Nat → Int} (h : wfl M) : ∀ j, zb (M 13 j) := fun j => by
  have := (h j).1
  exact ⟨by omega, by omega⟩
/-- space ahead of a line -/
def q_sp (M : Nat → Nat → Int) (w : Nat) : Int := if p_first (M 13) w then M (30 + 4 * lq M (w - 1)) 4 + M (30 + 4 * lq M w) 3 else 0
abbrev q_mu (M : Nat → Nat → Int) (w : Nat) : Prop := p_endp (M 7) (lf M (w - 1)) (lk M (w - 1)) ∨ (p_first (M 13) w ∧ M (30 + 4 * lq M w) 9 = 1)
abbrev q_ma (M : Nat → Nat → Int) (w : Nat) : Prop := p_may (M 13) (M (30 + 4 * lq M (w - 1))) (nlM M) w
def q_st (M0 : Nat → Nat → Int) : Nat → Nat → (Nat → Nat → Int) → Nat × (Nat → Nat → Int)
  | 0, b, M => (b, M)
  | f + 1, b, M =>
    if q_mu M0 b then (b, M)
    else if M0 2 1 < M 20 (b - 1) + M0 18 (b - 1) + q_sp M0 b + M0 18 b then (b, mset M 20 b (M 20 (b - 1) + M0 18 (b - 1) + q_sp M0 b))
    else q_st M0 f (b + 1) (mset M 20 b (M 20 (b - 1) + M0 18 (b - 1) + q_sp M0 b))
def q_st0 (M : Nat → Nat → Int) (a : Nat) : Nat × (Nat → Nat → Int) := q_st M (nlM M - (a + 1)) (a + 1) (mset M 20 a 0)
def q_dn (M : Nat → Nat → Int) (a can : Nat) : Nat → Nat
  | 0 => can
  | s + 1 => if a < s + 1 then (if q_ma M (s + 1) then s + 1 else q_dn M a can s) else can
def q_pbv (M : Nat → Nat → Int) (a : Nat) : Nat := if nlM M ≤ (q_st0 M a).1 ∨ q_mu M (q_st0 M a).1 then (q_st0 M a).1 else q_dn M a (q_st0 M a).1 (q_st0 M a).1
/-- but for the places down, the memory is the same -/
theorem q_st_eq (M0 : Nat → Nat → Int) : ∀ f b M, eqb 20 20 (q_st M0 f b M).2 M := by
  intro f
  induction f with
  | zero => intro b M; exact eqb_rf
  | succ f ih =>
    intro b M
    unfold q_st
    split
    · exact eqb_rf
    · split
      · exact eqb_set eqb_rf (by omega) (by omega)
      · exact eqb_tr (ih _ _) (eqb_set eqb_rf (by omega) (by omega))
theorem q_st_b (M0 : Nat → Nat → Int) : ∀ f b M, b ≤ (q_st M0 f b M).1 ∧ (q_st M0 f b M).1 ≤ b + f := by
  intro f
  induction f with
  | zero => intro b M; unfold q_st; omega
  | succ f ih =>
    intro b M
    unfold q_st
    split
    · dsimp only; omega
    · split
      · dsimp only; omega
      · have := ih (b + 1) (mset M 20 b (M 20 (b - 1) + M0 18 (b - 1) + q_sp M0 b)); omega
theorem q_dn_b (M : Nat → Nat → Int) (a can : Nat) : ∀ s, s ≤ can → q_dn M a can s ≤ can := by
  intro s
  induction s with
  | zero => intro h; exact Nat.le_refl _
  | succ s ih =>
    intro h
    unfold q_dn
    split
    · split
      · exact h
      · exact ih (by omega)
    · exact Nat.le_refl _
/-- the memories agree where must, may and spaces look -/
theorem q_same {M N : Nat → Nat → Int} (h : eqb 19 20 M N) : (∀ w, q_mu M w = q_mu N w) ∧ (∀ w, q_ma M w = q_ma N w) ∧ (∀ w, q_sp M w = q_sp N w) ∧ nlM M = nlM N := by
  have h13 := h 13 (by omega)
  have h14 := h 14 (by omega)
  have h15 := h 15 (by omega)
  have h7 := h 7 (by omega)
  have h3 := h 3 (by omega)
  have hq : ∀ w, lq M w = lq N w := fun w => by unfold lq; rw [h13]
  have h30 : ∀ q, M (30 + 4 * q) = N (30 + 4 * q) := fun q => h _ (by omega)
  have hn : nlM M = nlM N := by unfold nlM; rw [h3]
  refine ⟨fun w => ?_, fun w => ?_, fun w => ?_, hn⟩
  · unfold q_mu lf lk; rw [h13, h14, h15, h7, hq, h30]
  · unfold q_ma; rw [h13, hq, h30, hn]
  · unfold q_sp; rw [h13, hq, hq, h30, h30]
theorem wfl_eq {M N : Nat → Nat → Int} (h : eqb 19 20 M N) (hl : wfl N) : wfl M := fun j => by
  rw [h 13 (by omega), h 14 (by omega), h 15 (by omega), h 18 (by omega)]
  exact hl j
theorem wfX_eq {M N : Nat → Nat → Int} {i : Nat} (h : eqb 19 20 M N) (hw : wfX N i) : wfX M i := eqL_wfX (fun j _ _ hj => h j (by omega)) hw
def q_pg (num : Int) : Nat → Nat → (Nat → Nat → Int) → (Nat → Nat → Int)
  | 0, _, M => M
  | f + 1, k, M => q_pg num f (k + 1) (mset M 19 k num)
theorem q_pg_eq (num : Int) : ∀ f k M, eqb 19 19 (q_pg num f k M) M := by
  intro f
  induction f with
  | zero => intro k M; exact eqb_rf
  | succ f ih => intro k M; exact eqb_tr (ih _ _) (eqb_set eqb_rf (by omega) (by omega))
def npM (M : Nat → Nat → Int) : Nat := (M 5 1).toNat
def q_ap (M : Nat → Nat → Int) (a b : Nat) : Nat → Nat → Int :=
  mset (mset (mset (mset (q_pg (M 5 1) (b - a) a M) 26 (npM M) ((a : Nat) : Int)) 27 (npM M) (((b : Nat) : Int) - ((a : Nat) : Int))) 28 (npM M) (M 20 (b - 1) + M 18 (b - 1))) 5 1 (M 5 1 + 1)
def q_fill : Nat → Nat → (Nat → Nat → Int) → (Nat → Nat → Int)
  | 0, _, M => M
  | f + 1, a, M => if a < nlM M then q_fill f (max (a + 1) (q_pbv M a)) (q_ap (q_st0 M a).2 a (max (a + 1) (q_pbv M a))) else M
/-- what Pages never writes -/
def eqG (M N : Nat → Nat → Int) : Prop := ∀ j, j ≠ 5 → j ≠ 19 → j ≠ 20 → (j < 26 ∨ 28 < j) → M j = N j
theorem eqG_rf {M : Nat → Nat → Int} : eqG M M := fun _ _ _ _ _ => rfl
theorem eqG_tr {M N K : Nat → Nat → Int} (h : eqG M N) (g : eqG N K) : eqG M K := fun j a b c d => (h j a b c d).trans (g j a b c d)
theorem eqG_wfl {M N : Nat → Nat → Int} (h : eqG M N) (hl : wfl N) : wfl M := fun j => by
  rw [h 13 (by omega) (by omega) (by omega) (by omega), h 14 (by omega) (by omega) (by omega) (by omega), h 15 (by omega) (by omega) (by omega) (by omega), h 18 (by omega) (by omega) (by omega) (by omega)]
  exact hl j
theorem eqG_wfT {M N : Nat → Nat → Int} (h : eqG M N) (ht : wfT N) : wfT M := by
  unfold wfT at ht ⊢
  rw [h 7 (by omega) (by omega) (by omega) (by omega), h 8 (by omega) (by omega) (by omega) (by omega), h 9 (by omega) (by omega) (by omega) (by omega), h 2 (by omega) (by omega) (by omega) (by omega)]
  exact ht
theorem eqG_wfX {M N : Nat → Nat → Int} {i : Nat} (h : eqG M N) (hw : wfX N i) : wfX M i := by
  have e29 : M (29 + 4 * i) = N (29 + 4 * i) := h _ (by omega) (by omega) (by omega) (by omega)
  have e30 : M (30 + 4 * i) = N (30 + 4 * i) := h _ (by omega) (by omega) (by omega) (by omega)
  have e31 : M (31 + 4 * i) = N (31 + 4 * i) := h _ (by omega) (by omega) (by omega) (by omega)
  have e32 : M (32 + 4 * i) = N (32 + 4 * i) := h _ (by omega) (by omega) (by omega) (by omega)
  unfold wfX wfP pn at hw ⊢
  rw [e29, e30, e31, e32]
  exact hw
theorem q_ap_eqG (M : Nat → Nat → Int) (a b : Nat) : eqG (q_ap M a b) M := fun j h5 h19 h20 hj => by
  unfold q_ap
  rw [mset_ne h5, mset_ne (by omega), mset_ne (by omega), mset_ne (by omega), q_pg_eq _ _ _ _ j (by omega)]
theorem q_st0_eqG (M : Nat → Nat → Int) (a : Nat) : eqG (q_st0 M a).2 M := fun j _ _ h20 _ => (q_st_eq _ _ _ _ j (by omega)).trans (mset_ne h20)
theorem q_pbv_le (M : Nat → Nat → Int) (a : Nat) (ha : a < nlM M) : q_pbv M a ≤ nlM M := by
  have h := q_st_b M (nlM M - (a + 1)) (a + 1) (mset M 20 a 0)
  have h2 : (q_st0 M a).1 ≤ nlM M := by unfold q_st0; omega
  unfold q_pbv
  split
  · exact h2
  · exact Nat.le_trans (q_dn_b M a _ _ (Nat.le_refl _)) h2
theorem q_dn_cong {M N : Nat → Nat → Int} {a can : Nat} (h : ∀ w, q_ma M w = q_ma N w) : ∀ s, q_dn M a can s = q_dn N a can s := by
  intro s
  induction s with
  | zero => rfl
  | succ s ih =>
    unfold q_dn
    rw [ih]
    by_cases h1 : a < s + 1
    · rw [if_pos h1, if_pos h1]
      by_cases h2 : q_ma M (s + 1)
      · rw [if_pos h2, if_pos (h (s + 1) ▸ h2)]
      · rw [if_neg h2, if_neg (fun q => h2 ((h (s + 1)).symm ▸ q))]
    · rw [if_neg h1, if_neg h1]
theorem wfX_sh {M : Nat → Nat → Int} {i : Nat} (h : wfX M i) : zb (M (30 + 4 * i) 6) ∧ zb (M (30 + 4 * i) 7) ∧ zb (M (30 + 4 * i) 8) ∧ zb (M (30 + 4 * i) 9) := by
  obtain ⟨-, -, -, -, -, -, -, -, h6, h7, h8, h9, -⟩ := h
  exact ⟨⟨by omega, by omega⟩, ⟨by omega, by omega⟩, ⟨by omega, by omega⟩, ⟨by omega, by omega⟩⟩
theorem q_spb {M : Nat → Nat → Int} (hX : ∀ i, i < 30 → wfX M i) (hL : wfl M) (w : Nat) : 0 ≤ q_sp M w ∧ q_sp M w ≤ 10000 := by
  have h1 := (hX _ (wfl_q hL (w - 1)).2).2.2.2.2.2.2.1
  have h2 := (hX _ (wfl_q hL w).2).2.2.2.2.2.1
  unfold q_sp
  split <;> omega
