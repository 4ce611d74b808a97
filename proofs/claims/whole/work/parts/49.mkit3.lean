/-! The reference's pages, as functions. My own. -/
/-- the rows of lines are sound in the reference, everywhere -/
def rL (M : Nat → Nat → Int) : Prop := ∀ j, (0 ≤ M 11 j ∧ M 11 j ≤ 29) ∧ (0 ≤ M 12 j ∧ 0 ≤ M 13 j ∧ M 12 j + M 13 j ≤ 600) ∧ (0 ≤ M 16 j ∧ M 16 j ≤ 2000)
/-- all that stands in shapes is small -/
def rZ (M : Nat → Nat → Int) : Prop := ∀ j, -5000 ≤ M 2 j ∧ M 2 j ≤ 5000
def rq (M : Nat → Nat → Int) (w : Nat) : Nat := (M 11 w).toNat
def rf (M : Nat → Nat → Int) (w : Nat) : Nat := (M 12 w).toNat
def rk (M : Nat → Nat → Int) (w : Nat) : Nat := (M 13 w).toNat
theorem rL_q {M : Nat → Nat → Int} (h : rL M) (w : Nat) : M 11 w = ((rq M w : Nat) : Int) ∧ rq M w < 30 := by
  have := (h w).1
  unfold rq
  omega
theorem rL_f {M : Nat → Nat → Int} (h : rL M) (w : Nat) : M 12 w = ((rf M w : Nat) : Int) ∧ M 13 w = ((rk M w : Nat) : Int) ∧ rf M w + rk M w ≤ 600 := by
  have := (h w).2.1
  unfold rf rk
  omega
theorem rL_z {M : Nat → Nat → Int} (h : rL M) : ∀ j, zb (M 11 j) := fun j => by
  have := (h j).1
  exact ⟨by omega, by omega⟩
theorem rZ_z {M : Nat → Nat → Int} (h : rZ M) : ∀ j, zb (M 2 j) := fun j => by
  have := h j
  exact ⟨by omega, by omega⟩
def r_btw (M : Nat → Nat → Int) (w : Nat) : Int := if p_first (M 11) w then M 2 (11 * rq M (w - 1) + 4) + M 2 (11 * rq M w + 3) else 0
def r_sh (M : Nat → Nat → Int) (q : Nat) : Nat → Int := fun j => M 2 (11 * q + j)
abbrev r_mu (M : Nat → Nat → Int) (nl w : Nat) : Prop := p_endp (M 6) (rf M w) (rk M w) ∨ (w + 1 < nl ∧ p_first (M 11) (w + 1) ∧ M 2 (11 * rq M (w + 1) + 9) = 1)
abbrev r_ma (M : Nat → Nat → Int) (nl w : Nat) : Prop := p_may (M 11) (r_sh M (rq M w)) nl (w + 1)
/-- how many lines a page can have: fuel, so many, their height -/
def r_can (M : Nat → Nat → Int) (a nl : Nat) : Nat → Nat → Int → Nat
  | 0, cn, _ => cn
  | f + 1, cn, d => if M 0 2 < d + r_btw M (a + cn) + M 16 (a + cn) then cn else r_can M a nl f (cn + 1) (d + r_btw M (a + cn) + M 16 (a + cn))
/-- the first number of lines behind which a page must end: fuel, the number -/
def r_fm (M : Nat → Nat → Int) (a nl : Nat) : Nat → Nat → Nat
  | 0, n => n
  | f + 1, n => if r_mu M nl (a + n - 1) then n else r_fm M a nl f (n + 1)
def r_dn (M : Nat → Nat → Int) (a nl can : Nat) : Nat → Nat
  | 0 => can
  | s + 1 => if r_ma M nl (a + s) then s + 1 else r_dn M a nl can s
def r_can0 (M : Nat → Nat → Int) (a nl : Nat) : Nat := r_can M a nl (nl - (a + 1)) 1 (M 16 a)
def r_fil (M : Nat → Nat → Int) (a nl : Nat) : Nat :=
  if r_fm M a nl (r_can0 M a nl) 1 ≤ r_can0 M a nl then r_fm M a nl (r_can0 M a nl) 1
  else if a + r_can0 M a nl = nl then r_can0 M a nl else r_dn M a nl (r_can0 M a nl) (r_can0 M a nl)
theorem r_can_b (M : Nat → Nat → Int) (a nl : Nat) : ∀ f cn d, cn ≤ r_can M a nl f cn d ∧ r_can M a nl f cn d ≤ cn + f := by
  intro f
  induction f with
  | zero => intro cn d; unfold r_can; omega
  | succ f ih =>
    intro cn d
    unfold r_can
    split
    · omega
    · have := ih (cn + 1) (d + r_btw M (a + cn) + M 16 (a + cn)); omega
theorem r_fm_b (M : Nat → Nat → Int) (a nl : Nat) : ∀ f n, n ≤ r_fm M a nl f n ∧ r_fm M a nl f n ≤ n + f := by
  intro f
  induction f with
  | zero => intro n; unfold r_fm; omega
  | succ f ih =>
    intro n
    unfold r_fm
    split
    · omega
    · have := ih (n + 1); omega
theorem r_dn_b (M : Nat → Nat → Int) (a nl can : Nat) (h1 : 1 ≤ can) : ∀ s, s ≤ can → 1 ≤ r_dn M a nl can s ∧ r_dn M a nl can s ≤ can := by
  intro s
  induction s with
  | zero => intro h; unfold r_dn; omega
  | succ s ih =>
    intro h
    unfold r_dn
    split
    · omega
    · exact ih (by omega)
theorem r_can0_b (M : Nat → Nat → Int) {a nl : Nat} (h : a < nl) : 1 ≤ r_can0 M a nl ∧ a + r_can0 M a nl ≤ nl := by
  have := r_can_b M a nl (nl - (a + 1)) 1 (M 16 a)
  unfold r_can0
  omega
theorem r_fil_b (M : Nat → Nat → Int) {a nl : Nat} (h : a < nl) : 1 ≤ r_fil M a nl ∧ a + r_fil M a nl ≤ nl := by
  have h1 := r_can0_b M h
  have h2 := r_fm_b M a nl (r_can0 M a nl) 1
  have h3 := r_dn_b M a nl (r_can0 M a nl) h1.1 (r_can0 M a nl) (Nat.le_refl _)
  unfold r_fil
  split
  · omega
  · split <;> omega
theorem r_btwb {M : Nat → Nat → Int} (h : rZ M) (w : Nat) : -10000 ≤ r_btw M w ∧ r_btw M w ≤ 10000 := by
  have h1 := h (11 * rq M (w - 1) + 4)
  have h2 := h (11 * rq M w + 3)
  unfold r_btw
  split <;> omega
/-- a page's lines: fuel, the line, how far down -/
def r_pg (M0 : Nat → Nat → Int) (a : Nat) (pg : Int) : Nat → Nat → Int → (Nat → Nat → Int) → (Nat → Nat → Int)
  | 0, _, _, M => M
  | f + 1, k, d, M => r_pg M0 a pg f (k + 1) (d + (if a < k then r_btw M0 k else 0) + M0 16 k) (mset (mset M 17 k pg) 18 k (d + if a < k then r_btw M0 k else 0))
theorem r_pg_eq (M0 : Nat → Nat → Int) (a : Nat) (pg : Int) : ∀ f k d M, eqb 17 18 (r_pg M0 a pg f k d M) M := by
  intro f
  induction f with
  | zero => intro k d M; exact eqb_rf
  | succ f ih => intro k d M; exact eqb_tr (ih _ _ _) (eqb_set (eqb_set eqb_rf (by omega) (by omega)) (by omega) (by omega))
def rpM (M : Nat → Nat → Int) : Nat := (M 0 30).toNat
def rnM (M : Nat → Nat → Int) : Nat := (M 0 16).toNat
def r_pgs (M : Nat → Nat → Int) (a n : Nat) : Nat → Nat → Int := mset (r_pg (mset M 24 (rpM M) ((a : Nat) : Int)) a (M 0 30) n a 0 (mset M 24 (rpM M) ((a : Nat) : Int))) 0 30 (M 0 30 + 1)
def r_fill (nl : Nat) : Nat → Nat → (Nat → Nat → Int) → (Nat → Nat → Int)
  | 0, _, M => M
  | f + 1, a, M => if a < nl then r_fill nl f (a + r_fil M a nl) (r_pgs M a (r_fil M a nl)) else M
/-- what the filling of pages never writes -/
def eqP (M N : Nat → Nat → Int) : Prop := (∀ j, j ≠ 0 → j ≠ 17 → j ≠ 18 → j ≠ 24 → M j = N j) ∧ (∀ k, k ≠ 30 → M 0 k = N 0 k)
theorem eqP_rf {M : Nat → Nat → Int} : eqP M M := ⟨fun _ _ _ _ _ => rfl, fun _ _ => rfl⟩
theorem eqP_tr {M N K : Nat → Nat → Int} (h : eqP M N) (g : eqP N K) : eqP M K := ⟨fun j a b c d => (h.1 j a b c d).trans (g.1 j a b c d), fun k a => (h.2 k a).trans (g.2 k a)⟩
theorem r_pgs_eqP (M : Nat → Nat → Int) (a n : Nat) : eqP (r_pgs M a n) M := by
  constructor
  · intro j h0 h17 h18 h24
    unfold r_pgs
    rw [mset_ne h0, r_pg_eq _ _ _ _ _ _ _ j (by omega), mset_ne h24]
  · intro k hk
    unfold r_pgs
    rw [mset_at, va_up_ne _ _ hk, r_pg_eq _ _ _ _ _ _ _ 0 (by omega), mset_ne (by omega)]
theorem eqP_rL {M N : Nat → Nat → Int} (h : eqP M N) (hl : rL N) : rL M := fun j => by
  rw [h.1 11 (by omega) (by omega) (by omega) (by omega), h.1 12 (by omega) (by omega) (by omega) (by omega), h.1 13 (by omega) (by omega) (by omega) (by omega), h.1 16 (by omega) (by omega) (by omega) (by omega)]
  exact hl j
theorem eqP_rZ {M N : Nat → Nat → Int} (h : eqP M N) (hl : rZ N) : rZ M := fun j => by
  rw [h.1 2 (by omega) (by omega) (by omega) (by omega)]
  exact hl j
