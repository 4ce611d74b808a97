/-! The reference's other calls, as functions: the code it raises (0: none), the memory, the answer. My own. -/
theorem z_nb {P : Prop} {d : Decidable P} : narrow .boolean (.int (iI (bz P d))) = .int (iI (bz P d)) := by
  unfold bz
  split <;> rfl
abbrev inn (v lo hi : Int) : Prop := lo ≤ v ∧ v ≤ hi
def r_shl (p : Nat) : Nat → Nat → (Nat → Nat → Int) → (Nat → Nat → Int)
  | 0, _, M => M
  | f + 1, k, M => r_shl p f (k + 1) (mset M 2 (11 * p + k) (if k = 10 then 1 else 0))
theorem r_shl_ne (p : Nat) {j : Nat} (hj : j ≠ 2) : ∀ f k M, r_shl p f k M j = M j := by
  intro f
  induction f with
  | zero => intro k M; rfl
  | succ f ih => intro k M; exact (ih _ _).trans (mset_ne hj)
def r_pab (M : Nat → Nat → Int) (p : Nat) : Nat → Nat → Int := if p = 0 then mset M 1 0 0 else M
theorem r_pab_ne (M : Nat → Nat → Int) (p : Nat) {j : Nat} (hj : j ≠ 1) : r_pab M p j = M j := by
  unfold r_pab
  split
  · exact mset_ne hj
  · rfl
def r_pa1 (M : Nat → Nat → Int) (p : Nat) : Nat → Nat → Int := mset (r_pab (mset M 0 0 0) p) 1 (p + 1) (r_pab (mset M 0 0 0) p 1 p)
def r_pa (M : Nat → Nat → Int) (p : Nat) : Nat → Nat → Int := mset (mset (mset (r_shl p 11 0 (r_pa1 M p)) 3 p 0) 0 4 (((p : Nat) : Int) + 1)) 0 15 0
def r_pac (np : Nat) : Int := if np = 30 then 1 else 0
def r_sgc (M : Nat → Nat → Int) (np : Nat) (k w h : Int) : Int := if np = 0 then 1 else if inn k 0 6 ∧ inn w 0 4000 ∧ inn h 0 2000 then (if M 1 np = 600 then 3 else 0) else 2
def r_sg (M : Nat → Nat → Int) (np n : Nat) (k w h : Int) : Nat → Nat → Int := mset (mset (mset (mset (mset (mset M 0 0 0) 6 n k) 7 n w) 8 n h) 1 np (((n : Nat) : Int) + 1)) 0 15 0
def r_least (w : Int) : Int := if w = 2 then -5000 else if w = 10 then 1 else 0
def r_most (w : Int) : Int := if w < 5 then 5000 else if w = 5 then 3 else if w < 10 then 1 else 2000
theorem r_leastb (w : Int) : -5000 ≤ r_least w ∧ r_least w ≤ 1 := by
  unfold r_least
  split
  · omega
  · split <;> omega
theorem r_mostb (w : Int) : 1 ≤ r_most w ∧ r_most w ≤ 5000 := by
  unfold r_most
  split
  · omega
  · split
    · omega
    · split <;> omega
def r_spc (np : Nat) (p w v : Int) : Int := if inn p 0 (((np : Nat) : Int) - 1) then (if inn w 0 10 ∧ inn v (r_least w) (r_most w) then 0 else 2) else 1
def r_spM (M : Nat → Nat → Int) (p w : Nat) (v : Int) : Nat → Nat → Int := mset (mset (mset M 0 0 0) 2 (11 * p + w) v) 0 15 0
def r_stc (M : Nat → Nat → Int) (np : Nat) (p x k : Int) : Int := if inn p 0 (((np : Nat) : Int) - 1) then (if inn x 1 30000 ∧ inn k 0 2 ∧ ¬ (0 < M 3 p.toNat ∧ x ≤ M 4 (8 * p.toNat + (M 3 p.toNat).toNat - 1)) then (if M 3 p.toNat = 8 then 3 else 0) else 2) else 1
def r_stM (M : Nat → Nat → Int) (p n : Nat) (x k : Int) : Nat → Nat → Int := mset (mset (mset (mset (mset M 0 0 0) 4 (8 * p + n) x) 5 (8 * p + n) k) 3 p (((n : Nat) : Int) + 1)) 0 15 0
def r_shc (w h s : Int) : Int := if inn w 1 30000 ∧ inn h 1 30000 ∧ inn s 1 30000 then 0 else 1
def r_shM (M : Nat → Nat → Int) (w h s : Int) : Nat → Nat → Int := mset (mset (mset (mset (mset M 0 0 0) 0 1 w) 0 2 h) 0 3 s) 0 15 0
def r_clr (M : Nat → Nat → Int) : Nat → Nat → Int := mset (mset (mset M 0 0 0) 0 4 0) 0 15 0
def r_cnt (M : Nat → Nat → Int) (np : Nat) (w : Int) : Int := if w = 0 then ((np : Nat) : Int) else if w = 1 then (if np = 0 then 0 else M 1 np) else if w = 2 then (if M 0 15 = 0 then 0 else M 0 16) else if w = 3 then (if M 0 15 = 0 then 0 else M 0 30) else -1
def r_lic (M : Nat → Nat → Int) (x w : Int) : Int := if M 0 15 = 1 ∧ inn x 0 (M 0 16 - 1) then (if inn w 0 9 then 0 else 2) else 1
def r_whc (M : Nat → Nat → Int) (np : Nat) (x w : Int) : Int := if M 0 15 = 1 ∧ ¬ np = 0 ∧ inn x 0 (M 1 np - 1) then (if inn w 0 2 then 0 else 2) else 1
abbrev r_isp (M : Nat → Nat → Int) (g : Int) : Prop := M 0 15 = 1 ∧ inn g 0 (M 0 30 - 1)
def r_pgc (M : Nat → Nat → Int) (g w : Int) : Int := if r_isp M g then (if inn w 0 2 then 0 else 2) else 1
def r_pgv (M : Nat → Nat → Int) (g : Nat) (w : Int) : Int := if w = 0 then M 24 g else if w = 1 then M 24 (g + 1) - M 24 g else M 18 ((M 24 (g + 1)).toNat - 1) + M 16 ((M 24 (g + 1)).toNat - 1)
def r_htc (M : Nat → Nat → Int) (g : Int) : Int := if r_isp M g then 0 else 1
/-- the line of a page at a height: fuel, the line -/
def r_hl (dn : Nat → Int) (y : Int) : Nat → Nat → Nat
  | 0, l => l
  | f + 1, l => if dn (l + 1) ≤ y then r_hl dn y f (l + 1) else l
def r_hk (kd pl br : Nat → Int) (x : Int) : Nat → Nat → Nat
  | 0, k => k
  | f + 1, k => if ¬ p_endl kd k ∧ pl k + (br k).tdiv 2 ≤ x then r_hk kd pl br x f (k + 1) else k
theorem r_hl_b (dn : Nat → Int) (y : Int) : ∀ f l, l ≤ r_hl dn y f l ∧ r_hl dn y f l ≤ l + f := by
  intro f
  induction f with
  | zero => intro l; unfold r_hl; omega
  | succ f ih =>
    intro l
    unfold r_hl
    split
    · have := ih (l + 1); omega
    · omega
theorem r_hk_b (kd pl br : Nat → Int) (x : Int) : ∀ f l, l ≤ r_hk kd pl br x f l ∧ r_hk kd pl br x f l ≤ l + f := by
  intro f
  induction f with
  | zero => intro l; unfold r_hk; omega
  | succ f ih =>
    intro l
    unfold r_hk
    split
    · have := ih (l + 1); omega
    · omega
def r_hln (M : Nat → Nat → Int) (g : Nat) (y : Int) : Nat := r_hl (M 18) y ((M 24 (g + 1)).toNat - 1 - (M 24 g).toNat) (M 24 g).toNat
def r_hit (M : Nat → Nat → Int) (g : Nat) (x y : Int) : Nat := r_hk (M 6) (M 22) (M 23) x (rk M (r_hln M g y)) (rf M (r_hln M g y))
/-- what the laying leaves: lines and pages in their bounds -/
def rG (M : Nat → Nat → Int) : Prop := (M 0 15 = 0 ∨ M 0 15 = 1) ∧ (0 ≤ M 0 16 ∧ M 0 16 ≤ 630) ∧ (0 ≤ M 0 30 ∧ M 0 30 ≤ 630) ∧ (∀ j, zb (M 14 j) ∧ zb (M 15 j) ∧ zb (M 17 j) ∧ zb (M 18 j) ∧ zb (M 19 j) ∧ zb (M 20 j) ∧ zb (M 21 j) ∧ (-1000000000 ≤ M 22 j ∧ M 22 j ≤ 1000000000) ∧ (0 ≤ M 23 j ∧ M 23 j ≤ 1000000000))
