/-! The reference's line, as functions. My own. -/
theorem mset_mset (M : Nat → Nat → Int) (k x : Nat) (v w : Int) : mset (mset M k x v) k x w = mset M k x w := by
  funext a b
  by_cases h : a = k
  · subst h
    rw [mset_at, mset_at, mset_at]
    by_cases hb : b = x
    · subst hb; rw [va_up_self, va_up_self]
    · rw [va_up_ne _ _ hb, va_up_ne _ _ hb, va_up_ne _ _ hb]
  · rw [mset_ne h, mset_ne h, mset_ne h]
def r_gc (kd : Nat → Int) (so : Nat) : Nat → Nat → Nat → Nat
  | 0, _, g => g
  | f + 1, k, g => r_gc kd so f (k + 1) (if kd k = 2 then 0 else g + if kd k = 1 ∧ k < so then 1 else 0)
theorem r_gc_le (kd : Nat → Int) (so : Nat) : ∀ f k g, r_gc kd so f k g ≤ g + f := by
  intro f
  induction f with
  | zero => intro k g; unfold r_gc; omega
  | succ f ih =>
    intro k g
    unfold r_gc
    have := ih (k + 1) (if kd k = 2 then 0 else g + if kd k = 1 ∧ k < so then 1 else 0)
    have h2 : (if kd k = 2 then 0 else g + if kd k = 1 ∧ k < so then 1 else 0) ≤ g + 1 := by
      split
      · omega
      · split <;> omega
    omega
def r_mh (ht : Nat → Int) : Nat → Nat → Int → Int
  | 0, _, h => h
  | f + 1, k, h => r_mh ht f (k + 1) (if h < ht k then ht k else h)
theorem r_mhb {ht : Nat → Int} (hh : ∀ j, 0 ≤ ht j ∧ ht j ≤ 2000) : ∀ f k h, 0 ≤ h ∧ h ≤ 2000 → 0 ≤ r_mh ht f k h ∧ r_mh ht f k h ≤ 2000 := by
  intro f
  induction f with
  | zero => intro k h q; exact q
  | succ f ih =>
    intro k h q
    have := hh k
    exact ih _ _ (by split <;> omega)
/-- the last loop: fuel, the sign, moved, gap, blanks left -/
def r_l3 (kd ac br : Nat → Int) (so gaps : Nat) (sp rest ln : Int) : Nat → Nat → Int → Int → Int → (Nat → Nat → Int) → (Nat → Nat → Int)
  | 0, _, _, _, _, M => M
  | f + 1, k, mv, gp, bl, M =>
    if ¬ sp = 0 ∧ kd k = 1 ∧ k < so then
      if bl - 1 < ((gaps : Nat) : Int) then r_l3 kd ac br so gaps sp rest ln f (k + 1) (mv + (rest.tdiv ((gaps : Nat) : Int) + if gp < rest - rest.tdiv ((gaps : Nat) : Int) * ((gaps : Nat) : Int) then 1 else 0)) (gp + 1) (bl - 1) (mset (mset (mset M 21 k ln) 22 k (ac k + mv)) 23 k (br k + (rest.tdiv ((gaps : Nat) : Int) + if gp < rest - rest.tdiv ((gaps : Nat) : Int) * ((gaps : Nat) : Int) then 1 else 0)))
      else r_l3 kd ac br so gaps sp rest ln f (k + 1) mv gp (bl - 1) (mset (mset (mset M 21 k ln) 22 k (ac k + mv)) 23 k (br k))
    else r_l3 kd ac br so gaps sp rest ln f (k + 1) mv gp bl (mset (mset (mset M 21 k ln) 22 k (ac k + mv)) 23 k (br k))
theorem r_l3_eq (kd ac br : Nat → Int) (so gaps : Nat) (sp rest ln : Int) : ∀ f k mv gp bl M, eqb 21 23 (r_l3 kd ac br so gaps sp rest ln f k mv gp bl M) M := by
  intro f
  induction f with
  | zero => intro k mv gp bl M; exact eqb_rf
  | succ f ih =>
    intro k mv gp bl M
    unfold r_l3
    split
    · split
      · exact eqb_tr (ih _ _ _ _ _) (eqb_set (eqb_set (eqb_set eqb_rf (by omega) (by omega)) (by omega) (by omega)) (by omega) (by omega))
      · exact eqb_tr (ih _ _ _ _ _) (eqb_set (eqb_set (eqb_set eqb_rf (by omega) (by omega)) (by omega) (by omega)) (by omega) (by omega))
    · exact eqb_tr (ih _ _ _ _ _) (eqb_set (eqb_set (eqb_set eqb_rf (by omega) (by omega)) (by omega) (by omega)) (by omega) (by omega))
def r_rest (M : Nat → Nat → Int) (q n a b : Nat) : Int := if (r_m M q n a b M).1 < r_room M q then r_room M q - (r_m M q n a b M).1 else 0
def r_mv (M : Nat → Nat → Int) (q n a b : Nat) : Int := if M 2 (11 * q + 5) = 1 then r_rest M q n a b else if M 2 (11 * q + 5) = 2 then (r_rest M q n a b).tdiv 2 else 0
def r_gaps (M : Nat → Nat → Int) (a b : Nat) : Nat := r_gc (M 6) (p_solid (M 6) a b) (b - a) a 0
/-- whether the gaps are wider: 1 or 0 -/
def r_sprd (M : Nat → Nat → Int) (q a b : Nat) (la : Bool) : Int := if M 2 (11 * q + 5) = 3 ∧ 0 < r_gaps M a b ∧ la = false ∧ ¬ p_endl (M 6) (b - 1) then 1 else 0
/-- behind movedOf: what is written up to there -/
def r_la1 (M : Nat → Nat → Int) (q n a b nl : Nat) : Nat → Nat → Int :=
  mset (mset (mset (mset (mset (mset (r_m M q n a b M).2 11 nl ((q : Nat) : Int)) 12 nl ((a : Nat) : Int)) 13 nl (((b : Nat) : Int) - ((a : Nat) : Int))) 14 nl (r_beg M q a)) 15 nl (r_m M q n a b M).1) 19 nl (r_mv M q n a b)
def r_la2 (M : Nat → Nat → Int) (q n a b nl : Nat) (la : Bool) : Nat → Nat → Int :=
  mset (mset (r_la1 M q n a b nl) 16 nl (r_mh (M 8) (b - a) a (M 2 (11 * q + 10)))) 20 nl (if r_sprd M q a b la = 0 then 0 else r_rest M q n a b)
def r_la (M : Nat → Nat → Int) (q n a b nl : Nat) (la : Bool) : Nat → Nat → Int :=
  mset (r_l3 (M 6) ((r_m M q n a b M).2 9) ((r_m M q n a b M).2 10) (p_solid (M 6) a b) (r_gaps M a b) (r_sprd M q a b la) (r_rest M q n a b) ((nl : Nat) : Int) (b - a) a (r_mv M q n a b) 0 ((q_gc (M 6) (p_solid (M 6) a b - a) a 0 : Nat) : Int) (r_la2 M q n a b nl la)) 0 16 (((nl : Nat) : Int) + 1)
theorem r_la1_eq (M : Nat → Nat → Int) (q n a b nl : Nat) : eqb 9 19 (r_la1 M q n a b nl) M := by
  have h0 : eqb 9 19 (r_m M q n a b M).2 M := fun j hj => r_ms_eq _ _ _ _ _ _ _ _ _ _ j (by omega)
  unfold r_la1
  exact eqb_set (eqb_set (eqb_set (eqb_set (eqb_set (eqb_set h0 (by omega) (by omega)) (by omega) (by omega)) (by omega) (by omega)) (by omega) (by omega)) (by omega) (by omega)) (by omega) (by omega)
