/-! What Lines writes, as functions on the memory. My own. -/
theorem mset_ne {M : Nat → Nat → Int} {k x j : Nat} {v : Int} (h : j ≠ k) : mset M k x v j = M j := va_up_ne _ _ h
theorem mset_at (M : Nat → Nat → Int) (k x : Nat) (v : Int) : mset M k x v k = va_up (M k) x v := va_up_self _ _ _
theorem mset_same (M : Nat → Nat → Int) (k x : Nat) (v : Int) : mset M k x v k x = v := by rw [mset_at, va_up_self]
/-- the memories agree but for the rows lo .. hi -/
def eqb (lo hi : Nat) (M N : Nat → Nat → Int) : Prop := ∀ j, j < lo ∨ hi < j → M j = N j
theorem eqb_rf {lo hi : Nat} {M : Nat → Nat → Int} : eqb lo hi M M := fun _ _ => rfl
theorem eqb_set {lo hi : Nat} {M N : Nat → Nat → Int} {k x : Nat} {v : Int} (h : eqb lo hi M N) (h1 : lo ≤ k) (h2 : k ≤ hi) : eqb lo hi (mset M k x v) N := fun j hj => by
  rw [mset_ne (by omega)]
  exact h j hj
theorem eqb_tr {lo hi : Nat} {M N K : Nat → Nat → Int} (h : eqb lo hi M N) (g : eqb lo hi N K) : eqb lo hi M K := fun j hj => (h j hj).trans (g j hj)
theorem eqb_wfT {lo hi : Nat} {M N : Nat → Nat → Int} (h : eqb lo hi M N) (hl : 10 ≤ lo) (ht : wfT N) : wfT M := by
  unfold wfT at ht ⊢
  rw [h 7 (by omega), h 8 (by omega), h 9 (by omega), h 2 (by omega)]
  exact ht
theorem eqb_wfP {lo hi i n : Nat} {M N : Nat → Nat → Int} (h : eqb lo hi M N) (hl : hi < 29) (ht : wfP N i n) : wfP M i n := by
  unfold wfP at ht ⊢
  rw [h (29 + 4 * i) (by omega), h (31 + 4 * i) (by omega), h (32 + 4 * i) (by omega)]
  exact ht
theorem p_wbtb {kd wd : Nat → Int} {so b : Nat} (hw : ∀ j, 0 ≤ wd j ∧ wd j ≤ 4000) : ∀ (f i : Nat) (s : Int), s ≤ p_wbt kd wd so b f i s ∧ p_wbt kd wd so b f i s ≤ s + 4000 * ((f : Nat) : Int) := by
  intro f
  induction f with
  | zero => intro i s; unfold p_wbt; omega
  | succ f ih =>
    intro i s
    unfold p_wbt
    split
    · have h1 := ih (i + 1) (s + p_wid kd wd i (decide (i + 1 = b)))
      have h2 := p_widb (kd := kd) (wd := wd) (i := i) (la := decide (i + 1 = b)) (hw i)
      omega
    · omega
def q_wide (kd wd : Nat → Int) (t : p_T) (so b k : Nat) (x : Int) : Int := if kd k = 2 then p_tab t.1 t.2.1 t.2.2.1 x (p_wbt kd wd so b (so - (k + 1)) (k + 1) 0) t.2.2.2 else p_wid kd wd k (decide (k + 1 = b))
def q_ps (kd wd : Nat → Int) (t : p_T) (ln : Int) (so b : Nat) : Nat → Nat → Int → (Nat → Nat → Int) → (Nat → Nat → Int)
  | 0, _, _, M => M
  | f + 1, k, x, M => q_ps kd wd t ln so b f (k + 1) (x + q_wide kd wd t so b k x) (mset (mset (mset M 23 k ln) 24 k x) 25 k (q_wide kd wd t so b k x))
def q_gc (kd : Nat → Int) : Nat → Nat → Nat → Nat
  | 0, _, g => g
  | f + 1, k, g => q_gc kd f (k + 1) (g + if kd k = 1 then 1 else 0)
def q_wg (kd : Nat → Int) (so : Nat) (each : Int) : Nat → Nat → Int → Int → (Nat → Nat → Int) → (Nat → Nat → Int)
  | 0, _, _, _, M => M
  | f + 1, k, rem, mv, M =>
    if k < so ∧ kd k = 1 then q_wg kd so each f (k + 1) (rem - 1) (mv + (each + if 0 < rem then 1 else 0)) (mset (mset M 24 k (M 24 k + mv)) 25 k (M 25 k + (each + if 0 < rem then 1 else 0)))
    else q_wg kd so each f (k + 1) rem mv (mset M 24 k (M 24 k + mv))
def q_mv (mv : Int) : Nat → Nat → (Nat → Nat → Int) → (Nat → Nat → Int)
  | 0, _, M => M
  | f + 1, k, M => q_mv mv f (k + 1) (mset M 24 k (M 24 k + mv))
theorem q_gc_le (kd : Nat → Int) : ∀ f k g, g ≤ q_gc kd f k g ∧ q_gc kd f k g ≤ g + f := by
  intro f
  induction f with
  | zero => intro k g; unfold q_gc; omega
  | succ f ih =>
    intro k g
    unfold q_gc
    have := ih (k + 1) (g + if kd k = 1 then 1 else 0)
    split at this <;> (rename_i h; simp only [h, if_true, if_false] at *; omega)
theorem q_ps_eq (kd wd : Nat → Int) (t : p_T) (ln : Int) (so b : Nat) : ∀ f k x M, eqb 23 25 (q_ps kd wd t ln so b f k x M) M := by
  intro f
  induction f with
  | zero => intro k x M; exact eqb_rf
  | succ f ih =>
    intro k x M
    exact eqb_tr (ih _ _ _) (eqb_set (eqb_set (eqb_set eqb_rf (by omega) (by omega)) (by omega) (by omega)) (by omega) (by omega))
theorem q_wg_eq (kd : Nat → Int) (so : Nat) (each : Int) : ∀ f k rem mv M, eqb 23 25 (q_wg kd so each f k rem mv M) M := by
  intro f
  induction f with
  | zero => intro k rem mv M; exact eqb_rf
  | succ f ih =>
    intro k rem mv M
    unfold q_wg
    split
    · exact eqb_tr (ih _ _ _ _) (eqb_set (eqb_set eqb_rf (by omega) (by omega)) (by omega) (by omega))
    · exact eqb_tr (ih _ _ _ _) (eqb_set eqb_rf (by omega) (by omega))
theorem q_mv_eq (mv : Int) : ∀ f k M, eqb 23 25 (q_mv mv f k M) M := by
  intro f
  induction f with
  | zero => intro k M; exact eqb_rf
  | succ f ih =>
    intro k M
    exact eqb_tr (ih _ _) (eqb_set eqb_rf (by omega) (by omega))
