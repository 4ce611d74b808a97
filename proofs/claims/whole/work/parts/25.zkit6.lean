/-! A line laid, as a function on the memory. My own. -/
def q_rest (M : Nat → Nat → Int) (i nl : Nat) : Int := max 0 (M 2 0 - M (30 + 4 * i) 1 - M 17 nl)
def q_al (M : Nat → Nat → Int) (i a b bp nl : Nat) : Nat → Nat → Int :=
  if M (30 + 4 * i) 5 = 1 then mset (mset (q_mv (q_rest M i nl) (b - a) a M) 21 nl (q_rest M i nl)) 22 nl 0
  else if M (30 + 4 * i) 5 = 2 then mset (mset (q_mv ((q_rest M i nl).tdiv 2) (b - a) a M) 21 nl ((q_rest M i nl).tdiv 2)) 22 nl 0
  else if M (30 + 4 * i) 5 = 3 ∧ b < bp ∧ ¬ p_endl (M 7) (b - 1) then mset (mset (q_mv 0 (b - a) a (q_wgM M a b (q_rest M i nl))) 21 nl 0) 22 nl (q_wgV M a b (q_rest M i nl))
  else mset (mset (q_mv 0 (b - a) a M) 21 nl 0) 22 nl 0
def q_end (M1 : Nat → Nat → Int) (a so : Nat) (x : Int) : Int := if a < so then M1 24 (so - 1) + M1 25 (so - 1) else x
def q_ps0 (M : Nat → Nat → Int) (i n a b : Nat) (x : Int) : Nat → Nat → Int := q_ps (M 7) (M 8) (p_tabs M i n) (M 3 2) (p_solid (M 7) a b) b (b - a) a x M
def q_ad1 (M : Nat → Nat → Int) (i n a b nl : Nat) (x : Int) : Nat → Nat → Int :=
  mset (mset (mset (mset (mset (mset (q_ps0 M i n a b x) 13 nl ((i : Nat) : Int)) 14 nl ((a : Nat) : Int)) 15 nl (((b : Nat) : Int) - ((a : Nat) : Int))) 16 nl x) 17 nl (q_end (q_ps0 M i n a b x) a (p_solid (M 7) a b) x)) 18 nl (p_hgt (M 9) b (b - a) a (M (30 + 4 * i) 10))
def q_ad (M : Nat → Nat → Int) (i n a b bp nl : Nat) (x : Int) : Nat → Nat → Int := mset (q_al (q_ad1 M i n a b nl x) i a b bp nl) 3 2 (((nl : Nat) : Int) + 1)
theorem q_ps_lt (kd wd : Nat → Int) (t : p_T) (ln : Int) (so b : Nat) : ∀ f k x M r j, j < k → q_ps kd wd t ln so b f k x M r j = M r j := by
  intro f
  induction f with
  | zero => intro k x M r j h; rfl
  | succ f ih =>
    intro k x M r j h
    unfold q_ps
    rw [ih _ _ _ _ _ (by omega)]
    unfold mset va_up
    repeat' (first | rfl | (exfalso; omega) | split)
    all_goals simp_all
    all_goals omega
theorem q_wideb {kd wd : Nat → Int} {t : p_T} {so b k : Nat} {x : Int} (hx : 0 ≤ x) (hw : ∀ j, 0 ≤ wd j ∧ wd j ≤ 4000) (h1 : 1 ≤ t.2.2.2 ∧ t.2.2.2 ≤ 30000) (hz : ∀ j, 0 ≤ t.2.1 j ∧ t.2.1 j ≤ 30000) : 0 ≤ q_wide kd wd t so b k x ∧ q_wide kd wd t so b k x ≤ 60000 := by
  unfold q_wide
  split
  · exact p_tabb hx (p_wbtb hw _ _ 0).1 h1 hz
  · have := p_widb (kd := kd) (wd := wd) (i := k) (la := decide (k + 1 = b)) (hw k)
    omega
theorem q_ps_bd {kd wd : Nat → Int} {t : p_T} {ln : Int} {so b : Nat} (hw : ∀ j, 0 ≤ wd j ∧ wd j ≤ 4000) (h1 : 1 ≤ t.2.2.2 ∧ t.2.2.2 ≤ 30000) (hz : ∀ j, 0 ≤ t.2.1 j ∧ t.2.1 j ≤ 30000) : ∀ f k x M j, 0 ≤ x → k ≤ j → j < k + f → 0 ≤ q_ps kd wd t ln so b f k x M 24 j ∧ 0 ≤ q_ps kd wd t ln so b f k x M 25 j ∧ q_ps kd wd t ln so b f k x M 24 j + q_ps kd wd t ln so b f k x M 25 j ≤ x + 60000 * ((f : Nat) : Int) := by
  intro f
  induction f with
  | zero => intro k x M j _ h2 h3; omega
  | succ f ih =>
    intro k x M j hx h2 h3
    have hq := q_wideb (kd := kd) (wd := wd) (t := t) (so := so) (b := b) (k := k) hx hw h1 hz
    unfold q_ps
    by_cases hj : j = k
    · subst hj
      rw [q_ps_lt _ _ _ _ _ _ _ _ _ _ _ _ (by omega), q_ps_lt _ _ _ _ _ _ _ _ _ _ _ _ (by omega)]
      rw [mset_same, mset_ne (by omega), mset_same]
      omega
    · have := ih (k + 1) (x + q_wide kd wd t so b k x) (mset (mset (mset M 23 k ln) 24 k x) 25 k (q_wide kd wd t so b k x)) j (by omega) (by omega) (by omega)
      omega
theorem q_endb {M : Nat → Nat → Int} {i n a b : Nat} {x : Int} (hp : wfP M i n) (ht : wfT M) (hx : 0 ≤ x ∧ x ≤ 10000) (hab : a ≤ b) (hb : b ≤ 600) : 0 ≤ q_end (q_ps0 M i n a b x) a (p_solid (M 7) a b) x ∧ q_end (q_ps0 M i n a b x) a (p_solid (M 7) a b) x ≤ 37000000 := by
  have hs := p_solid_le (M 7) a b
  unfold q_end
  split
  · have := q_ps_bd (kd := M 7) (wd := M 8) (t := p_tabs M i n) (ln := M 3 2) (so := p_solid (M 7) a b) (b := b) ht.2.1 ht.2.2.2.2.2 hp.2.2.2.1 (b - a) a x M (p_solid (M 7) a b - 1) hx.1 (by omega) (by omega)
    unfold q_ps0
    omega
  · omega
theorem q_restb {M : Nat → Nat → Int} {i nl : Nat} (ht : wfT M) (h1 : 0 ≤ M (30 + 4 * i) 1) (h2 : 0 ≤ M 17 nl) : 0 ≤ q_rest M i nl ∧ q_rest M i nl ≤ 30000 := by
  have := ht.2.2.2.1
  unfold q_rest
  omega
theorem q_al_eq (M : Nat → Nat → Int) (i a b bp nl : Nat) : eqb 13 25 (q_al M i a b bp nl) M := by
  have w1 : ∀ N : Nat → Nat → Int, eqb 23 25 N M → eqb 13 25 N M := fun N h j hj => h j (by omega)
  unfold q_al
  split
  · exact eqb_set (eqb_set (w1 _ (q_mv_eq _ _ _ _)) (by omega) (by omega)) (by omega) (by omega)
  · split
    · exact eqb_set (eqb_set (w1 _ (q_mv_eq _ _ _ _)) (by omega) (by omega)) (by omega) (by omega)
    · split
      · exact eqb_set (eqb_set (w1 _ (eqb_tr (q_mv_eq _ _ _ _) (q_wgM_eq _ _ _ _))) (by omega) (by omega)) (by omega) (by omega)
      · exact eqb_set (eqb_set (w1 _ (q_mv_eq _ _ _ _)) (by omega) (by omega)) (by omega) (by omega)
theorem q_ad1_eq (M : Nat → Nat → Int) (i n a b nl : Nat) (x : Int) : eqb 13 25 (q_ad1 M i n a b nl x) M := by
  have w1 : eqb 13 25 (q_ps0 M i n a b x) M := fun j hj => q_ps_eq _ _ _ _ _ _ _ _ _ _ j (by omega)
  exact eqb_set (eqb_set (eqb_set (eqb_set (eqb_set (eqb_set w1 (by omega) (by omega)) (by omega) (by omega)) (by omega) (by omega)) (by omega) (by omega)) (by omega) (by omega)) (by omega) (by omega)
