/-! The reference's measuring and breaking, as functions. My own. -/
def r_m (M0 : Nat → Nat → Int) (q n a b : Nat) (M : Nat → Nat → Int) : Int × (Nat → Nat → Int) := r_ms (M0 6) (M0 7) (r_tabs M0 q n) (p_solid (M0 6) a b) b (b - a) a (r_beg M0 q a) (r_beg M0 q a) M
theorem r_ms_eq (kd wd : Nat → Int) (t : p_T) (so b : Nat) : ∀ f k x e M, eqb 9 10 (r_ms kd wd t so b f k x e M).2 M := by
  intro f
  induction f with
  | zero => intro k x e M; exact eqb_rf
  | succ f ih =>
    intro k x e M
    exact eqb_tr (ih _ _ _ _) (eqb_set (eqb_set eqb_rf (by omega) (by omega)) (by omega) (by omega))
theorem r_msb {kd wd : Nat → Int} {t : p_T} {so b : Nat} (hw : ∀ j, 0 ≤ wd j ∧ wd j ≤ 4000) (h1 : 1 ≤ t.2.2.2 ∧ t.2.2.2 ≤ 30000) (hz : ∀ j, 0 ≤ t.2.1 j ∧ t.2.1 j ≤ 30000) : ∀ f k x e M, 0 ≤ e → e ≤ x → 0 ≤ (r_ms kd wd t so b f k x e M).1 ∧ (r_ms kd wd t so b f k x e M).1 ≤ x + 60000 * ((f : Nat) : Int) := by
  intro f
  induction f with
  | zero => intro k x e M h1 h2; unfold r_ms; dsimp only; omega
  | succ f ih =>
    intro k x e M h1 h2
    have hq := q_wideb (kd := kd) (wd := wd) (t := t) (so := so) (b := b) (k := k) (show 0 ≤ x by omega) hw ‹1 ≤ t.2.2.2 ∧ t.2.2.2 ≤ 30000› hz
    unfold r_ms
    have := ih (k + 1) (x + q_wide kd wd t so b k x) (if k < so ∧ ¬ p_endl kd k then x + q_wide kd wd t so b k x else e) (mset (mset M 9 k x) 10 k (q_wide kd wd t so b k x)) (by split <;> omega) (by split <;> omega)
    omega
theorem eqb_rT {M N : Nat → Nat → Int} (h : eqb 9 10 M N) (ht : rT N) : rT M := by
  unfold rT at ht ⊢
  rw [h 6 (by omega), h 7 (by omega), h 8 (by omega), h 0 (by omega)]
  exact ht
theorem eqb_rP {M N : Nat → Nat → Int} {q n : Nat} (h : eqb 9 10 M N) (ht : rP N q n) : rP M q n := by
  unfold rP at ht ⊢
  rw [h 3 (by omega), h 4 (by omega), h 5 (by omega)]
  exact ht
def r_room (M : Nat → Nat → Int) (q : Nat) : Int := M 0 1 - M 2 (11 * q + 1)
/-- broken: fuel, the break looked at, the first one, the last that fits -/
def r_bk (M0 : Nat → Nat → Int) (q n a : Nat) : Nat → Nat → Int → Int → (Nat → Nat → Int) → Int × Int × (Nat → Nat → Int)
  | 0, _, fi, fo, M => (fi, fo, M)
  | f + 1, b, fi, fo, M =>
    if r_brk (M0 6) (M0 1 (q + 1)) b then
      if p_endl (M0 6) (b - 1) then (if fi < 0 then ((b : Nat) : Int) else fi, if (r_m M0 q n a b M).1 ≤ r_room M0 q then ((b : Nat) : Int) else fo, (r_m M0 q n a b M).2)
      else r_bk M0 q n a f (b + 1) (if fi < 0 then ((b : Nat) : Int) else fi) (if (r_m M0 q n a b M).1 ≤ r_room M0 q then ((b : Nat) : Int) else fo) (r_m M0 q n a b M).2
    else if p_endl (M0 6) (b - 1) then (fi, fo, M) else r_bk M0 q n a f (b + 1) fi fo M
/-- a paragraph's row of shape is sound in the reference -/
def rS (M : Nat → Nat → Int) (q : Nat) : Prop := (0 ≤ M 2 (11 * q) ∧ M 2 (11 * q) ≤ 5000) ∧ (0 ≤ M 2 (11 * q + 1) ∧ M 2 (11 * q + 1) ≤ 5000) ∧ (-5000 ≤ M 2 (11 * q + 2) ∧ M 2 (11 * q + 2) ≤ 5000)
theorem r_begb {M : Nat → Nat → Int} {q a : Nat} (h : rS M q) : 0 ≤ r_beg M q a ∧ r_beg M q a ≤ 10000 := by
  obtain ⟨h0, h1, h2⟩ := h
  unfold r_beg
  split <;> omega
theorem r_mb {M0 : Nat → Nat → Int} {q n a b : Nat} {M : Nat → Nat → Int} (hs : rS M0 q) (hp : rP M0 q n) (ht : rT M0) (hb : b ≤ 600) : 0 ≤ (r_m M0 q n a b M).1 ∧ (r_m M0 q n a b M).1 ≤ 37000000 := by
  have hb0 := r_begb (a := a) hs
  have := r_msb (kd := M0 6) (wd := M0 7) (t := r_tabs M0 q n) (so := p_solid (M0 6) a b) (b := b) ht.2.1 ht.2.2.2.2.2 (fun j => hp.2.2.2.1 _) (b - a) a (r_beg M0 q a) (r_beg M0 q a) M hb0.1 (by omega)
  unfold r_m
  omega
theorem r_bkb {M0 : Nat → Nat → Int} {q n a : Nat} : ∀ f b fi fo M, b + f ≤ 601 → -1 ≤ fi ∧ fi ≤ 601 → -1 ≤ fo ∧ fo ≤ 601 → (-1 ≤ (r_bk M0 q n a f b fi fo M).1 ∧ (r_bk M0 q n a f b fi fo M).1 ≤ 601) ∧ (-1 ≤ (r_bk M0 q n a f b fi fo M).2.1 ∧ (r_bk M0 q n a f b fi fo M).2.1 ≤ 601) := by
  intro f
  induction f with
  | zero => intro b fi fo M _ h1 h2; exact ⟨h1, h2⟩
  | succ f ih =>
    intro b fi fo M hb h1 h2
    have g1 : -1 ≤ (if fi < 0 then ((b : Nat) : Int) else fi) ∧ (if fi < 0 then ((b : Nat) : Int) else fi) ≤ 601 := by split <;> omega
    have g2 : -1 ≤ (if (r_m M0 q n a b M).1 ≤ r_room M0 q then ((b : Nat) : Int) else fo) ∧ (if (r_m M0 q n a b M).1 ≤ r_room M0 q then ((b : Nat) : Int) else fo) ≤ 601 := by split <;> omega
    unfold r_bk
    split
    · split
      · exact ⟨g1, g2⟩
      · exact ih _ _ _ _ (by omega) g1 g2
    · split
      · exact ⟨h1, h2⟩
      · exact ih _ _ _ _ (by omega) h1 h2
