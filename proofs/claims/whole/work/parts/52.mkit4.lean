/-! The reference's lay, as functions. My own. -/
def rn (M : Nat → Nat → Int) (q : Nat) : Nat := (M 3 q).toNat
def re (M : Nat → Nat → Int) (q : Nat) : Nat := (M 1 q).toNat
def r_bkM (M : Nat → Nat → Int) (q n eb a : Nat) : Int × Int × (Nat → Nat → Int) := r_bk M q n a (eb - a) (a + 1) (-1) (-1) M
def r_to (M : Nat → Nat → Int) (q n eb a : Nat) : Nat := if a < eb then (if (r_bkM M q n eb a).2.1 < 0 then (r_bkM M q n eb a).1 else (r_bkM M q n eb a).2.1).toNat else a
def r_toM (M : Nat → Nat → Int) (q n eb a : Nat) : Nat → Nat → Int := if a < eb then (r_bkM M q n eb a).2.2 else M
def r_ln (M : Nat → Nat → Int) (q n eb a : Nat) : Nat → Nat → Int := r_la (r_toM M q n eb a) q n a (r_to M q n eb a) (rnM M) (decide (r_to M q n eb a = eb))
def r_lines (q n eb : Nat) : Nat → Nat → (Nat → Nat → Int) → (Nat → Nat → Int)
  | 0, _, M => M
  | f + 1, a, M => if r_to M q n eb a < eb then r_lines q n eb f (r_to M q n eb a) (r_ln M q n eb a) else r_ln M q n eb a
def r_par (M : Nat → Nat → Int) (q : Nat) : Nat → Nat → Int := r_lines q (rn M q) (re M (q + 1)) (re M (q + 1) - re M q + 1) (re M q) M
def r_pars : Nat → Nat → (Nat → Nat → Int) → (Nat → Nat → Int)
  | 0, _, M => M
  | f + 1, q, M => r_pars f (q + 1) (r_par M q)
def r_lay0 (M : Nat → Nat → Int) : Nat → Nat → Int := mset (mset (mset (mset M 0 0 0) 0 15 1) 0 16 0) 0 30 0
def r_layL (M : Nat → Nat → Int) (np : Nat) : Nat → Nat → Int := r_pars np 0 (r_lay0 M)
def r_layP (M : Nat → Nat → Int) (np : Nat) : Nat → Nat → Int := r_fill (rnM (r_layL M np)) (rnM (r_layL M np)) 0 (r_layL M np)
def r_lay (M : Nat → Nat → Int) (np : Nat) : Nat → Nat → Int := mset (r_layP M np) 24 (rpM (r_layP M np)) (r_layP M np 0 16)
/-- what the laying of lines never writes -/
def eqR (M N : Nat → Nat → Int) : Prop := (∀ j, 1 ≤ j → j ≤ 8 → M j = N j) ∧ (∀ k, k ≠ 16 → M 0 k = N 0 k)
theorem eqR_rf {M : Nat → Nat → Int} : eqR M M := ⟨fun _ _ _ => rfl, fun _ _ => rfl⟩
theorem eqR_tr {M N K : Nat → Nat → Int} (h : eqR M N) (g : eqR N K) : eqR M K := ⟨fun j a b => (h.1 j a b).trans (g.1 j a b), fun k a => (h.2 k a).trans (g.2 k a)⟩
theorem eqR_rT {M N : Nat → Nat → Int} (h : eqR M N) (ht : rT N) : rT M := by
  unfold rT at ht ⊢
  rw [h.1 6 (by omega) (by omega), h.1 7 (by omega) (by omega), h.1 8 (by omega) (by omega), h.2 1 (by omega), h.2 2 (by omega), h.2 3 (by omega)]
  exact ht
theorem eqR_rP {M N : Nat → Nat → Int} {q n : Nat} (h : eqR M N) (ht : rP N q n) : rP M q n := by
  unfold rP at ht ⊢
  rw [h.1 3 (by omega) (by omega), h.1 4 (by omega) (by omega), h.1 5 (by omega) (by omega)]
  exact ht
theorem eqR_rS {M N : Nat → Nat → Int} {q : Nat} (h : eqR M N) (ht : rS N q) : rS M q := by
  unfold rS at ht ⊢
  rw [h.1 2 (by omega) (by omega)]
  exact ht
theorem r_bk_eq (M0 : Nat → Nat → Int) (q n a : Nat) : ∀ f b fi fo M, eqb 9 10 (r_bk M0 q n a f b fi fo M).2.2 M := by
  intro f
  induction f with
  | zero => intro b fi fo M; exact eqb_rf
  | succ f ih =>
    intro b fi fo M
    have h1 : eqb 9 10 (r_m M0 q n a b M).2 M := r_ms_eq _ _ _ _ _ _ _ _ _ _
    unfold r_bk
    split
    · split
      · exact h1
      · exact eqb_tr (ih _ _ _ _) h1
    · split
      · exact eqb_rf
      · exact ih _ _ _ _
/-- a line is found, and it goes further -/
theorem r_bk_to {M0 : Nat → Nat → Int} {q n a eb : Nat} (heb : M0 1 (q + 1) = ((eb : Nat) : Int)) : ∀ f b fi fo M, b + f = eb + 1 → a + 1 ≤ b → (0 ≤ fi ∨ 0 < f) → (0 ≤ fi → ((a : Nat) : Int) + 1 ≤ fi ∧ fi ≤ ((eb : Nat) : Int)) → (0 ≤ fo → ((a : Nat) : Int) + 1 ≤ fo ∧ fo ≤ ((eb : Nat) : Int)) →
    0 ≤ (r_bk M0 q n a f b fi fo M).1 ∧ (((a : Nat) : Int) + 1 ≤ (r_bk M0 q n a f b fi fo M).1 ∧ (r_bk M0 q n a f b fi fo M).1 ≤ ((eb : Nat) : Int)) ∧ (0 ≤ (r_bk M0 q n a f b fi fo M).2.1 → ((a : Nat) : Int) + 1 ≤ (r_bk M0 q n a f b fi fo M).2.1 ∧ (r_bk M0 q n a f b fi fo M).2.1 ≤ ((eb : Nat) : Int)) := by
  intro f
  induction f with
  | zero => intro b fi fo M hb hab h0 h1 h2; unfold r_bk; dsimp only; omega
  | succ f ih =>
    intro b fi fo M hb hab h0 h1 h2
    have g1 : 0 ≤ (if fi < 0 then ((b : Nat) : Int) else fi) ∧ ((a : Nat) : Int) + 1 ≤ (if fi < 0 then ((b : Nat) : Int) else fi) ∧ (if fi < 0 then ((b : Nat) : Int) else fi) ≤ ((eb : Nat) : Int) := by split <;> omega
    have g2 : 0 ≤ (if (r_m M0 q n a b M).1 ≤ r_room M0 q then ((b : Nat) : Int) else fo) → ((a : Nat) : Int) + 1 ≤ (if (r_m M0 q n a b M).1 ≤ r_room M0 q then ((b : Nat) : Int) else fo) ∧ (if (r_m M0 q n a b M).1 ≤ r_room M0 q then ((b : Nat) : Int) else fo) ≤ ((eb : Nat) : Int) := by split <;> omega
    unfold r_bk
    split
    · split
      · exact ⟨g1.1, g1.2, g2⟩
      · exact ih _ _ _ _ (by omega) (by omega) (Or.inl g1.1) (fun _ => g1.2) g2
    · rename_i hbr
      split
      · rename_i hen
        exact absurd (Or.inr (Or.inr (Or.inr (Or.inr (Or.inl hen))))) hbr
      · by_cases hf : 0 < f
        · exact ih _ _ _ _ (by omega) (by omega) (Or.inr hf) h1 h2
        · exact absurd (Or.inl (by rw [heb]; congr 1; omega)) hbr
theorem r_to_b {M : Nat → Nat → Int} {q n a eb : Nat} (heb : M 1 (q + 1) = ((eb : Nat) : Int)) (ha : a ≤ eb) : a ≤ r_to M q n eb a ∧ r_to M q n eb a ≤ eb ∧ (a < eb → a < r_to M q n eb a) ∧ (a < eb → (if (r_bkM M q n eb a).2.1 < 0 then (r_bkM M q n eb a).1 else (r_bkM M q n eb a).2.1) = ((r_to M q n eb a : Nat) : Int)) := by
  by_cases h : a < eb
  · have h1 := r_bk_to (M0 := M) (q := q) (n := n) (a := a) heb (eb - a) (a + 1) (-1) (-1) M (by omega) (by omega) (by omega) (by omega) (by omega)
    unfold r_to
    rw [if_pos h]
    unfold r_bkM
    split <;> omega
  · unfold r_to
    rw [if_neg h]
    omega
theorem r_toM_eq (M : Nat → Nat → Int) (q n eb a : Nat) : eqb 9 10 (r_toM M q n eb a) M := by
  unfold r_toM
  split
  · exact r_bk_eq _ _ _ _ _ _ _ _ _
  · exact eqb_rf
theorem eqb_eqR {M N : Nat → Nat → Int} (h : eqb 9 10 M N) : eqR M N := ⟨fun j a b => h j (by omega), fun k _ => by rw [h 0 (by omega)]⟩
theorem r_la_lo (M : Nat → Nat → Int) (q n a b nl : Nat) (la : Bool) {j : Nat} (h0 : j ≠ 0) (hj : j < 21 ∨ 23 < j) : r_la M q n a b nl la j = r_la2 M q n a b nl la j := by
  unfold r_la
  rw [mset_ne h0]
  exact r_l3_eq _ _ _ _ _ _ _ _ _ _ _ _ _ _ j (by omega)
theorem r_m_ne (M : Nat → Nat → Int) (q n a b : Nat) {j : Nat} (hj : j < 9 ∨ 10 < j) : (r_m M q n a b M).2 j = M j := r_ms_eq _ _ _ _ _ _ _ _ _ _ j hj
theorem r_la_eqR (M : Nat → Nat → Int) (q n a b nl : Nat) (la : Bool) : eqR (r_la M q n a b nl la) M := by
  constructor
  · intro j h1 h8
    rw [r_la_lo M q n a b nl la (by omega) (by omega)]
    unfold r_la2
    rw [mset_ne (by omega), mset_ne (by omega)]
    exact r_la1_eq _ _ _ _ _ _ j (by omega)
  · intro k hk
    unfold r_la
    rw [mset_at, va_up_ne _ _ hk, r_l3_eq _ _ _ _ _ _ _ _ _ _ _ _ _ _ 0 (by omega)]
    unfold r_la2
    rw [mset_ne (by omega), mset_ne (by omega), r_la1_eq _ _ _ _ _ _ 0 (by omega)]
theorem r_la_n (M : Nat → Nat → Int) (q n a b nl : Nat) (la : Bool) : r_la M q n a b nl la 0 16 = ((nl : Nat) : Int) + 1 := mset_same _ _ _ _
theorem r_ln_eqR (M : Nat → Nat → Int) (q n eb a : Nat) : eqR (r_ln M q n eb a) M := eqR_tr (r_la_eqR _ _ _ _ _ _ _) (eqb_eqR (r_toM_eq _ _ _ _ _))
theorem r_lines_eqR (q n eb : Nat) : ∀ f a M, eqR (r_lines q n eb f a M) M := by
  intro f
  induction f with
  | zero => intro a M; exact eqR_rf
  | succ f ih =>
    intro a M
    unfold r_lines
    split
    · exact eqR_tr (ih _ _) (r_ln_eqR _ _ _ _ _)
    · exact r_ln_eqR _ _ _ _ _
theorem r_lines_n (q n eb : Nat) : ∀ f a (M : Nat → Nat → Int), M 1 (q + 1) = ((eb : Nat) : Int) → a ≤ eb → 0 ≤ M 0 16 ∧ M 0 16 ≤ ((a : Nat) : Int) + ((q : Nat) : Int) → 0 ≤ r_lines q n eb f a M 0 16 ∧ r_lines q n eb f a M 0 16 ≤ ((eb : Nat) : Int) + ((q : Nat) : Int) + 1 := by
  intro f
  induction f with
  | zero => intro a M heb ha hn; unfold r_lines; omega
  | succ f ih =>
    intro a M heb ha hn
    have hb := r_to_b (n := n) heb ha
    have h1 : r_ln M q n eb a 0 16 = M 0 16 + 1 := by unfold r_ln; rw [r_la_n]; unfold rnM; omega
    unfold r_lines
    split
    · exact ih _ _ (by rw [(r_ln_eqR M q n eb a).1 1 (by omega) (by omega)]; exact heb) (by omega) (by rw [h1]; omega)
    · rw [h1]; omega
/-- the rows of lines, as a line leaves them -/
theorem r_la_11 (M : Nat → Nat → Int) (q n a b nl : Nat) (la : Bool) : r_la M q n a b nl la 11 = va_up (M 11) nl ((q : Nat) : Int) := by
  rw [r_la_lo M q n a b nl la (by omega) (by omega)]
  unfold r_la2 r_la1
  rw [mset_ne (by omega), mset_ne (by omega), mset_ne (by omega), mset_ne (by omega), mset_ne (by omega), mset_ne (by omega), mset_ne (by omega), mset_at, r_m_ne _ _ _ _ _ (by omega)]
theorem r_la_12 (M : Nat → Nat → Int) (q n a b nl : Nat) (la : Bool) : r_la M q n a b nl la 12 = va_up (M 12) nl ((a : Nat) : Int) := by
  rw [r_la_lo M q n a b nl la (by omega) (by omega)]
  unfold r_la2 r_la1
  rw [mset_ne (by omega), mset_ne (by omega), mset_ne (by omega), mset_ne (by omega), mset_ne (by omega), mset_ne (by omega), mset_at, mset_ne (by omega), r_m_ne _ _ _ _ _ (by omega)]
theorem r_la_13 (M : Nat → Nat → Int) (q n a b nl : Nat) (la : Bool) : r_la M q n a b nl la 13 = va_up (M 13) nl (((b : Nat) : Int) - ((a : Nat) : Int)) := by
  rw [r_la_lo M q n a b nl la (by omega) (by omega)]
  unfold r_la2 r_la1
  rw [mset_ne (by omega), mset_ne (by omega), mset_ne (by omega), mset_ne (by omega), mset_ne (by omega), mset_at, mset_ne (by omega), mset_ne (by omega), r_m_ne _ _ _ _ _ (by omega)]
theorem r_la_14 (M : Nat → Nat → Int) (q n a b nl : Nat) (la : Bool) : r_la M q n a b nl la 14 = va_up (M 14) nl (r_beg M q a) := by
  rw [r_la_lo M q n a b nl la (by omega) (by omega)]
  unfold r_la2 r_la1
  rw [mset_ne (by omega), mset_ne (by omega), mset_ne (by omega), mset_ne (by omega), mset_at, mset_ne (by omega), mset_ne (by omega), mset_ne (by omega), r_m_ne _ _ _ _ _ (by omega)]
theorem r_la_15 (M : Nat → Nat → Int) (q n a b nl : Nat) (la : Bool) : r_la M q n a b nl la 15 = va_up (M 15) nl (r_m M q n a b M).1 := by
  rw [r_la_lo M q n a b nl la (by omega) (by omega)]
  unfold r_la2 r_la1
  rw [mset_ne (by omega), mset_ne (by omega), mset_ne (by omega), mset_at, mset_ne (by omega), mset_ne (by omega), mset_ne (by omega), mset_ne (by omega), r_m_ne _ _ _ _ _ (by omega)]
theorem r_la_16 (M : Nat → Nat → Int) (q n a b nl : Nat) (la : Bool) : r_la M q n a b nl la 16 = va_up (M 16) nl (r_mh (M 8) (b - a) a (M 2 (11 * q + 10))) := by
  rw [r_la_lo M q n a b nl la (by omega) (by omega)]
  unfold r_la2 r_la1
  rw [mset_ne (by omega), mset_at, mset_ne (by omega), mset_ne (by omega), mset_ne (by omega), mset_ne (by omega), mset_ne (by omega), mset_ne (by omega), r_m_ne _ _ _ _ _ (by omega)]
theorem r_la_19 (M : Nat → Nat → Int) (q n a b nl : Nat) (la : Bool) : r_la M q n a b nl la 19 = va_up (M 19) nl (r_mv M q n a b) := by
  rw [r_la_lo M q n a b nl la (by omega) (by omega)]
  unfold r_la2 r_la1
  rw [mset_ne (by omega), mset_ne (by omega), mset_at, mset_ne (by omega), mset_ne (by omega), mset_ne (by omega), mset_ne (by omega), mset_ne (by omega), r_m_ne _ _ _ _ _ (by omega)]
theorem r_la_20 (M : Nat → Nat → Int) (q n a b nl : Nat) (la : Bool) : r_la M q n a b nl la 20 = va_up (M 20) nl (if r_sprd M q a b la = 0 then 0 else r_rest M q n a b) := by
  rw [r_la_lo M q n a b nl la (by omega) (by omega)]
  unfold r_la2 r_la1
  rw [mset_at, mset_ne (by omega), mset_ne (by omega), mset_ne (by omega), mset_ne (by omega), mset_ne (by omega), mset_ne (by omega), mset_ne (by omega), r_m_ne _ _ _ _ _ (by omega)]
theorem up_all {r : Nat → Int} {k : Nat} {v : Int} {P : Int → Prop} (h : ∀ j, P (r j)) (hv : P v) : ∀ j, P (va_up r k v j) := fun j => by
  by_cases q : j = k
  · subst q; rw [va_up_self]; exact hv
  · rw [va_up_ne _ _ q]; exact h j
theorem r_la_rL {M : Nat → Nat → Int} {q n a b nl : Nat} {la : Bool} (hl : rL M) (hq : q < 30) (hab : a ≤ b) (hb : b ≤ 600) (ht : rT M) (h10 : 0 ≤ M 2 (11 * q + 10) ∧ M 2 (11 * q + 10) ≤ 2000) : rL (r_la M q n a b nl la) := fun j => by
  have hm := r_mhb ht.2.2.1 (b - a) a (M 2 (11 * q + 10)) h10
  rw [r_la_11, r_la_12, r_la_13, r_la_16]
  by_cases h : j = nl
  · subst h
    rw [va_up_self, va_up_self, va_up_self, va_up_self]
    omega
  · rw [va_up_ne _ _ h, va_up_ne _ _ h, va_up_ne _ _ h, va_up_ne _ _ h]
    exact hl j
theorem eqb_rL {M N : Nat → Nat → Int} (h : eqb 9 10 M N) (hl : rL N) : rL M := fun j => by
  rw [h 11 (by omega), h 12 (by omega), h 13 (by omega), h 16 (by omega)]
  exact hl j
/-- all that lay asks of the memory -/
def rI (M : Nat → Nat → Int) (np : Nat) : Prop := M 0 4 = ((np : Nat) : Int) ∧ np ≤ 30 ∧ rT M ∧ (∀ q, q < 30 → rS M q ∧ rP M q (rn M q) ∧ (0 ≤ M 2 (11 * q + 5) ∧ M 2 (11 * q + 5) ≤ 3) ∧ (0 ≤ M 2 (11 * q + 10) ∧ M 2 (11 * q + 10) ≤ 2000)) ∧ rZ M ∧ (∀ q, q < np → 0 ≤ M 1 q ∧ M 1 q ≤ M 1 (q + 1) ∧ M 1 (q + 1) ≤ 600)
theorem eqR_rI {M N : Nat → Nat → Int} {np : Nat} (h : eqR M N) (hi : rI N np) : rI M np := by
  obtain ⟨h1, h2, h3, h4, h5, h6⟩ := hi
  refine ⟨by rw [h.2 4 (by omega)]; exact h1, h2, eqR_rT h h3, fun q hq => ?_, fun j => by rw [h.1 2 (by omega) (by omega)]; exact h5 j, fun q hq => by rw [h.1 1 (by omega) (by omega)]; exact h6 q hq⟩
  obtain ⟨g1, g2, g3, g4⟩ := h4 q hq
  have hn : rn M q = rn N q := by unfold rn; rw [h.1 3 (by omega) (by omega)]
  rw [hn, h.1 2 (by omega) (by omega)]
  exact ⟨eqR_rS h g1, eqR_rP h g2, g3, g4⟩
theorem r_ln_rL {M : Nat → Nat → Int} {q n a eb : Nat} (hl : rL M) (hq : q < 30) (ha : a ≤ eb) (he : eb ≤ 600) (heb : M 1 (q + 1) = ((eb : Nat) : Int)) (ht : rT M) (h10 : 0 ≤ M 2 (11 * q + 10) ∧ M 2 (11 * q + 10) ≤ 2000) : rL (r_ln M q n eb a) := by
  have h1 := r_toM_eq M q n eb a
  have hb := r_to_b (n := n) heb ha
  exact r_la_rL (eqb_rL h1 hl) hq hb.1 (by omega) (eqb_rT h1 ht) (by rw [h1 2 (by omega)]; exact h10)
theorem r_lines_rL (q n eb : Nat) (hq : q < 30) (he : eb ≤ 600) : ∀ f a (M : Nat → Nat → Int), rL M → M 1 (q + 1) = ((eb : Nat) : Int) → a ≤ eb → rT M → 0 ≤ M 2 (11 * q + 10) ∧ M 2 (11 * q + 10) ≤ 2000 → rL (r_lines q n eb f a M) := by
  intro f
  induction f with
  | zero => intro a M hl heb ha ht h10; exact hl
  | succ f ih =>
    intro a M hl heb ha ht h10
    have hb := r_to_b (n := n) heb ha
    have h1 := r_ln_rL (n := n) hl hq ha he heb ht h10
    have h2 := r_ln_eqR M q n eb a
    unfold r_lines
    split
    · exact ih _ _ h1 (by rw [h2.1 1 (by omega) (by omega)]; exact heb) (by omega) (eqR_rT h2 ht) (by rw [h2.1 2 (by omega) (by omega)]; exact h10)
    · exact h1
theorem r_par_eqR (M : Nat → Nat → Int) (q : Nat) : eqR (r_par M q) M := r_lines_eqR _ _ _ _ _ _
theorem r_pars_eqR : ∀ f q M, eqR (r_pars f q M) M := by
  intro f
  induction f with
  | zero => intro q M; exact eqR_rf
  | succ f ih => intro q M; exact eqR_tr (ih _ _) (r_par_eqR _ _)
theorem rI_be {M : Nat → Nat → Int} {np q : Nat} (h : rI M np) (hq : q < np) : M 1 q = ((re M q : Nat) : Int) ∧ M 1 (q + 1) = ((re M (q + 1) : Nat) : Int) ∧ re M q ≤ re M (q + 1) ∧ re M (q + 1) ≤ 600 := by
  have := h.2.2.2.2.2 q hq
  unfold re
  omega
/-- the lines of the paragraphs from q on: how many, and that their rows are sound -/
theorem r_pars_n (np : Nat) : ∀ f q (M : Nat → Nat → Int), q + f = np → rI M np → rL M → 0 ≤ M 0 16 → (0 < f → M 0 16 ≤ M 1 q + ((q : Nat) : Int)) → M 0 16 ≤ 630 → (0 ≤ r_pars f q M 0 16 ∧ r_pars f q M 0 16 ≤ 630) ∧ rL (r_pars f q M) := by
  intro f
  induction f with
  | zero => intro q M hf hi hl h0 h1 h2; exact ⟨⟨h0, h2⟩, hl⟩
  | succ f ih =>
    intro q M hf hi hl h0 h1 h2
    have hq : q < np := by omega
    have hb := rI_be hi hq
    have h30 := hi.2.1
    have hx := hi.2.2.2.1 q (by omega)
    have hn := r_lines_n q (rn M q) (re M (q + 1)) (re M (q + 1) - re M q + 1) (re M q) M hb.2.1 hb.2.2.1 ⟨h0, by have := h1 (by omega); omega⟩
    have hL := r_lines_rL q (rn M q) (re M (q + 1)) (by omega) hb.2.2.2 (re M (q + 1) - re M q + 1) (re M q) M hl hb.2.1 hb.2.2.1 hi.2.2.1 hx.2.2.2
    have he := r_par_eqR M q
    unfold r_pars
    refine ih (q + 1) (r_par M q) (by omega) (eqR_rI he hi) hL hn.1 (fun _ => ?_) ?_
    · rw [he.1 1 (by omega) (by omega)]
      have := hn.2
      show r_lines _ _ _ _ _ _ 0 16 ≤ _
      omega
    · have := hn.2
      show r_lines _ _ _ _ _ _ 0 16 ≤ _
      omega
theorem r_btw_eq {M N : Nat → Nat → Int} (h11 : M 11 = N 11) (h2 : M 2 = N 2) (w : Nat) : r_btw M w = r_btw N w := by
  unfold r_btw rq
  rw [h11, h2]
theorem eqb_rL2 {M N : Nat → Nat → Int} (h : eqb 17 18 M N) (hl : rL N) : rL M := fun j => by
  rw [h 11 (by omega), h 12 (by omega), h 13 (by omega), h 16 (by omega)]
  exact hl j
theorem eqP_rT {M N : Nat → Nat → Int} (h : eqP M N) (ht : rT N) : rT M := by
  unfold rT at ht ⊢
  rw [h.1 6 (by omega) (by omega) (by omega) (by omega), h.1 7 (by omega) (by omega) (by omega) (by omega), h.1 8 (by omega) (by omega) (by omega) (by omega), h.2 1 (by omega), h.2 2 (by omega), h.2 3 (by omega)]
  exact ht
theorem r_fill_eqP (nl : Nat) : ∀ f a M, eqP (r_fill nl f a M) M := by
  intro f
  induction f with
  | zero => intro a M; exact eqP_rf
  | succ f ih =>
    intro a M
    unfold r_fill
    split
    · exact eqP_tr (ih _ _) (r_pgs_eqP _ _ _)
    · exact eqP_rf
theorem r_fill_n (nl : Nat) : ∀ f a (M : Nat → Nat → Int), a ≤ nl → 0 ≤ M 0 30 ∧ M 0 30 ≤ ((a : Nat) : Int) → 0 ≤ r_fill nl f a M 0 30 ∧ r_fill nl f a M 0 30 ≤ ((nl : Nat) : Int) := by
  intro f
  induction f with
  | zero => intro a M ha h; unfold r_fill; omega
  | succ f ih =>
    intro a M ha h
    unfold r_fill
    split
    · rename_i hlt
      have hb := r_fil_b M hlt
      have h1 : r_pgs M a (r_fil M a nl) 0 30 = M 0 30 + 1 := mset_same _ _ _ _
      exact ih _ _ (by omega) (by rw [h1]; omega)
    · omega
