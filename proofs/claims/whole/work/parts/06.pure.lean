/-! The class's methods as functions over integers (my own words for what its code computes). -/
def p_step (f st : Int) : Int := if 0 < st then (f.tdiv st + 1) * st else f
def p_own (sp : Nat → Int) (p : Int) : Nat → Nat → Nat
  | 0, o => o
  | f + 1, o => if sp o ≤ p then p_own sp p f (o + 1) else o
def p_last (n : Nat) (sp : Nat → Int) : Int := if 0 < n then sp (n - 1) else 0
def p_at (n : Nat) (sp : Nat → Int) (p st : Int) : Int := if p_own sp p n 0 < n then sp (p_own sp p n 0) else p_step (max p (p_last n sp)) st
def p_knd (n : Nat) (sp sk : Nat → Int) (p : Int) : Int := if p_own sp p n 0 < n then sk (p_own sp p n 0) else 0
def p_tab (n : Nat) (sp sk : Nat → Int) (p w st : Int) : Int :=
  max 0 (if p_knd n sp sk p = 1 then p_at n sp p st - p - w else if p_knd n sp sk p = 2 then p_at n sp p st - p - w.tdiv 2 else p_at n sp p st - p)
abbrev p_endl (kd : Nat → Int) (i : Nat) : Prop := kd i = 5 ∨ kd i = 6
abbrev p_brk (kd : Nat → Int) (beh i : Nat) : Prop := beh ≤ i + 1 ∨ kd (i + 1) = 2 ∨ kd i = 1 ∨ kd i = 3 ∨ kd i = 4 ∨ p_endl kd i
def p_wid (kd wd : Nat → Int) (i : Nat) (last : Bool) : Int := if kd i = 5 ∨ kd i = 6 ∨ (kd i = 4 ∧ last = false) then 0 else wd i
def p_back (kd : Nat → Int) (a : Nat) : Nat → Nat
  | 0 => 0
  | s + 1 => if a < s + 1 ∧ kd s = 1 then p_back kd a s else s + 1
def p_solid (kd : Nat → Int) (a b : Nat) : Nat := p_back kd a (if a < b ∧ p_endl kd (b - 1) then b - 1 else b)
theorem p_own_ge (sp : Nat → Int) (p : Int) : ∀ f o, o ≤ p_own sp p f o := by
  intro f
  induction f with
  | zero => intro o; exact Nat.le_refl o
  | succ f ih =>
    intro o
    unfold p_own
    split
    · exact Nat.le_trans (Nat.le_succ o) (ih (o + 1))
    · exact Nat.le_refl o
theorem p_own_le (sp : Nat → Int) (p : Int) : ∀ f o, p_own sp p f o ≤ o + f := by
  intro f
  induction f with
  | zero => intro o; exact Nat.le_refl o
  | succ f ih =>
    intro o
    unfold p_own
    split
    · have := ih (o + 1); omega
    · omega
theorem p_own_lt (sp : Nat → Int) (p : Int) : ∀ f o j, o ≤ j → j < p_own sp p f o → sp j ≤ p := by
  intro f
  induction f with
  | zero => intro o j h1 h2; unfold p_own at h2; omega
  | succ f ih =>
    intro o j h1 h2
    unfold p_own at h2
    split at h2
    · rename_i hs
      by_cases hj : j = o
      · subst hj; exact hs
      · exact ih (o + 1) j (by omega) h2
    · omega
theorem p_own_at (sp : Nat → Int) (p : Int) : ∀ f o, p_own sp p f o < o + f → p < sp (p_own sp p f o) := by
  intro f
  induction f with
  | zero => intro o h; unfold p_own at h; omega
  | succ f ih =>
    intro o h
    unfold p_own at h ⊢
    split
    · rename_i hs
      rw [if_pos hs] at h
      exact ih (o + 1) (by omega)
    · rename_i hs
      omega
theorem p_back_le (kd : Nat → Int) (a : Nat) : ∀ s, p_back kd a s ≤ s := by
  intro s
  induction s with
  | zero => exact Nat.le_refl 0
  | succ s ih =>
    unfold p_back
    split
    · omega
    · exact Nat.le_refl _
theorem p_back_ge (kd : Nat → Int) (a : Nat) : ∀ s, a ≤ s → a ≤ p_back kd a s := by
  intro s
  induction s with
  | zero => intro h; exact h
  | succ s ih =>
    intro h
    unfold p_back
    split
    · exact ih (by omega)
    · exact h
theorem p_solid_le (kd : Nat → Int) (a b : Nat) : p_solid kd a b ≤ b := by
  unfold p_solid
  have h := p_back_le kd a (if a < b ∧ p_endl kd (b - 1) then b - 1 else b)
  split at h <;> rename_i q
  · rw [if_pos q]; omega
  · rw [if_neg q]; exact h
theorem p_solid_ge (kd : Nat → Int) (a b : Nat) (hab : a ≤ b) : a ≤ p_solid kd a b := by
  unfold p_solid
  apply p_back_ge
  split
  · omega
  · exact hab
/-- a line that grows: whether there is a TAB, where its stretch begins, all widths behind, the solid ones -/
abbrev p_R : Type := Int × Int × Int × Int
/-- a paragraph's stops and the step, as a tab sees them -/
abbrev p_T : Type := Nat × (Nat → Int) × (Nat → Int) × Int
def p_ew (t : p_T) (r : p_R) (w : Int) : Int := r.2.1 + (if r.1 = 0 then 0 else p_tab t.1 t.2.1 t.2.2.1 r.2.1 w t.2.2.2) + w
def p_add (kd wd : Nat → Int) (t : p_T) (r : p_R) (i : Nat) : p_R :=
  if kd i = 2 then (1, p_ew t r r.2.2.1, 0, 0)
  else (r.1, r.2.1, r.2.2.1 + p_wid kd wd i false, if kd i ≠ 1 ∧ ¬ p_endl kd i then r.2.2.1 + p_wid kd wd i false else r.2.2.2)
def p_least (t : p_T) (r : p_R) : Int := p_ew t r r.2.2.2
def p_endb (kd wd : Nat → Int) (t : p_T) (r : p_R) (i : Nat) : Int := if kd i = 4 then p_ew t r (r.2.2.1 + wd i) else p_least t r
def p_wbt (kd wd : Nat → Int) (solid beh : Nat) : Nat → Nat → Int → Int
  | 0, _, s => s
  | f + 1, i, s => if i < solid ∧ kd i ≠ 2 then p_wbt kd wd solid beh f (i + 1) (s + p_wid kd wd i (decide (i + 1 = beh))) else s
def p_hgt (ht : Nat → Int) (b : Nat) : Nat → Nat → Int → Int
  | 0, _, h => h
  | f + 1, i, h => if i < b then p_hgt ht b f (i + 1) (max h (ht i)) else h
theorem p_stepb {f st : Int} (hf : 0 ≤ f) (h1 : 1 ≤ st) : f < p_step f st ∧ p_step f st ≤ f + st := by
  unfold p_step
  rw [if_pos (by omega), Int.tdiv_eq_ediv_of_nonneg hf]
  have h2 := Int.emod_def f st
  have h3 := Int.emod_nonneg f (show st ≠ 0 by omega)
  have h4 := Int.emod_lt_of_pos f (show 0 < st by omega)
  have h5 : (f / st + 1) * st = st * (f / st) + st := by rw [Int.add_mul, Int.one_mul, Int.mul_comm]
  rw [h5]
  constructor <;> omega
/-- what the ruler and a paragraph's stops are in the memory -/
def p_rul (M : Nat → Nat → Int) : p_R := (M 4 3, M 4 4, M 4 5, M 4 6)
def p_tabs (M : Nat → Nat → Int) (i n : Nat) : p_T := (n, M (31 + 4 * i), M (32 + 4 * i), M 2 2)
/-- a paragraph's stops are sound -/
def wfP (M : Nat → Nat → Int) (i n : Nat) : Prop := i < 30 ∧ n ≤ 8 ∧ M (29 + 4 * i) 3 = ((n : Nat) : Int) ∧ (∀ j, 0 ≤ M (31 + 4 * i) j ∧ M (31 + 4 * i) j ≤ 30000) ∧ (∀ j, 0 ≤ M (32 + 4 * i) j ∧ M (32 + 4 * i) j ≤ 2)
/-- signs and sheet are sound -/
def wfT (M : Nat → Nat → Int) : Prop := (∀ j, 0 ≤ M 7 j ∧ M 7 j ≤ 6) ∧ (∀ j, 0 ≤ M 8 j ∧ M 8 j ≤ 4000) ∧ (∀ j, 0 ≤ M 9 j ∧ M 9 j ≤ 2000) ∧ (1 ≤ M 2 0 ∧ M 2 0 ≤ 30000) ∧ (1 ≤ M 2 1 ∧ M 2 1 ≤ 30000) ∧ (1 ≤ M 2 2 ∧ M 2 2 ≤ 30000)
def wfR (M : Nat → Nat → Int) : Prop := (M 4 3 = 0 ∨ M 4 3 = 1) ∧ (0 ≤ M 4 4 ∧ M 4 4 ≤ 40000000) ∧ (0 ≤ M 4 5 ∧ M 4 5 ≤ 40000000) ∧ (0 ≤ M 4 6 ∧ M 4 6 ≤ 40000000)
theorem zb_7 {M : Nat → Nat → Int} (h : wfT M) : ∀ j, zb (M 7 j) := fun j => ⟨by have := h.1 j; omega, by have := h.1 j; omega⟩
def p_blt (kd : Nat → Int) (a : Nat) : Nat → Nat
  | 0 => 0
  | s + 1 => if a < s + 1 ∧ ¬ kd s = 2 then p_blt kd a s else s + 1
abbrev p_first (pa : Nat → Int) (w : Nat) : Prop := w = 0 ∨ ¬ pa (w - 1) = pa w
abbrev p_lastl (pa : Nat → Int) (nl w : Nat) : Prop := nl ≤ w + 1 ∨ ¬ pa (w + 1) = pa w
abbrev p_endp (kd : Nat → Int) (f c : Nat) : Prop := 0 < c ∧ kd (f + c - 1) = 6
def p_ah (kd pf pw : Nat → Int) (x : Int) : Nat → Nat → Nat
  | 0, i => i
  | f + 1, i => if x < pf i + (pw i).tdiv 2 ∨ p_endl kd i then i else p_ah kd pf pw x f (i + 1)
def p_lat (dn : Nat → Int) (y : Int) (a : Nat) : Nat → Nat
  | 0 => 0
  | s + 1 => if a < s + 1 ∧ y < dn (s + 1) then p_lat dn y a s else s + 1
