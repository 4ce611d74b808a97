/-! The reference's world: 25 cells. 0 the object, 1 begin, 2 shapes, 3 stops, 4 stopAt, 5 stopKind, 6 kind, 7 width, 8 height, 9 across, 10 broad, 11 paragraphOf, 12 firstOf, 13 manyOf, 14 beginOf, 15 endOf, 16 heightOf, 17 pageOf, 18 downOf, 19 movedOf, 20 widerOf, 21 lineOf, 22 placeOf, 23 broadOf, 24 pageFirst. -/
def mo_tys (cs : ClassId) : List (ClassId × FieldType) := [(cs, .int)]
def mo_ia (cs : ClassId) (n : Nat) (r : Nat → Int) : va_E := .inl (cs, n, .inl (fun j => iI (r j)))
def mo_ce (ad : Nat → Nat) (cs : ClassId) (k : Nat) (r : Nat → Int) : va_E := match k with
  | 0 => .inr (7, [.int (iI (r 0)), .int (iI (r 1)), .int (iI (r 2)), .int (iI (r 3)), .int (iI (r 4)), .ref (ad 1), .ref (ad 2), .ref (ad 3), .ref (ad 4), .ref (ad 5), .ref (ad 6), .ref (ad 7), .ref (ad 8), .ref (ad 9), .ref (ad 10), .int (iI (r 15)), .int (iI (r 16)), .ref (ad 11), .ref (ad 12), .ref (ad 13), .ref (ad 14), .ref (ad 15), .ref (ad 16), .ref (ad 17), .ref (ad 18), .ref (ad 19), .ref (ad 20), .ref (ad 21), .ref (ad 22), .ref (ad 23), .int (iI (r 30)), .ref (ad 24)])
  | 1 => mo_ia cs 32 r
  | 2 => mo_ia cs 330 r
  | 3 => mo_ia cs 30 r
  | 4 => mo_ia cs 240 r
  | 5 => mo_ia cs 240 r
  | 6 => mo_ia cs 600 r
  | 7 => mo_ia cs 600 r
  | 8 => mo_ia cs 600 r
  | 9 => mo_ia cs 600 r
  | 10 => mo_ia cs 600 r
  | 11 => mo_ia cs 640 r
  | 12 => mo_ia cs 640 r
  | 13 => mo_ia cs 640 r
  | 14 => mo_ia cs 640 r
  | 15 => mo_ia cs 640 r
  | 16 => mo_ia cs 640 r
  | 17 => mo_ia cs 640 r
  | 18 => mo_ia cs 640 r
  | 19 => mo_ia cs 640 r
  | 20 => mo_ia cs 640 r
  | 21 => mo_ia cs 600 r
  | 22 => mo_ia cs 600 r
  | 23 => mo_ia cs 600 r
  | _ => mo_ia cs 641 r
def mo_w (ad : Nat → Nat) (cs : ClassId) (M : Nat → Nat → Int) : va_W := wlN 25 ad (mo_ce ad cs) M
/-- signs and sheet are sound in the reference -/
def rT (M : Nat → Nat → Int) : Prop := (∀ j, 0 ≤ M 6 j ∧ M 6 j ≤ 6) ∧ (∀ j, 0 ≤ M 7 j ∧ M 7 j ≤ 4000) ∧ (∀ j, 0 ≤ M 8 j ∧ M 8 j ≤ 2000) ∧ (1 ≤ M 0 1 ∧ M 0 1 ≤ 30000) ∧ (1 ≤ M 0 2 ∧ M 0 2 ≤ 30000) ∧ (1 ≤ M 0 3 ∧ M 0 3 ≤ 30000)
/-- and a paragraph's stops -/
def rP (M : Nat → Nat → Int) (q n : Nat) : Prop := q < 30 ∧ n ≤ 8 ∧ M 3 q = ((n : Nat) : Int) ∧ (∀ j, 0 ≤ M 4 j ∧ M 4 j ≤ 30000) ∧ (∀ j, 0 ≤ M 5 j ∧ M 5 j ≤ 2)
def r_sp (M : Nat → Nat → Int) (q : Nat) : Nat → Int := fun j => M 4 (8 * q + j)
def r_sk (M : Nat → Nat → Int) (q : Nat) : Nat → Int := fun j => M 5 (8 * q + j)
def r_tabs (M : Nat → Nat → Int) (q n : Nat) : p_T := (n, r_sp M q, r_sk M q, M 0 3)
theorem zb_6 {M : Nat → Nat → Int} (h : rT M) : ∀ j, zb (M 6 j) := fun j => ⟨by have := h.1 j; omega, by have := h.1 j; omega⟩
def r_beg (M : Nat → Nat → Int) (q a : Nat) : Int := max 0 (M 2 (11 * q) + if ((a : Nat) : Int) = M 1 q then M 2 (11 * q + 2) else 0)
abbrev r_brk (kd : Nat → Int) (e : Int) (b : Nat) : Prop := ((b : Nat) : Int) = e ∨ kd (b - 1) = 1 ∨ kd (b - 1) = 3 ∨ kd (b - 1) = 4 ∨ p_endl kd (b - 1) ∨ kd b = 2
/-- measure: fuel, the sign, its place, the end so far -/
def r_ms (kd wd : Nat → Int) (t : p_T) (so b : Nat) : Nat → Nat → Int → Int → (Nat → Nat → Int) → Int × (Nat → Nat → Int)
  | 0, _, _, e, M => (e, M)
  | f + 1, k, x, e, M => r_ms kd wd t so b f (k + 1) (x + q_wide kd wd t so b k x) (if k < so ∧ ¬ p_endl kd k then x + q_wide kd wd t so b k x else e) (mset (mset M 9 k x) 10 k (q_wide kd wd t so b k x))
theorem r_atb {n : Nat} {sp : Nat → Int} {x st : Int} (hx : 0 ≤ x ∧ x ≤ 100000000) (h1 : 1 ≤ st ∧ st ≤ 30000) (hz : ∀ j, 0 ≤ sp j ∧ sp j ≤ 30000) : 0 ≤ p_at n sp x st ∧ p_at n sp x st ≤ 100100000 := by
  have hl : 0 ≤ p_last n sp ∧ p_last n sp ≤ 30000 := by
    unfold p_last
    split
    · exact hz _
    · omega
  unfold p_at
  split
  · have := hz (p_own sp x n 0); omega
  · have := p_stepb (f := max x (p_last n sp)) (st := st) (by omega) (by omega); omega
