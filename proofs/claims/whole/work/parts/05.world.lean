/-! The class's world: 149 cells. 0 PageLayout, 1 Text, 2 Sheet, 3 Lines, 4 Ruler, 5 Pages, 6 Text.paragraph, 7 kind, 8 width, 9 height, 10 Lines.told, 11 Lines.place, 12 Pages.told, 13..22 told's rows, 23..25 place's rows, 26..28 pages' rows, and of paragraph i: 29 + 4i itself, 30 + 4i shape, 31 + 4i stopPlace, 32 + 4i stopKind. A cell's numbers are its row: fields by their slots, elements by their places. -/
abbrev pg_C : Type := ClassId × ClassId × ClassId
def pg_tys (cs : pg_C) : List (ClassId × FieldType) := [(cs.1, .int), (cs.2.1, .array .int), (cs.2.2, .object "PageLayout$Paragraph")]
def pg_ia (cs : pg_C) (n : Nat) (r : Nat → Int) : va_E := .inl (cs.1, n, .inl (fun j => iI (r j)))
def pg_p (ad : Nat → Nat) (cs : pg_C) (k : Nat) (r : Nat → Int) : va_E :=
  if k % 4 = 0 then .inr (6, [.ref (ad (k + 30)), .ref (ad (k + 31)), .ref (ad (k + 32)), .int (iI (r 3)), .int (iI (r 4)), .int (iI (r 5))])
  else if k % 4 = 1 then pg_ia cs 11 r else pg_ia cs 8 r
def pg_ce (ad : Nat → Nat) (cs : pg_C) (rp : Option Nat) (k : Nat) (r : Nat → Int) : va_E := match k with
  | 0 => .inr (0, [.ref (ad 1), .ref (ad 2), .ref (ad 3), .ref (ad 5), .int (iI (r 4))])
  | 1 => .inr (1, [.ref (ad 6), .ref (ad 7), .ref (ad 8), .ref (ad 9), .int (iI (r 4)), .int (iI (r 5))])
  | 2 => .inr (2, [.int (iI (r 0)), .int (iI (r 1)), .int (iI (r 2))])
  | 3 => .inr (3, [.ref (ad 10), .ref (ad 11), .int (iI (r 2)), .ref (ad 1), .ref (ad 2), .ref (ad 4)])
  | 4 => .inr (4, [.ref (ad 1), .ref (ad 2), va_rf (rp.map fun i => ad (29 + 4 * i)), .int (iI (r 3)), .int (iI (r 4)), .int (iI (r 5)), .int (iI (r 6))])
  | 5 => .inr (5, [.ref (ad 12), .int (iI (r 1)), .ref (ad 1), .ref (ad 2), .ref (ad 3)])
  | 6 => .inl (cs.2.2, 30, .inr (.inr (.inr (.inr (fun i => some (ad (29 + 4 * i)))))))
  | 7 => pg_ia cs 600 r
  | 8 => pg_ia cs 600 r
  | 9 => pg_ia cs 600 r
  | 10 => .inl (cs.2.1, 10, .inr (.inr (.inr (.inr (fun i => some (ad (13 + i)))))))
  | 11 => .inl (cs.2.1, 3, .inr (.inr (.inr (.inr (fun i => some (ad (23 + i)))))))
  | 12 => .inl (cs.2.1, 3, .inr (.inr (.inr (.inr (fun i => some (ad (26 + i)))))))
  | 13 => pg_ia cs 630 r
  | 14 => pg_ia cs 630 r
  | 15 => pg_ia cs 630 r
  | 16 => pg_ia cs 630 r
  | 17 => pg_ia cs 630 r
  | 18 => pg_ia cs 630 r
  | 19 => pg_ia cs 630 r
  | 20 => pg_ia cs 630 r
  | 21 => pg_ia cs 630 r
  | 22 => pg_ia cs 630 r
  | 23 => pg_ia cs 600 r
  | 24 => pg_ia cs 600 r
  | 25 => pg_ia cs 600 r
  | 26 => pg_ia cs 630 r
  | 27 => pg_ia cs 630 r
  | 28 => pg_ia cs 630 r
  | k + 29 => pg_p ad cs k r
def pg_w (ad : Nat → Nat) (cs : pg_C) (rp : Option Nat) (M : Nat → Nat → Int) : va_W := wlN 149 ad (pg_ce ad cs rp) M
theorem pg_far (ad : Nat → Nat) (cs : pg_C) (rp : Option Nat) (k : Nat) (r : Nat → Int) : pg_ce ad cs rp (29 + k) r = pg_p ad cs k r := by
  rw [Nat.add_comm]
  rfl
theorem pg_par (ad : Nat → Nat) (cs : pg_C) (rp : Option Nat) (i : Nat) (r : Nat → Int) : pg_ce ad cs rp (29 + 4 * i) r = .inr (6, [.ref (ad (30 + 4 * i)), .ref (ad (31 + 4 * i)), .ref (ad (32 + 4 * i)), .int (iI (r 3)), .int (iI (r 4)), .int (iI (r 5))]) := by
  rw [pg_far]
  unfold pg_p
  rw [if_pos (by omega), Nat.add_comm (4 * i) 30, Nat.add_comm (4 * i) 31, Nat.add_comm (4 * i) 32]
theorem pg_shp (ad : Nat → Nat) (cs : pg_C) (rp : Option Nat) (i : Nat) (r : Nat → Int) : pg_ce ad cs rp (30 + 4 * i) r = .inl (cs.1, 11, .inl (fun j => iI (r j))) := by
  rw [show 30 + 4 * i = 29 + (4 * i + 1) by omega, pg_far]
  unfold pg_p
  rw [if_neg (by omega), if_pos (by omega)]
  rfl
theorem pg_plc (ad : Nat → Nat) (cs : pg_C) (rp : Option Nat) (i : Nat) (r : Nat → Int) : pg_ce ad cs rp (31 + 4 * i) r = .inl (cs.1, 8, .inl (fun j => iI (r j))) := by
  rw [show 31 + 4 * i = 29 + (4 * i + 2) by omega, pg_far]
  unfold pg_p
  rw [if_neg (by omega), if_neg (by omega)]
  rfl
theorem pg_knd (ad : Nat → Nat) (cs : pg_C) (rp : Option Nat) (i : Nat) (r : Nat → Int) : pg_ce ad cs rp (32 + 4 * i) r = .inl (cs.1, 8, .inl (fun j => iI (r j))) := by
  rw [show 32 + 4 * i = 29 + (4 * i + 3) by omega, pg_far]
  unfold pg_p
  rw [if_neg (by omega), if_neg (by omega)]
  rfl
theorem pg_tld (ad : Nat → Nat) (cs : pg_C) (rp : Option Nat) {i : Nat} (h : i < 10) (r : Nat → Int) : pg_ce ad cs rp (13 + i) r = .inl (cs.1, 630, .inl (fun j => iI (r j))) := by
  match i, h with
  | 0, _ => rfl
  | 1, _ => rfl
  | 2, _ => rfl
  | 3, _ => rfl
  | 4, _ => rfl
  | 5, _ => rfl
  | 6, _ => rfl
  | 7, _ => rfl
  | 8, _ => rfl
  | 9, _ => rfl
theorem pg_plx (ad : Nat → Nat) (cs : pg_C) (rp : Option Nat) {i : Nat} (h : i < 3) (r : Nat → Int) : pg_ce ad cs rp (23 + i) r = .inl (cs.1, 600, .inl (fun j => iI (r j))) := by
  match i, h with
  | 0, _ => rfl
  | 1, _ => rfl
  | 2, _ => rfl
theorem pg_ptd (ad : Nat → Nat) (cs : pg_C) (rp : Option Nat) {i : Nat} (h : i < 3) (r : Nat → Int) : pg_ce ad cs rp (26 + i) r = .inl (cs.1, 630, .inl (fun j => iI (r j))) := by
  match i, h with
  | 0, _ => rfl
  | 1, _ => rfl
  | 2, _ => rfl
