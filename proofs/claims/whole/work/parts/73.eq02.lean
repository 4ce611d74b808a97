/-! The search for a line's end. My own. -/
theorem p_tab_mono {n : Nat} {sp sk : Nat → Int} {p v w st : Int} (h0 : 0 ≤ v) (h : v ≤ w) : p_tab n sp sk p v st + v ≤ p_tab n sp sk p w st + w := by
  unfold p_tab
  split
  · omega
  · split
    · rw [Int.tdiv_eq_ediv_of_nonneg h0, Int.tdiv_eq_ediv_of_nonneg (Int.le_trans h0 h)]
      omega
    · omega
theorem p_tab_nn {n : Nat} {sp sk : Nat → Int} {p w st : Int} : 0 ≤ p_tab n sp sk p w st := by
  unfold p_tab
  omega
theorem p_ew_mono {t : p_T} {r : p_R} {v w : Int} (h0 : 0 ≤ v) (h : v ≤ w) : p_ew t r v ≤ p_ew t r w := by
  unfold p_ew
  have := p_tab_mono (n := t.1) (sp := t.2.1) (sk := t.2.2.1) (p := r.2.1) (st := t.2.2.2) h0 h
  split <;> omega
/-- the ruler's sums are sound -/
def e_ok (r : p_R) : Prop := 0 ≤ r.2.2.2 ∧ r.2.2.2 ≤ r.2.2.1
theorem e_ok_add {kd wd : Nat → Int} {t : p_T} {r : p_R} {k : Nat} (hw : 0 ≤ wd k ∧ wd k ≤ 4000) (h : e_ok r) : e_ok (p_add kd wd t r k) := by
  have hb := p_widb (kd := kd) (wd := wd) (i := k) (la := false) hw
  unfold e_ok at h ⊢
  unfold p_add
  split
  · exact ⟨Int.le_refl _, Int.le_refl _⟩
  · dsimp only
    split <;> omega
theorem e_least_mono {kd wd : Nat → Int} {t : p_T} {r : p_R} {k : Nat} (hw : 0 ≤ wd k ∧ wd k ≤ 4000) (h : e_ok r) : p_least t r ≤ p_least t (p_add kd wd t r k) := by
  have hb := p_widb (kd := kd) (wd := wd) (i := k) (la := false) hw
  unfold e_ok at h
  unfold p_least p_add
  split
  · dsimp only
    have h1 := p_ew_mono (t := t) (r := r) h.1 h.2
    have h2 : p_ew t r r.2.2.1 ≤ p_ew t (1, p_ew t r r.2.2.1, 0, 0) 0 := by
      have h3 := p_tab_nn (n := t.1) (sp := t.2.1) (sk := t.2.2.1) (p := p_ew t r r.2.2.1) (w := 0) (st := t.2.2.2)
      generalize p_ew t r r.2.2.1 = z at h3 ⊢
      unfold p_ew
      dsimp only
      rw [if_neg (by omega)]
      omega
    omega
  · dsimp only
    have h1 : p_ew t r r.2.2.2 ≤ p_ew t r (if kd k ≠ 1 ∧ ¬ p_endl kd k then r.2.2.1 + p_wid kd wd k false else r.2.2.2) := p_ew_mono h.1 (by split <;> omega)
    exact h1
theorem e_endb_ge {kd wd : Nat → Int} {t : p_T} {r : p_R} {k : Nat} (hw : 0 ≤ wd k ∧ wd k ≤ 4000) (h : e_ok r) : p_least t r ≤ p_endb kd wd t r k := by
  unfold e_ok at h
  unfold p_endb
  split
  · exact p_ew_mono h.1 (by omega)
  · exact Int.le_refl _
/-- what the search leaves: the last break that fits, else the first one, else the begin -/
def e_sel (a : Nat) (fi fo : Int) : Nat := if 0 ≤ fo then fo.toNat else if 0 ≤ fi then fi.toNat else a
theorem e_ok_R {kd wd : Nat → Int} {t : p_T} {a : Nat} {x0 : Int} (hw : ∀ j, 0 ≤ wd j ∧ wd j ≤ 4000) : ∀ i, e_ok (e_R kd wd t a (0, x0, 0, 0) i) := by
  intro i
  induction i with
  | zero => exact ⟨Int.le_refl _, Int.le_refl _⟩
  | succ i ih => exact e_ok_add (hw _) ih
theorem e_R_at {kd wd : Nat → Int} {t : p_T} {a k : Nat} {r0 : p_R} (h : a ≤ k) : e_R kd wd t a r0 (k + 1 - a) = p_add kd wd t (e_R kd wd t a r0 (k - a)) k := by
  rw [show k + 1 - a = (k - a) + 1 by omega]
  show p_add _ _ _ _ (a + (k - a)) = _
  rw [show a + (k - a) = k by omega]
theorem r_bk_s (N : Nat → Nat → Int) (q n a f k : Nat) (fi fo : Int) (M : Nat → Nat → Int) : r_bk N q n a (f + 1) (k + 1) fi fo M =
    if r_brk (N 6) (N 1 (q + 1)) (k + 1) then
      if p_endl (N 6) k then (if fi < 0 then ((k + 1 : Nat) : Int) else fi, if (r_m N q n a (k + 1) M).1 ≤ r_room N q then ((k + 1 : Nat) : Int) else fo, (r_m N q n a (k + 1) M).2)
      else r_bk N q n a f (k + 1 + 1) (if fi < 0 then ((k + 1 : Nat) : Int) else fi) (if (r_m N q n a (k + 1) M).1 ≤ r_room N q then ((k + 1 : Nat) : Int) else fo) (r_m N q n a (k + 1) M).2
    else if p_endl (N 6) k then (fi, fo, M) else r_bk N q n a f (k + 1 + 1) fi fo M := rfl
/-- once the least end is too far, no further break fits -/
theorem e_none {N : Nat → Nat → Int} {q n a e : Nat} {kd wd : Nat → Int} {t : p_T} {room x0 : Int} (hkd : N 6 = kd) (hroom : r_room N q = room) (hw : ∀ j, 0 ≤ wd j ∧ wd j ≤ 4000)
    (hm : ∀ b M, a < b → b ≤ e → (∀ k, a ≤ k → k + 1 < b → ¬ p_endl kd k) → (r_m N q n a b M).1 = p_endb kd wd t (e_R kd wd t a (0, x0, 0, 0) (b - a)) (b - 1)) :
    ∀ f k fi fo M, k + f = e → a ≤ k → (∀ j, a ≤ j → j < k → ¬ p_endl kd j) → 0 ≤ fi → room < p_least t (e_R kd wd t a (0, x0, 0, 0) (k - a)) → (r_bk N q n a f (k + 1) fi fo M).1 = fi ∧ (r_bk N q n a f (k + 1) fi fo M).2.1 = fo := by
  intro f
  induction f with
  | zero => intro k fi fo M _ _ _ _ _; exact ⟨rfl, rfl⟩
  | succ f ih =>
    intro k fi fo M hf hk hno hfi hl
    have hok := e_ok_R (kd := kd) (wd := wd) (t := t) (a := a) (x0 := x0) hw (k - a)
    have h1 := e_least_mono (kd := kd) (t := t) (k := k) (hw k) hok
    have h2 := e_endb_ge (kd := kd) (t := t) (k := k) (hw k) (e_ok_add (kd := kd) (t := t) (k := k) (hw k) hok)
    rw [← e_R_at hk] at h1 h2
    have h3 := hm (k + 1) M (by omega) (by omega) (fun j g1 g2 => hno j g1 (by omega))
    rw [Nat.add_sub_cancel] at h3
    rw [r_bk_s, hkd, hroom, h3, if_neg (show ¬ fi < 0 by omega), if_neg (show ¬ p_endb kd wd t (e_R kd wd t a (0, x0, 0, 0) (k + 1 - a)) k ≤ room by omega)]
    split
    · split
      · exact ⟨rfl, rfl⟩
      · rename_i he
        exact ih (k + 1) fi fo _ (by omega) (by omega) (fun j g1 g2 => by
          by_cases hj : j = k
          · subst hj; exact he
          · exact hno j g1 (by omega)) hfi (by omega)
    · split
      · exact ⟨rfl, rfl⟩
      · rename_i he
        exact ih (k + 1) fi fo _ (by omega) (by omega) (fun j g1 g2 => by
          by_cases hj : j = k
          · subst hj; exact he
          · exact hno j g1 (by omega)) hfi (by omega)
theorem e_search {N : Nat → Nat → Int} {q n a e : Nat} {kd wd : Nat → Int} {t : p_T} {room x0 : Int} (hkd : N 6 = kd) (hroom : r_room N q = room) (he : N 1 (q + 1) = ((e : Nat) : Int)) (hw : ∀ j, 0 ≤ wd j ∧ wd j ≤ 4000)
    (hm : ∀ b M, a < b → b ≤ e → (∀ k, a ≤ k → k + 1 < b → ¬ p_endl kd k) → (r_m N q n a b M).1 = p_endb kd wd t (e_R kd wd t a (0, x0, 0, 0) (b - a)) (b - 1)) :
    ∀ f k fi fo M, k + f = e → a ≤ k → (∀ j, a ≤ j → j < k → ¬ p_endl kd j) → (0 ≤ fo → 0 ≤ fi) → (0 ≤ fi → ((a : Nat) : Int) < fi) → (0 ≤ fo → ((a : Nat) : Int) < fo) →
      (p_lx kd wd t room a e f k (e_sel a fi fo) (e_R kd wd t a (0, x0, 0, 0) (k - a))).1 = e_sel a (r_bk N q n a f (k + 1) fi fo M).1 (r_bk N q n a f (k + 1) fi fo M).2.1 := by
  intro f
  induction f with
  | zero => intro k fi fo M _ _ _ _ _ _; rfl
  | succ f ih =>
    intro k fi fo M hf hk hno h1 h2 h3
    have hmk := hm (k + 1) M (by omega) (by omega) (fun j g1 g2 => hno j g1 (by omega))
    rw [Nat.add_sub_cancel] at hmk
    have hno' : ¬ p_endl kd k → ∀ j, a ≤ j → j < k + 1 → ¬ p_endl kd j := fun q j g1 g2 => by
      by_cases hj : j = k
      · subst hj; exact q
      · exact hno j g1 (by omega)
    have hbk : r_brk kd (((e : Nat) : Int)) (k + 1) ↔ p_brk kd e k := by
      unfold r_brk p_brk
      rw [Nat.add_sub_cancel]
      constructor
      · rintro (q | q | q | q | q | q)
        · exact Or.inl (by omega)
        · exact Or.inr (Or.inr (Or.inl q))
        · exact Or.inr (Or.inr (Or.inr (Or.inl q)))
        · exact Or.inr (Or.inr (Or.inr (Or.inr (Or.inl q))))
        · exact Or.inr (Or.inr (Or.inr (Or.inr (Or.inr q))))
        · exact Or.inr (Or.inl q)
      · rintro (q | q | q | q | q | q)
        · exact Or.inl (by omega)
        · exact Or.inr (Or.inr (Or.inr (Or.inr (Or.inr q))))
        · exact Or.inr (Or.inl q)
        · exact Or.inr (Or.inr (Or.inl q))
        · exact Or.inr (Or.inr (Or.inr (Or.inl q)))
        · exact Or.inr (Or.inr (Or.inr (Or.inr (Or.inl q))))
    unfold p_lx
    rw [r_bk_s, if_pos (show k < e by omega), ← e_R_at hk, hkd, hroom, he, hmk]
    by_cases hb : p_brk kd e k
    · rw [if_pos (hbk.mpr hb)]
      obtain ⟨fi', hfi'⟩ : ∃ z, z = (if fi < 0 then ((k + 1 : Nat) : Int) else fi) := ⟨_, rfl⟩
      obtain ⟨fo', hfo'⟩ : ∃ z, z = (if p_endb kd wd t (e_R kd wd t a (0, x0, 0, 0) (k + 1 - a)) k ≤ room then ((k + 1 : Nat) : Int) else fo) := ⟨_, rfl⟩
      rw [← hfi', ← hfo']
      have hnb : p_nb kd wd t room a e k (e_sel a fi fo) (e_R kd wd t a (0, x0, 0, 0) (k + 1 - a)) = e_sel a fi' fo' := by
        unfold p_nb e_sel
        rw [hfi', hfo']
        by_cases hfit : p_endb kd wd t (e_R kd wd t a (0, x0, 0, 0) (k + 1 - a)) k ≤ room
        · rw [if_pos ⟨hb, Or.inr hfit⟩, if_pos hfit, if_pos (by omega)]
          omega
        · rw [if_neg hfit]
          by_cases hfo : 0 ≤ fo
          · have := h3 hfo
            rw [if_pos hfo, if_pos hfo, if_neg (fun q => q.2.elim (fun g => by omega) hfit)]
          · rw [if_neg hfo, if_neg hfo]
            by_cases hfi : 0 ≤ fi
            · have := h2 hfi
              rw [if_pos hfi, if_neg (fun q => q.2.elim (fun g => by omega) hfit), if_neg (show ¬ fi < 0 by omega), if_pos hfi]
            · rw [if_neg hfi, if_pos ⟨hb, Or.inl rfl⟩, if_pos (show fi < 0 by omega), if_pos (by omega)]
              omega
      have g1 : 0 ≤ fi' ∧ ((a : Nat) : Int) < fi' := by
        rw [hfi']
        split
        · omega
        · exact ⟨by omega, h2 (by omega)⟩
      have g3 : 0 ≤ fo' → ((a : Nat) : Int) < fo' := by
        rw [hfo']
        split
        · intro _; omega
        · exact h3
      rw [hnb]
      by_cases hend : p_endl kd k
      · rw [if_pos (Or.inr hend), if_pos hend]
      · rw [if_neg hend]
        by_cases hst : a < e_sel a fi' fo' ∧ room < p_least t (e_R kd wd t a (0, x0, 0, 0) (k + 1 - a))
        · rw [if_pos (Or.inl hst)]
          obtain ⟨q1, q2⟩ := e_none hkd hroom hw hm f (k + 1) fi' fo' (r_m N q n a (k + 1) M).2 (by omega) (by omega) (hno' hend) g1.1 hst.2
          rw [q1, q2]
        · rw [if_neg (fun q => q.elim hst hend)]
          exact ih (k + 1) fi' fo' _ (by omega) (by omega) (hno' hend) (fun _ => g1.1) (fun _ => g1.2) g3
    · rw [if_neg (fun q => hb (hbk.mp q))]
      have hend : ¬ p_endl kd k := fun q => hb (Or.inr (Or.inr (Or.inr (Or.inr (Or.inr q)))))
      have hnb : p_nb kd wd t room a e k (e_sel a fi fo) (e_R kd wd t a (0, x0, 0, 0) (k + 1 - a)) = e_sel a fi fo := by
        unfold p_nb
        exact if_neg (fun q => hb q.1)
      rw [hnb, if_neg hend]
      by_cases hst : a < e_sel a fi fo ∧ room < p_least t (e_R kd wd t a (0, x0, 0, 0) (k + 1 - a))
      · rw [if_pos (Or.inl hst)]
        have hfi : 0 ≤ fi := by
          have h4 := hst.1
          unfold e_sel at h4
          split at h4
          · exact h1 ‹_›
          · split at h4
            · assumption
            · omega
        obtain ⟨q1, q2⟩ := e_none hkd hroom hw hm f (k + 1) fi fo M (by omega) (by omega) (hno' hend) hfi hst.2
        rw [q1, q2]
      · rw [if_neg (fun q => q.elim hst hend)]
        exact ih (k + 1) fi fo M (by omega) (by omega) (hno' hend) h1 h2 h3
