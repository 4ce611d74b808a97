/-! A line laid: the class and the reference write the same. My own. -/
theorem mset_out {M : Nat → Nat → Int} {k x r j : Nat} {v : Int} (h : j ≠ x) : mset M k x v r j = M r j := by
  by_cases hr : r = k
  · subst hr; rw [mset_at, va_up_ne _ _ h]
  · rw [mset_ne hr]
theorem p_own_cong {sp sp' : Nat → Int} {p : Int} {n : Nat} (h : ∀ j, j < n → sp j = sp' j) : ∀ f o, o + f ≤ n → p_own sp p f o = p_own sp' p f o := by
  intro f
  induction f with
  | zero => intro o _; rfl
  | succ f ih =>
    intro o ho
    unfold p_own
    rw [h o (by omega), ih (o + 1) (by omega)]
theorem p_tab_cong {n : Nat} {sp sp' sk sk' : Nat → Int} {p w st : Int} (h : ∀ j, j < n → sp j = sp' j) (h2 : ∀ j, j < n → sk j = sk' j) : p_tab n sp sk p w st = p_tab n sp' sk' p w st := by
  have ho := p_own_cong (p := p) h n 0 (by omega)
  have hl : p_last n sp = p_last n sp' := by
    unfold p_last
    split
    · exact h _ (by omega)
    · rfl
  have hk : p_knd n sp sk p = p_knd n sp' sk' p := by
    unfold p_knd
    rw [ho]
    split
    · exact h2 _ ‹_›
    · rfl
  have ha : p_at n sp p st = p_at n sp' p st := by
    unfold p_at
    rw [ho, hl]
    split
    · exact h _ ‹_›
    · rfl
  unfold p_tab
  rw [hk, ha]
/-- two stops' tables are the same to a tab -/
def e_teq (t t' : p_T) : Prop := ∀ x w, p_tab t.1 t.2.1 t.2.2.1 x w t.2.2.2 = p_tab t'.1 t'.2.1 t'.2.2.1 x w t'.2.2.2
theorem q_wide_cong {kd wd : Nat → Int} {t t' : p_T} {so b k : Nat} {x : Int} (h : e_teq t t') : q_wide kd wd t so b k x = q_wide kd wd t' so b k x := by
  unfold q_wide
  rw [h]
theorem r_ms_cong {kd wd : Nat → Int} {t t' : p_T} {so b : Nat} (h : e_teq t t') : ∀ f k x e M, r_ms kd wd t so b f k x e M = r_ms kd wd t' so b f k x e M := by
  intro f
  induction f with
  | zero => intro k x e M; rfl
  | succ f ih =>
    intro k x e M
    unfold r_ms
    rw [q_wide_cong h, ih]
theorem r_ms_end {kd wd : Nat → Int} {t : p_T} {so b a : Nat} {x0 : Int} (hso : so ≤ b) (hin : ∀ k, a ≤ k → k < so → ¬ p_endl kd k) : ∀ f i e M, a + i + f = b → (r_ms kd wd t so b f (a + i) (e_X kd wd t so b a x0 i) e M).1 = if a + i < so then e_X kd wd t so b a x0 (so - a) else e := by
  intro f
  induction f with
  | zero =>
    intro i e M hf
    rw [if_neg (by omega)]
    rfl
  | succ f ih =>
    intro i e M hf
    have := ih (i + 1) (if a + i < so ∧ ¬ p_endl kd (a + i) then e_X kd wd t so b a x0 (i + 1) else e) (mset (mset M 9 (a + i) (e_X kd wd t so b a x0 i)) 10 (a + i) (q_wide kd wd t so b (a + i) (e_X kd wd t so b a x0 i))) (by omega)
    refine this.trans ?_
    by_cases h : a + i < so
    · rw [if_pos h]
      by_cases h2 : a + (i + 1) < so
      · rw [if_pos h2]
      · rw [if_neg h2, if_pos ⟨h, hin _ (by omega) h⟩, show so - a = i + 1 by omega]
    · rw [if_neg h, if_neg (by omega), if_neg (fun q => h q.1)]
theorem r_ms_lt (kd wd : Nat → Int) (t : p_T) (so b : Nat) : ∀ f k x e M r j, j < k → (r_ms kd wd t so b f k x e M).2 r j = M r j := by
  intro f
  induction f with
  | zero => intro k x e M r j h; rfl
  | succ f ih =>
    intro k x e M r j h
    refine (ih _ _ _ _ r j (by omega)).trans ?_
    rw [mset_out (by omega), mset_out (by omega)]
theorem r_ms_ge (kd wd : Nat → Int) (t : p_T) (so b : Nat) : ∀ f k x e M r j, k + f ≤ j → (r_ms kd wd t so b f k x e M).2 r j = M r j := by
  intro f
  induction f with
  | zero => intro k x e M r j h; rfl
  | succ f ih =>
    intro k x e M r j h
    refine (ih _ _ _ _ r j (by omega)).trans ?_
    rw [mset_out (by omega), mset_out (by omega)]
theorem r_ms_at {kd wd : Nat → Int} {t : p_T} {so b a : Nat} {x0 : Int} : ∀ f i e M j, a + i ≤ j → j < a + i + f → (r_ms kd wd t so b f (a + i) (e_X kd wd t so b a x0 i) e M).2 9 j = e_X kd wd t so b a x0 (j - a) ∧ (r_ms kd wd t so b f (a + i) (e_X kd wd t so b a x0 i) e M).2 10 j = q_wide kd wd t so b j (e_X kd wd t so b a x0 (j - a)) := by
  intro f
  induction f with
  | zero => intro i e M j h1 h2; omega
  | succ f ih =>
    intro i e M j h1 h2
    have hs : r_ms kd wd t so b (f + 1) (a + i) (e_X kd wd t so b a x0 i) e M = r_ms kd wd t so b f (a + (i + 1)) (e_X kd wd t so b a x0 (i + 1)) (if a + i < so ∧ ¬ p_endl kd (a + i) then e_X kd wd t so b a x0 (i + 1) else e) (mset (mset M 9 (a + i) (e_X kd wd t so b a x0 i)) 10 (a + i) (q_wide kd wd t so b (a + i) (e_X kd wd t so b a x0 i))) := rfl
    rw [hs]
    by_cases hj : j = a + i
    · rw [r_ms_lt _ _ _ _ _ _ _ _ _ _ _ _ (by omega), r_ms_lt _ _ _ _ _ _ _ _ _ _ _ _ (by omega)]
      subst hj
      rw [Nat.add_sub_cancel_left, mset_same, mset_ne (by omega), mset_same]
      exact ⟨rfl, rfl⟩
    · exact ih (i + 1) _ _ j (by omega) (by omega)
theorem q_ps_ge (kd wd : Nat → Int) (t : p_T) (ln : Int) (so b : Nat) : ∀ f k x M r j, k + f ≤ j → q_ps kd wd t ln so b f k x M r j = M r j := by
  intro f
  induction f with
  | zero => intro k x M r j h; rfl
  | succ f ih =>
    intro k x M r j h
    refine (ih _ _ _ r j (by omega)).trans ?_
    rw [mset_out (by omega), mset_out (by omega), mset_out (by omega)]
theorem q_ps_at {kd wd : Nat → Int} {t : p_T} {ln : Int} {so b a : Nat} {x0 : Int} : ∀ f i M j, a + i ≤ j → j < a + i + f → q_ps kd wd t ln so b f (a + i) (e_X kd wd t so b a x0 i) M 24 j = e_X kd wd t so b a x0 (j - a) ∧ q_ps kd wd t ln so b f (a + i) (e_X kd wd t so b a x0 i) M 25 j = q_wide kd wd t so b j (e_X kd wd t so b a x0 (j - a)) ∧ q_ps kd wd t ln so b f (a + i) (e_X kd wd t so b a x0 i) M 23 j = ln := by
  intro f
  induction f with
  | zero => intro i M j h1 h2; omega
  | succ f ih =>
    intro i M j h1 h2
    have hs : q_ps kd wd t ln so b (f + 1) (a + i) (e_X kd wd t so b a x0 i) M = q_ps kd wd t ln so b f (a + (i + 1)) (e_X kd wd t so b a x0 (i + 1)) (mset (mset (mset M 23 (a + i) ln) 24 (a + i) (e_X kd wd t so b a x0 i)) 25 (a + i) (q_wide kd wd t so b (a + i) (e_X kd wd t so b a x0 i))) := rfl
    rw [hs]
    by_cases hj : j = a + i
    · rw [q_ps_lt _ _ _ _ _ _ _ _ _ _ _ _ (by omega), q_ps_lt _ _ _ _ _ _ _ _ _ _ _ _ (by omega), q_ps_lt _ _ _ _ _ _ _ _ _ _ _ _ (by omega)]
      subst hj
      rw [Nat.add_sub_cancel_left, mset_same, mset_ne (by omega), mset_same, mset_ne (by omega), mset_ne (by omega), mset_same]
      exact ⟨rfl, rfl, rfl⟩
    · exact ih (i + 1) _ j (by omega) (by omega)
/-- the places are small -/
theorem e_Xb {kd wd : Nat → Int} {t : p_T} {so b a : Nat} {x0 : Int} (hx : 0 ≤ x0) (hw : ∀ j, 0 ≤ wd j ∧ wd j ≤ 4000) (h1 : 1 ≤ t.2.2.2 ∧ t.2.2.2 ≤ 30000) (hz : ∀ j, 0 ≤ t.2.1 j ∧ t.2.1 j ≤ 30000) : ∀ i, 0 ≤ e_X kd wd t so b a x0 i ∧ e_X kd wd t so b a x0 i ≤ x0 + 60000 * ((i : Nat) : Int) := by
  intro i
  induction i with
  | zero => unfold e_X; omega
  | succ i ih =>
    have := q_wideb (kd := kd) (t := t) (so := so) (b := b) (k := a + i) ih.1 hw h1 hz
    unfold e_X
    omega
theorem p_hgt_mh (ht : Nat → Int) (b : Nat) : ∀ f k h, k + f ≤ b → p_hgt ht b f k h = r_mh ht f k h := by
  intro f
  induction f with
  | zero => intro k h _; rfl
  | succ f ih =>
    intro k h hk
    unfold p_hgt r_mh
    rw [if_pos (by omega), ih (k + 1) _ (by omega)]
    congr 1
    split <;> omega
theorem q_gc_add (kd : Nat → Int) : ∀ f k g, q_gc kd f k g = g + q_gc kd f k 0 := by
  intro f
  induction f with
  | zero => intro k g; rfl
  | succ f ih =>
    intro k g
    unfold q_gc
    rw [ih (k + 1) (g + _), ih (k + 1) (0 + _)]
    omega
theorem q_gc_split (kd : Nat → Int) : ∀ f f2 k, q_gc kd (f + f2) k 0 = q_gc kd f k 0 + q_gc kd f2 (k + f) 0 := by
  intro f
  induction f with
  | zero => intro f2 k; rw [Nat.zero_add]; show _ = 0 + _; rw [Nat.zero_add]; rfl
  | succ f ih =>
    intro f2 k
    rw [show f + 1 + f2 = (f + f2) + 1 by omega]
    show q_gc kd (f + f2) (k + 1) (0 + if kd k = 1 then 1 else 0) = q_gc kd f (k + 1) (0 + if kd k = 1 then 1 else 0) + q_gc kd f2 (k + (f + 1)) 0
    rw [q_gc_add kd (f + f2), q_gc_add kd f, ih f2 (k + 1), show k + 1 + f = k + (f + 1) by omega]
    omega
theorem r_gc_split (kd : Nat → Int) (so : Nat) : ∀ f f2 k g, r_gc kd so (f + f2) k g = r_gc kd so f2 (k + f) (r_gc kd so f k g) := by
  intro f
  induction f with
  | zero => intro f2 k g; rw [Nat.zero_add]; rfl
  | succ f ih =>
    intro f2 k g
    rw [show f + 1 + f2 = (f + f2) + 1 by omega]
    show r_gc kd so (f + f2) (k + 1) _ = r_gc kd so f2 _ (r_gc kd so f (k + 1) _)
    rw [ih, show k + 1 + f = k + (f + 1) by omega]
theorem p_blt_sp (kd : Nat → Int) (a : Nat) : ∀ s, p_blt kd a s ≤ s ∧ (a ≤ s → a ≤ p_blt kd a s) ∧ (∀ k, p_blt kd a s ≤ k → k < s → ¬ kd k = 2) ∧ (a < p_blt kd a s → kd (p_blt kd a s - 1) = 2) := by
  intro s
  induction s with
  | zero => exact ⟨Nat.le_refl 0, fun h => h, fun k _ h => by omega, fun h => by unfold p_blt at h; omega⟩
  | succ s ih =>
    unfold p_blt
    split
    · rename_i h
      refine ⟨by omega, fun _ => ih.2.1 (by omega), fun k h1 h2 => ?_, ih.2.2.2⟩
      by_cases hk : k = s
      · subst hk; exact h.2
      · exact ih.2.2.1 k h1 (by omega)
    · rename_i h
      refine ⟨Nat.le_refl _, fun h => h, fun k h1 h2 => by omega, fun h1 => ?_⟩
      exact Decidable.byContradiction fun q => h ⟨h1, q⟩
theorem r_gc_no {kd : Nat → Int} {so : Nat} : ∀ f k g, (∀ j, k ≤ j → j < k + f → ¬ kd j = 2) → k + f ≤ so → r_gc kd so f k g = g + q_gc kd f k 0 := by
  intro f
  induction f with
  | zero => intro k g _ _; rfl
  | succ f ih =>
    intro k g h hs
    unfold r_gc q_gc
    rw [if_neg (h k (by omega) (by omega)), ih _ _ (fun j g1 g2 => h j (by omega) (by omega)) (by omega), q_gc_add kd f (k + 1) (0 + _)]
    by_cases h1 : kd k = 1
    · rw [if_pos ⟨h1, by omega⟩, if_pos h1]; omega
    · rw [if_neg (fun q => h1 q.1), if_neg h1]; omega
theorem r_gc_hi {kd : Nat → Int} {so : Nat} : ∀ f k g, (∀ j, k ≤ j → j < k + f → ¬ kd j = 2) → so ≤ k → r_gc kd so f k g = g := by
  intro f
  induction f with
  | zero => intro k g _ _; rfl
  | succ f ih =>
    intro k g h hs
    unfold r_gc
    rw [if_neg (h k (by omega) (by omega)), if_neg (by omega), ih _ _ (fun j g1 g2 => h j (by omega) (by omega)) (by omega)]
    rfl
/-- the gaps that the reference counts are those behind the last TAB -/
theorem r_gaps_eq {kd : Nat → Int} {a b so : Nat} (hab : a ≤ b) (hso : so ≤ b) (hT : p_blt kd a b ≤ so) : r_gc kd so (b - a) a 0 = q_gc kd (so - p_blt kd a b) (p_blt kd a b) 0 := by
  obtain ⟨h1, h2, h3, h4⟩ := p_blt_sp kd a b
  have h2 := h2 hab
  generalize p_blt kd a b = T at h1 h2 h3 h4 hT ⊢
  rw [show b - a = (T - a) + ((so - T) + (b - so)) by omega, r_gc_split, r_gc_split, show a + (T - a) = T by omega, show T + (so - T) = so by omega]
  have h0 : r_gc kd so (T - a) a 0 = 0 := by
    by_cases h : a < T
    · rw [show T - a = (T - a - 1) + 1 by omega, r_gc_split, show a + (T - a - 1) = T - 1 by omega]
      show (if kd (T - 1) = 2 then 0 else _) = 0
      rw [if_pos (h4 h)]
    · rw [show T - a = 0 by omega]; rfl
  rw [h0, r_gc_no (so - T) T 0 (fun j g1 g2 => h3 j (by omega) (by omega)) (by omega), r_gc_hi (b - so) so _ (fun j g1 g2 => h3 j (by omega) (by omega)) (Nat.le_refl _)]
  omega
