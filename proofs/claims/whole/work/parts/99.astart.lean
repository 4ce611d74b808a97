/-! What the constructors left is the class's world, and the reference's. My own. -/
abbrev pl_U : Type := (Nat → Nat) × Nat × Nat × (Nat × Nat × Nat) × Nat × Nat
def pl_ad (b : Nat) (u : pl_U) (k : Nat) : Nat := match k with
  | 0 => b
  | 1 => u.1 0
  | 2 => u.2.1
  | 3 => u.2.2.1
  | 4 => u.2.2.2.1.2.2
  | 5 => u.2.2.2.2.1
  | 6 => u.1 1
  | 7 => u.1 2
  | 8 => u.1 3
  | 9 => u.1 4
  | 10 => u.2.2.2.1.1
  | 11 => u.2.2.2.1.2.1
  | 12 => u.2.2.2.2.2
  | k + 13 => if k < 10 then u.2.2.2.1.1 + 1 + k else if k < 13 then u.2.2.2.1.2.1 + 1 + (k - 10) else if k < 16 then u.2.2.2.2.2 + 1 + (k - 13) else u.1 (5 + (k - 16))
/-- the place of a cell in the constructor's world -/
def pl_g (k : Nat) : Nat := if k = 0 then 0 else if k = 1 then 1 else if k = 2 then 126 else if k = 3 then 127 else if k = 4 then 143 else if k = 5 then 144 else if k < 10 then k - 4 else if k = 10 then 128 else if k = 11 then 139 else if k = 12 then 145 else if k < 23 then 129 + (k - 13) else if k < 26 then 140 + (k - 23) else if k < 29 then 146 + (k - 26) else 6 + (k - 29)
theorem pl_g_inj : ∀ i, i < 149 → ∀ j, j < 149 → pl_g i = pl_g j → i = j := by decide +kernel
theorem wPL_pl {cs : pg_C} {b : Nat} {u : pl_U} : (wPL cs b u)[0]? = some (b, .inr (0, [.ref (u.1 0), .ref u.2.1, .ref u.2.2.1, .ref u.2.2.2.2.1, .int (iI 0)])) := by
  unfold wPL
  exact z_left (z_left (z_left (z_left rfl)))
theorem wPL_tx {cs : pg_C} {b : Nat} {u : pl_U} {j : Nat} (h : j < 125) : (wPL cs b u)[1 + j]? = some (u.1 j, tx_ce u.1 cs 30 j) := by
  unfold wPL
  exact z_left (z_left (z_left (z_right (w1 := [_]) (wTX_at (by omega)))))
theorem wLN_len (cs : pg_C) (b t sh : Nat) (u : Nat × Nat × Nat) : (wLN cs b t sh u).length = 17 := by
  unfold wLN mu_w wRU
  simp
theorem wPL_sh {cs : pg_C} {b : Nat} {u : pl_U} : (wPL cs b u)[126]? = some (u.2.1, .inr (2, [.int (iI 10000), .int (iI 15000), .int (iI 700)])) := by
  unfold wPL
  have h := z_right (w1 := [((b, .inr (0, [.ref (u.1 0), .ref u.2.1, .ref u.2.2.1, .ref u.2.2.2.2.1, .int (iI 0)])) : Nat × va_E)] ++ wTX u.1 cs 30) (w2 := wSH u.2.1) (k := 0) rfl
  rw [List.length_append, wTX_len] at h
  exact z_left (z_left h)
theorem wPL_ln {cs : pg_C} {b : Nat} {u : pl_U} {j : Nat} {q : Nat × va_E} (h : (wLN cs u.2.2.1 (u.1 0) u.2.1 u.2.2.2.1)[j]? = some q) : (wPL cs b u)[127 + j]? = some q := by
  unfold wPL
  have h := z_right (w1 := ([((b, .inr (0, [.ref (u.1 0), .ref u.2.1, .ref u.2.2.1, .ref u.2.2.2.2.1, .int (iI 0)])) : Nat × va_E)] ++ wTX u.1 cs 30) ++ wSH u.2.1) h
  rw [List.length_append, List.length_append, wTX_len] at h
  exact z_left h
theorem wPL_pg {cs : pg_C} {b : Nat} {u : pl_U} {j : Nat} {q : Nat × va_E} (h : (wPG cs u.2.2.2.2.1 (u.1 0) u.2.1 u.2.2.1 u.2.2.2.2.2)[j]? = some q) : (wPL cs b u)[144 + j]? = some q := by
  unfold wPL
  have h := z_right (w1 := (([((b, .inr (0, [.ref (u.1 0), .ref u.2.1, .ref u.2.2.1, .ref u.2.2.2.2.1, .int (iI 0)])) : Nat × va_E)] ++ wTX u.1 cs 30) ++ wSH u.2.1) ++ wLN cs u.2.2.1 (u.1 0) u.2.1 u.2.2.2.1) h
  rw [List.length_append, List.length_append, List.length_append, wTX_len, wLN_len] at h
  exact h
theorem mu_w_row {h : Nat} {cA cI : ClassId} {n m i : Nat} (hi : i < n) : (mu_w h cA cI n m)[1 + i]? = some (h + 1 + i, .inl (cI, m, .inl (fun _ => iI 0))) := by
  unfold mu_w
  rw [Nat.add_comm 1 i, List.getElem?_cons_succ]
  simp [hi]
theorem e_M0_0 {k : Nat} (h : k ≠ 2) : (fun j => iI (e_M0 k j)) = (fun _ => iI 0) := by
  funext j
  rw [show e_M0 k j = 0 from if_neg h]
theorem mu_len (h : Nat) (cA cI : ClassId) (n m : Nat) : (mu_w h cA cI n m).length = n + 1 := by
  unfold mu_w
  simp
/-- two entries that are the same cell -/
def e_same (e1 e2 : va_E) : Prop := ∀ (D : va_G) (cl : List vw_C) (a : Nat) (H : Heap), va_at D cl (a, e1) H → va_at D cl (a, e2) H
theorem e_same_rf {e1 e2 : va_E} (h : e1 = e2) : e_same e1 e2 := fun D cl a H q => h ▸ q
theorem e_same_q {cA : ClassId} {n : Nat} {f g : Nat → Option Nat} (h : ∀ j, j < n → f j = g j) : e_same (.inl (cA, n, .inr (.inr (.inr (.inr f))))) (.inl (cA, n, .inr (.inr (.inr (.inr g))))) := fun D cl a H q => by
  have hc : vp_cell cA (n, .inr (.inr (.inr (.inr f)))) = vp_cell cA (n, .inr (.inr (.inr (.inr g)))) := by
    rw [vp_cell_q, vp_cell_q]
    unfold arrV
    congr 2
    funext j
    dsimp only
    rw [h j.val j.isLt]
  have q1 : H[a]? = some (vp_cell cA (n, .inr (.inr (.inr (.inr f))))) := q
  rw [hc] at q1
  exact q1
theorem pl_ad_far (b : Nat) (u : pl_U) (m : Nat) : pl_ad b u (29 + m) = u.1 (5 + m) := by
  rw [show 29 + m = (16 + m) + 13 by omega]
  show (if 16 + m < 10 then _ else if 16 + m < 13 then _ else if 16 + m < 16 then _ else u.1 (5 + (16 + m - 16))) = _
  rw [if_neg (by omega), if_neg (by omega), if_neg (by omega), show 16 + m - 16 = m by omega]
theorem pl_ad_t (b : Nat) (u : pl_U) {i : Nat} (h : i < 10) : pl_ad b u (13 + i) = u.2.2.2.1.1 + 1 + i := by
  rw [Nat.add_comm]
  exact if_pos h
theorem pl_ad_p (b : Nat) (u : pl_U) {i : Nat} (h : i < 3) : pl_ad b u (23 + i) = u.2.2.2.1.2.1 + 1 + i := by
  rw [show 23 + i = (10 + i) + 13 by omega]
  show (if 10 + i < 10 then _ else if 10 + i < 13 then _ else _) = _
  rw [if_neg (by omega), if_pos (by omega), show 10 + i - 10 = i by omega]
theorem pl_ad_g (b : Nat) (u : pl_U) {i : Nat} (h : i < 3) : pl_ad b u (26 + i) = u.2.2.2.2.2 + 1 + i := by
  rw [show 26 + i = (13 + i) + 13 by omega]
  show (if 13 + i < 10 then _ else if 13 + i < 13 then _ else if 13 + i < 16 then _ else _) = _
  rw [if_neg (by omega), if_neg (by omega), if_pos (by omega), show 13 + i - 13 = i by omega]
/-- every cell of the class's world is one of the constructor's -/
theorem pl_hg {cs : pg_C} {b : Nat} {u : pl_U} : ∀ k, k < 149 → ∃ en, (wPL cs b u)[pl_g k]? = some (pl_ad b u k, en) ∧ e_same en (pg_ce (pl_ad b u) cs none k (e_M0 k)) := by
  intro k hk
  have lo : ∀ i, i < 4 → (wLN cs u.2.2.1 (u.1 0) u.2.1 u.2.2.2.1)[12 + i]? = (mu_w u.2.2.2.1.2.1 cs.2.1 cs.1 3 600)[i]? := fun i hi => by
    have hlt : i < (mu_w u.2.2.2.1.2.1 cs.2.1 cs.1 3 600).length := by rw [mu_len]; exact hi
    have h := z_right (w1 := [((u.2.2.1, .inr (3, [.ref u.2.2.2.1.1, .ref u.2.2.2.1.2.1, .int (iI 0), .ref (u.1 0), .ref u.2.1, .ref u.2.2.2.1.2.2])) : Nat × va_E)] ++ mu_w u.2.2.2.1.1 cs.2.1 cs.1 10 630) (w2 := mu_w u.2.2.2.1.2.1 cs.2.1 cs.1 3 600) (k := i) (List.getElem?_eq_getElem hlt)
    rw [List.length_append, mu_len] at h
    rw [List.getElem?_eq_getElem hlt]
    exact z_left (w2 := wRU u.2.2.2.1.2.2 (u.1 0) u.2.1) h
  by_cases h13 : k < 13
  · have : k = 0 ∨ k = 1 ∨ k = 2 ∨ k = 3 ∨ k = 4 ∨ k = 5 ∨ k = 6 ∨ k = 7 ∨ k = 8 ∨ k = 9 ∨ k = 10 ∨ k = 11 ∨ k = 12 := by omega
    rcases this with rfl | rfl | rfl | rfl | rfl | rfl | rfl | rfl | rfl | rfl | rfl | rfl | rfl
    · exact ⟨_, wPL_pl, e_same_rf rfl⟩
    · exact ⟨_, wPL_tx (j := 0) (by omega), e_same_rf rfl⟩
    · exact ⟨_, wPL_sh, e_same_rf rfl⟩
    · exact ⟨_, wPL_ln (j := 0) rfl, e_same_rf rfl⟩
    · refine ⟨_, wPL_ln (j := 16) ?_, e_same_rf rfl⟩
      have h := z_right (w1 := ([((u.2.2.1, .inr (3, [.ref u.2.2.2.1.1, .ref u.2.2.2.1.2.1, .int (iI 0), .ref (u.1 0), .ref u.2.1, .ref u.2.2.2.1.2.2])) : Nat × va_E)] ++ mu_w u.2.2.2.1.1 cs.2.1 cs.1 10 630) ++ mu_w u.2.2.2.1.2.1 cs.2.1 cs.1 3 600) (w2 := wRU u.2.2.2.1.2.2 (u.1 0) u.2.1) (k := 0) rfl
      rw [List.length_append, List.length_append, mu_len, mu_len] at h
      exact h
    · exact ⟨_, wPL_pg (j := 0) rfl, e_same_rf rfl⟩
    · refine ⟨_, wPL_tx (j := 1) (by omega), e_same_q (fun j hj => ?_)⟩
      rw [if_pos hj]
      show some (u.1 (5 + 4 * j)) = some (pl_ad b u (29 + 4 * j))
      rw [pl_ad_far]
    · exact ⟨_, wPL_tx (j := 2) (by omega), e_same_rf rfl⟩
    · exact ⟨_, wPL_tx (j := 3) (by omega), e_same_rf rfl⟩
    · exact ⟨_, wPL_tx (j := 4) (by omega), e_same_rf rfl⟩
    · refine ⟨_, wPL_ln (j := 1) rfl, e_same_q (fun j hj => ?_)⟩
      show some (u.2.2.2.1.1 + 1 + j) = some (pl_ad b u (13 + j))
      rw [pl_ad_t b u hj]
    · refine ⟨_, wPL_ln (j := 12) ((lo 0 (by omega)).trans rfl), e_same_q (fun j hj => ?_)⟩
      show some (u.2.2.2.1.2.1 + 1 + j) = some (pl_ad b u (23 + j))
      rw [pl_ad_p b u hj]
    · refine ⟨_, wPL_pg (j := 1) rfl, e_same_q (fun j hj => ?_)⟩
      show some (u.2.2.2.2.2 + 1 + j) = some (pl_ad b u (26 + j))
      rw [pl_ad_g b u hj]
  · by_cases h23 : k < 23
    · obtain ⟨i, rfl⟩ : ∃ i, k = 13 + i := ⟨k - 13, by omega⟩
      have hg : pl_g (13 + i) = 127 + (1 + (1 + i)) := by
        unfold pl_g
        rw [if_neg (by omega), if_neg (by omega), if_neg (by omega), if_neg (by omega), if_neg (by omega), if_neg (by omega), if_neg (by omega), if_neg (by omega), if_neg (by omega), if_neg (by omega), if_pos h23]
        omega
      rw [hg, pl_ad_t b u (by omega), pg_tld _ _ _ (show i < 10 by omega), e_M0_0 (by omega)]
      refine ⟨_, wPL_ln ?_, e_same_rf rfl⟩
      exact z_left (z_left (z_right (w1 := [_]) (mu_w_row (by omega))))
    · by_cases h26 : k < 26
      · obtain ⟨i, rfl⟩ : ∃ i, k = 23 + i := ⟨k - 23, by omega⟩
        have hg : pl_g (23 + i) = 127 + (12 + (1 + i)) := by
          unfold pl_g
          rw [if_neg (by omega), if_neg (by omega), if_neg (by omega), if_neg (by omega), if_neg (by omega), if_neg (by omega), if_neg (by omega), if_neg (by omega), if_neg (by omega), if_neg (by omega), if_neg (by omega), if_pos h26]
          omega
        rw [hg, pl_ad_p b u (by omega), pg_plx _ _ _ (show i < 3 by omega), e_M0_0 (by omega)]
        exact ⟨_, wPL_ln ((lo (1 + i) (by omega)).trans (mu_w_row (by omega))), e_same_rf rfl⟩
      · by_cases h29 : k < 29
        · obtain ⟨i, rfl⟩ : ∃ i, k = 26 + i := ⟨k - 26, by omega⟩
          have hg : pl_g (26 + i) = 144 + (1 + (1 + i)) := by
            unfold pl_g
            rw [if_neg (by omega), if_neg (by omega), if_neg (by omega), if_neg (by omega), if_neg (by omega), if_neg (by omega), if_neg (by omega), if_neg (by omega), if_neg (by omega), if_neg (by omega), if_neg (by omega), if_neg (by omega), if_pos h29]
            omega
          rw [hg, pl_ad_g b u (by omega), pg_ptd _ _ _ (show i < 3 by omega), e_M0_0 (by omega)]
          refine ⟨_, wPL_pg ?_, e_same_rf rfl⟩
          exact z_right (w1 := [_]) (mu_w_row (by omega))
        · obtain ⟨i, rfl⟩ : ∃ i, k = 29 + i := ⟨k - 29, by omega⟩
          have hg : pl_g (29 + i) = 1 + (5 + i) := by
            unfold pl_g
            rw [if_neg (by omega), if_neg (by omega), if_neg (by omega), if_neg (by omega), if_neg (by omega), if_neg (by omega), if_neg (by omega), if_neg (by omega), if_neg (by omega), if_neg (by omega), if_neg (by omega), if_neg (by omega), if_neg (by omega)]
            omega
          rw [hg, pl_ad_far, pg_far]
          refine ⟨_, wPL_tx (j := 5 + i) (by omega), e_same_rf ?_⟩
          rw [tx_ce_far]
          have m0 : ∀ j, e_M0 (29 + i) j = 0 := fun j => if_neg (by omega)
          unfold pg_p
          by_cases h4 : i % 4 = 0
          · rw [if_pos h4, if_pos h4, m0, m0, m0, show i + 30 = 29 + (i + 1) by omega, show i + 31 = 29 + (i + 2) by omega, show i + 32 = 29 + (i + 3) by omega, pl_ad_far, pl_ad_far, pl_ad_far, show 5 + (i + 1) = i + 6 by omega, show 5 + (i + 2) = i + 7 by omega, show 5 + (i + 3) = i + 8 by omega]
          · rw [if_neg h4, if_neg h4]
            by_cases h5 : i % 4 = 1
            · rw [if_pos h5, if_pos h5]
              unfold pg_ia e_ia
              rw [e_M0_0 (by omega)]
            · rw [if_neg h5, if_neg h5]
              unfold pg_ia e_ia
              rw [e_M0_0 (by omega)]
theorem pl_P {D : va_G} {cs : pg_C} {b : Nat} {u : pl_U} {H : Heap} (h : va_P D vwCl (wPL cs b u) H) : va_P D vwCl (pg_w (pl_ad b u) cs none e_M0) H := fun k q hk => by
  have hlt : k < 149 := by
    have := (List.getElem?_eq_some_iff.mp hk).1
    unfold pg_w at this
    rwa [wl_len] at this
  unfold pg_w at hk
  rw [wl_at hlt] at hk
  cases hk
  obtain ⟨en, h1, h2⟩ := pl_hg (cs := cs) (b := b) (u := u) k hlt
  exact h2 D vwCl _ H (h _ _ h1)
theorem pl_D {A : Nat → Prop} {cs : pg_C} {b : Nat} {u : pl_U} (h : va_D A (wPL cs b u)) : va_D A (pg_w (pl_ad b u) cs none e_M0) := by
  have at' : ∀ k q, (pg_w (pl_ad b u) cs none e_M0)[k]? = some q → k < 149 ∧ q.1 = pl_ad b u k := fun k q hk => pg_at0 hk
  refine ⟨fun i j p q hi hj e => ?_, fun k q hk => ?_⟩
  · obtain ⟨i1, i2⟩ := at' i p hi
    obtain ⟨j1, j2⟩ := at' j q hj
    obtain ⟨en, h1, -⟩ := pl_hg (cs := cs) (b := b) (u := u) i i1
    obtain ⟨en', h2, -⟩ := pl_hg (cs := cs) (b := b) (u := u) j j1
    exact pl_g_inj i i1 j j1 (h.1 _ _ _ _ h1 h2 (i2.symm.trans (e.trans j2)))
  · obtain ⟨i1, i2⟩ := at' k q hk
    obtain ⟨en, h1, -⟩ := pl_hg (cs := cs) (b := b) (u := u) k i1
    rw [i2]
    exact h.2 _ _ h1
theorem pl_dj {cs : pg_C} {b : Nat} {u : pl_U} {w2 : va_W} (h : dj (wPL cs b u) w2) : dj (pg_w (pl_ad b u) cs none e_M0) w2 := fun i j p q h1 h2 e => by
  obtain ⟨i1, i2⟩ := pg_at0 h1
  obtain ⟨en, h3, -⟩ := pl_hg (cs := cs) (b := b) (u := u) i i1
  exact h _ j _ q h3 h2 (i2 ▸ e)
/-! The reference's. -/
def mo_ad (b : Nat) (u : Nat → Nat) : Nat → Nat := fun k => if k = 0 then b else u k
theorem mo_hg {cs : pg_C} {b : Nat} {u : Nat → Nat} : ∀ (k : Nat) (q : Nat × va_E), (mo_w (mo_ad b u) cs.1 e_N0)[k]? = some q → (wMO cs b u)[k]? = some q := fun k q hk => by
  have hlt : k < 25 := by
    have := (List.getElem?_eq_some_iff.mp hk).1
    unfold mo_w at this
    rwa [wl_len] at this
  unfold mo_w at hk
  rw [wl_at hlt] at hk
  rw [← hk]
  have : k = 0 ∨ k = 1 ∨ k = 2 ∨ k = 3 ∨ k = 4 ∨ k = 5 ∨ k = 6 ∨ k = 7 ∨ k = 8 ∨ k = 9 ∨ k = 10 ∨ k = 11 ∨ k = 12 ∨ k = 13 ∨ k = 14 ∨ k = 15 ∨ k = 16 ∨ k = 17 ∨ k = 18 ∨ k = 19 ∨ k = 20 ∨ k = 21 ∨ k = 22 ∨ k = 23 ∨ k = 24 := by omega
  rcases this with rfl | rfl | rfl | rfl | rfl | rfl | rfl | rfl | rfl | rfl | rfl | rfl | rfl | rfl | rfl | rfl | rfl | rfl | rfl | rfl | rfl | rfl | rfl | rfl | rfl <;> rfl
theorem mo_P {D : va_G} {cs : pg_C} {b : Nat} {u : Nat → Nat} {H : Heap} (h : va_P D vwCl (wMO cs b u) H) : va_P D vwCl (mo_w (mo_ad b u) cs.1 e_N0) H := fun k q hk => h k q (mo_hg k q hk)
theorem mo_D {A : Nat → Prop} {cs : pg_C} {b : Nat} {u : Nat → Nat} (h : va_D A (wMO cs b u)) : va_D A (mo_w (mo_ad b u) cs.1 e_N0) := ⟨fun i j p q h1 h2 e => h.1 i j p q (mo_hg i p h1) (mo_hg j q h2) e, fun k q hk => h.2 k q (mo_hg k q hk)⟩
theorem mo_djw {cs : pg_C} {b : Nat} {u : Nat → Nat} {w1 : va_W} (h : dj w1 (wMO cs b u)) : dj w1 (mo_w (mo_ad b u) cs.1 e_N0) := fun i j p q h1 h2 e => h i j p q h1 (mo_hg j q h2) e
