/-! Paragraphs laid in lines, as functions on the memory. My own. -/
def pn (M : Nat → Nat → Int) (i : Nat) : Nat := (M (29 + 4 * i) 3).toNat
def pf (M : Nat → Nat → Int) (i : Nat) : Nat := (M (29 + 4 * i) 4).toNat
def pb (M : Nat → Nat → Int) (i : Nat) : Nat := (M (29 + 4 * i) 5).toNat
def nlM (M : Nat → Nat → Int) : Nat := (M 3 2).toNat
/-- a paragraph is sound -/
def wfX (M : Nat → Nat → Int) (i : Nat) : Prop := wfP M i (pn M i) ∧ (0 ≤ M (29 + 4 * i) 4 ∧ M (29 + 4 * i) 4 ≤ M (29 + 4 * i) 5 ∧ M (29 + 4 * i) 5 ≤ 600) ∧ (0 ≤ M (30 + 4 * i) 0 ∧ M (30 + 4 * i) 0 ≤ 5000) ∧ (0 ≤ M (30 + 4 * i) 1 ∧ M (30 + 4 * i) 1 ≤ 5000) ∧ (-5000 ≤ M (30 + 4 * i) 2 ∧ M (30 + 4 * i) 2 ≤ 5000) ∧ (0 ≤ M (30 + 4 * i) 3 ∧ M (30 + 4 * i) 3 ≤ 5000) ∧ (0 ≤ M (30 + 4 * i) 4 ∧ M (30 + 4 * i) 4 ≤ 5000) ∧ (0 ≤ M (30 + 4 * i) 5 ∧ M (30 + 4 * i) 5 ≤ 3) ∧ (0 ≤ M (30 + 4 * i) 6 ∧ M (30 + 4 * i) 6 ≤ 1) ∧ (0 ≤ M (30 + 4 * i) 7 ∧ M (30 + 4 * i) 7 ≤ 1) ∧ (0 ≤ M (30 + 4 * i) 8 ∧ M (30 + 4 * i) 8 ≤ 1) ∧ (0 ≤ M (30 + 4 * i) 9 ∧ M (30 + 4 * i) 9 ≤ 1) ∧ (0 ≤ M (30 + 4 * i) 10 ∧ M (30 + 4 * i) 10 ≤ 2000)
/-- the text is the same: only Lines' number, the ruler and the rows of lines and signs may differ -/
def eqL (M N : Nat → Nat → Int) : Prop := ∀ j, j ≠ 3 → j ≠ 4 → (j < 13 ∨ 25 < j) → M j = N j
theorem eqL_rf {M : Nat → Nat → Int} : eqL M M := fun _ _ _ _ => rfl
theorem eqL_tr {M N K : Nat → Nat → Int} (h : eqL M N) (g : eqL N K) : eqL M K := fun j a b c => (h j a b c).trans (g j a b c)
theorem eqL_rset {M : Nat → Nat → Int} {r : p_R} : eqL (rset M r) M := fun _ _ h _ => rset_ne h
theorem eqL_eqb {M N : Nat → Nat → Int} (h : eqb 13 25 M N) : eqL M N := fun j _ _ c => h j c
theorem eqL_n {M : Nat → Nat → Int} {v : Int} : eqL (mset M 3 2 v) M := fun _ a _ _ => mset_ne a
theorem eqL_wfT {M N : Nat → Nat → Int} (h : eqL M N) (ht : wfT N) : wfT M := by
  unfold wfT at ht ⊢
  rw [h 7 (by omega) (by omega) (by omega), h 8 (by omega) (by omega) (by omega), h 9 (by omega) (by omega) (by omega), h 2 (by omega) (by omega) (by omega)]
  exact ht
theorem eqL_wfP {M N : Nat → Nat → Int} {i n : Nat} (h : eqL M N) (ht : wfP N i n) : wfP M i n := by
  unfold wfP at ht ⊢
  rw [h (29 + 4 * i) (by omega) (by omega) (by omega), h (31 + 4 * i) (by omega) (by omega) (by omega), h (32 + 4 * i) (by omega) (by omega) (by omega)]
  exact ht
theorem eqL_29 {M N : Nat → Nat → Int} (h : eqL M N) (i : Nat) : M (29 + 4 * i) = N (29 + 4 * i) := h _ (by omega) (by omega) (by omega)
theorem eqL_30 {M N : Nat → Nat → Int} (h : eqL M N) (i : Nat) : M (30 + 4 * i) = N (30 + 4 * i) := h _ (by omega) (by omega) (by omega)
theorem eqL_wfX {M N : Nat → Nat → Int} {i : Nat} (h : eqL M N) (ht : wfX N i) : wfX M i := by
  have h1 : pn M i = pn N i := by unfold pn; rw [eqL_29 h]
  unfold wfX at ht ⊢
  rw [h1, eqL_29 h, eqL_30 h]
  exact ⟨eqL_wfP h ht.1, ht.2⟩
theorem q_ad_eqL (M : Nat → Nat → Int) (i n a b bp nl : Nat) (x : Int) : eqL (q_ad M i n a b bp nl x) M := eqL_tr eqL_n (eqL_tr (eqL_eqb (q_al_eq _ _ _ _ _ _)) (eqL_eqb (q_ad1_eq _ _ _ _ _ _ _)))
theorem q_ad_n (M : Nat → Nat → Int) (i n a b bp nl : Nat) (x : Int) : q_ad M i n a b bp nl x 3 2 = ((nl : Nat) : Int) + 1 := mset_same _ _ _ _
theorem p_lx_le {kd wd : Nat → Int} {t : p_T} {room : Int} {first beh : Nat} : ∀ f k b r, b ≤ beh → (p_lx kd wd t room first beh f k b r).1 ≤ beh := by
  intro f
  induction f with
  | zero => intro k b r h; exact h
  | succ f ih =>
    intro k b r h
    unfold p_lx
    by_cases hk : k < beh
    · rw [if_pos hk]
      have hn : p_nb kd wd t room first beh k b (p_add kd wd t r k) ≤ beh := by
        unfold p_nb
        split <;> omega
      split
      · exact hn
      · exact ih _ _ _ hn
    · rw [if_neg hk]
      exact h
/-- where the class ends the line that begins with a, at x -/
def q_lx (M : Nat → Nat → Int) (i a : Nat) (x : Int) : Nat × p_R := p_lx (M 7) (M 8) (p_tabs M i (pn M i)) (M 2 0 - M (30 + 4 * i) 1) a (pb M i) (pb M i - a) a a (0, x, 0, 0)
def q_lines (i : Nat) : Nat → Nat → Int → (Nat → Nat → Int) → (Nat → Nat → Int)
  | 0, _, _, M => M
  | f + 1, a, x, M => if a < pb M i then q_lines i f (max (a + 1) (q_lx M i a x).1) (M (30 + 4 * i) 0) (q_ad (rset M (q_lx M i a x).2) i (pn M i) a (max (a + 1) (q_lx M i a x).1) (pb M i) (nlM M) x) else M
def q_x0 (M : Nat → Nat → Int) (i : Nat) : Int := max 0 (M (30 + 4 * i) 0 + M (30 + 4 * i) 2)
def q_par (M : Nat → Nat → Int) (i : Nat) : Nat → Nat → Int :=
  if pb M i ≤ pf M i then q_ad M i (pn M i) (pf M i) (pf M i) (pb M i) (nlM M) (q_x0 M i)
  else q_lines i (pb M i - pf M i) (pf M i) (q_x0 M i) M
theorem q_lines_eqL (i : Nat) : ∀ f a x M, eqL (q_lines i f a x M) M := by
  intro f
  induction f with
  | zero => intro a x M; exact eqL_rf
  | succ f ih =>
    intro a x M
    unfold q_lines
    split
    · exact eqL_tr (ih _ _ _) (eqL_tr (q_ad_eqL _ _ _ _ _ _ _ _) eqL_rset)
    · exact eqL_rf
theorem q_par_eqL (M : Nat → Nat → Int) (i : Nat) : eqL (q_par M i) M := by
  unfold q_par
  split
  · exact q_ad_eqL _ _ _ _ _ _ _ _
  · exact q_lines_eqL _ _ _ _ _
theorem q_lines_n2 (i : Nat) : ∀ f a x (M : Nat → Nat → Int), a ≤ pb M i → 0 ≤ M 3 2 ∧ M 3 2 ≤ ((a : Nat) : Int) + ((i : Nat) : Int) → 0 ≤ q_lines i f a x M 3 2 ∧ q_lines i f a x M 3 2 ≤ ((pb M i : Nat) : Int) + ((i : Nat) : Int) := by
  intro f
  induction f with
  | zero => intro a x M h1 h2; unfold q_lines; omega
  | succ f ih =>
    intro a x M h1 h2
    unfold q_lines
    split
    · obtain ⟨M2, e2⟩ : ∃ q_, q_ = q_ad (rset M (q_lx M i a x).2) i (pn M i) a (max (a + 1) (q_lx M i a x).1) (pb M i) (nlM M) x := ⟨_, rfl⟩
      rw [← e2]
      have hq : eqL M2 M := by rw [e2]; exact eqL_tr (q_ad_eqL _ _ _ _ _ _ _ _) eqL_rset
      have hp : pb M2 i = pb M i := by unfold pb; rw [eqL_29 hq]
      have hn : M2 3 2 = ((nlM M : Nat) : Int) + 1 := by rw [e2]; exact q_ad_n _ _ _ _ _ _ _ _
      have hnn : ((nlM M : Nat) : Int) = M 3 2 := by unfold nlM; omega
      have hle : (q_lx M i a x).1 ≤ pb M i := p_lx_le _ _ _ _ h1
      have := ih (max (a + 1) (q_lx M i a x).1) (M (30 + 4 * i) 0) M2 (by rw [hp]; omega) (by omega)
      rw [hp] at this
      exact this
    · omega
theorem q_par_n (M : Nat → Nat → Int) (i : Nat) (hw : wfX M i) (hn : 0 ≤ M 3 2 ∧ M 3 2 ≤ M (29 + 4 * i) 4 + ((i : Nat) : Int)) : 0 ≤ q_par M i 3 2 ∧ q_par M i 3 2 ≤ M (29 + 4 * i) 5 + ((i : Nat) : Int) + 1 := by
  have h1 := hw.2.1
  unfold q_par
  split
  · rw [q_ad_n]
    unfold nlM
    omega
  · have h := q_lines_n2 i (pb M i - pf M i) (pf M i) (q_x0 M i) M (by omega) (by unfold pf; omega)
    have : ((pb M i : Nat) : Int) = M (29 + 4 * i) 5 := by unfold pb; omega
    omega
def q_all : Nat → Nat → (Nat → Nat → Int) → (Nat → Nat → Int)
  | 0, _, M => M
  | f + 1, i, M => q_all f (i + 1) (q_par M i)
section ZW7
variable {p : Program} {l : Launch} {e : Env} {R : Room} {s : State} {m : MethodId} {args : Array Value} {below : List Frame} {meth : Method} {c : Code} {H : Heap} {locs : List Loc} {cells slots : Nat} {Q : State → Prop}
variable {cc : ByteArray} {pc : Nat} {ls : Array Slot} {rest : List Value} {D : va_G} {cl : List vw_C} {A : Nat → Prop} {tys : List (ClassId × FieldType)} {H0 : Heap}
variable {y : MethodName} {bytes : ByteArray} {maxL nL na index : Nat} {ret : Option FieldType} {ws : List Cond} {rm : Room} {Ts : List Cond} {own C : String} {As st0 : List Value} {w : va_W} {z : Int}
def rw_EX (D : va_G) (cl : List vw_C) (tys : List (ClassId × FieldType)) (w : va_W) (w' : Option Nat → va_W) (sz : Nat) (u : Option Nat) (t : State) : Prop := va_P D cl (w' u) t.heap ∧ va_K D cl tys t ∧ va_D (va_A w sz) (w' u)
/-- a call on an object that writes, its end known but for one reference: no answer -/
theorem rw_VvX {w' : Option Nat → va_W} {b : Nat} (S : CallFix p m c cc nL s args Ts own) (hM : Met l y ws rm (va_Pc (.ref b :: As) (rw_B D cl tys w H.size)) (va_Qv (fun _ : Option Nat => True) (rw_EX D cl tys w w' H.size) (va_A w H.size)) 0 0 (va_A w H.size)) (cw : CallW R s args own C index y bytes maxL ret ws rm 0 0 na) (hK : va_K D cl tys s) (hP : va_P D cl w H) (hD : va_D A w) (hS : va_S A H0 H locs) (hA : ∀ q, H0.size ≤ q → A q) (hrc : ∃ cell : Cell, H[b]? = some cell ∧ cell.vm.isStatics = false ∧ s.vm.findClass C = some cell.cls) (hn : As.length = na) (hsize : ls.size = nL) (hst : st0 = As.reverse ++ .ref b :: rest) (hW : (rest.map fun v => v.category).sum ≤ 8) (hdg : decode cc pc = .ok (.invokevirtual index, 3)) (hf : cells + 0 ≤ R.cells ∧ slots + 0 ≤ R.slots)
    (kk : ∀ (u : Option Nat) (H1 : Heap) (locs1 : List Loc), va_P D cl (w' u) H1 → va_D A (w' u) → va_S A H0 H1 locs1 → W p l e R s m args below meth c H1 locs1 cells slots Q (F0 m (pc + 3) ls rest)) : W p l e R s m args below meth c H locs cells slots Q (F0 m pc ls st0) := by
  have hF := rw_free hD hS hA
  refine va_callv (va_runV (As := As) (rest := rest) S hM cw ⟨rw_blind, hrc, fun U hU hW => ⟨rfl, by rw [hU], by rw [hU]; exact hP, va_K.moved hW.alike hK, hD.weaken (fun _ _ _ _ => trivial)⟩⟩ rfl hn hsize hst (lv_room hW) hdg hf) hS (fun q _ h => hF q h) hF (fun u t H1 locs1 ht hvm hw hB hz1 hk1 hS1 => ?_)
  obtain ⟨hP1, hK1, hD1⟩ := hB
  rw [ht] at hP1
  exact kk u H1 locs1 hP1 (hD1.weaken (fun _ q _ h => hF q.1 h)) hS1
end ZW7
