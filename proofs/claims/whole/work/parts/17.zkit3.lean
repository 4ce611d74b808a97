/-! The ruler in the memory, and the search for a line's end, as functions. My own. -/
theorem up_same (M : Nat → Nat → Int) (k : Nat) : va_up M k (M k) = M := by
  funext j
  unfold va_up
  split
  · rename_i h; rw [h]
  · rfl
theorem pg_rp (ad : Nat → Nat) (cs : pg_C) (r1 r2 : Option Nat) : ∀ j, j ≠ 4 → pg_ce ad cs r1 j = pg_ce ad cs r2 j := by
  intro j hj
  funext r
  unfold pg_ce
  split <;> first | rfl | exact absurd rfl hj
def rset (M : Nat → Nat → Int) (r : p_R) : Nat → Nat → Int := va_up M 4 (fun j => if j = 3 then r.1 else if j = 4 then r.2.1 else if j = 5 then r.2.2.1 else if j = 6 then r.2.2.2 else M 4 j)
theorem rset_ne {M : Nat → Nat → Int} {r : p_R} {k : Nat} (h : k ≠ 4) : rset M r k = M k := va_up_ne _ _ h
theorem rset_rul (M : Nat → Nat → Int) (r : p_R) : p_rul (rset M r) = r := by
  unfold p_rul rset
  simp [va_up]
theorem rset_tabs (M : Nat → Nat → Int) (r : p_R) (i n : Nat) : p_tabs (rset M r) i n = p_tabs M i n := by
  unfold p_tabs
  rw [rset_ne (by omega), rset_ne (by omega), rset_ne (by omega)]
theorem rset_wfP {M : Nat → Nat → Int} {r : p_R} {i n : Nat} (h : wfP M i n) : wfP (rset M r) i n := by
  unfold wfP at h ⊢
  rw [rset_ne (by omega), rset_ne (by omega), rset_ne (by omega)]
  exact h
theorem rset_wfT {M : Nat → Nat → Int} {r : p_R} (h : wfT M) : wfT (rset M r) := by
  unfold wfT at h ⊢
  rw [rset_ne (by omega), rset_ne (by omega), rset_ne (by omega), rset_ne (by omega)]
  exact h
theorem rset_rset (M : Nat → Nat → Int) (r q : p_R) : rset (rset M r) q = rset M q := by
  funext k j
  unfold rset va_up
  by_cases h : k = 4
  · simp only [h, if_pos]
    split <;> first | rfl | (split <;> first | rfl | (split <;> first | rfl | (split <;> rfl)))
  · simp only [h, if_false]
theorem m4_3 (M : Nat → Nat → Int) (x : Int) : mset M 4 3 x = rset M (x, M 4 4, M 4 5, M 4 6) := by
  funext a b
  by_cases h : a = 4
  · subst h
    by_cases h3 : b = 3
    · subst h3; simp [mset, rset, va_up]
    · by_cases h4 : b = 4
      · subst h4; simp [mset, rset, va_up]
      · by_cases h5 : b = 5
        · subst h5; simp [mset, rset, va_up]
        · by_cases h6 : b = 6
          · subst h6; simp [mset, rset, va_up]
          · simp [mset, rset, va_up, h3, h4, h5, h6]
  · simp [mset, rset, va_up, h]
theorem m4_4 (M : Nat → Nat → Int) (x : Int) : mset M 4 4 x = rset M (M 4 3, x, M 4 5, M 4 6) := by
  funext a b
  by_cases h : a = 4
  · subst h
    by_cases h3 : b = 3
    · subst h3; simp [mset, rset, va_up]
    · by_cases h4 : b = 4
      · subst h4; simp [mset, rset, va_up]
      · by_cases h5 : b = 5
        · subst h5; simp [mset, rset, va_up]
        · by_cases h6 : b = 6
          · subst h6; simp [mset, rset, va_up]
          · simp [mset, rset, va_up, h3, h4, h5, h6]
  · simp [mset, rset, va_up, h]
theorem m4_5 (M : Nat → Nat → Int) (x : Int) : mset M 4 5 x = rset M (M 4 3, M 4 4, x, M 4 6) := by
  funext a b
  by_cases h : a = 4
  · subst h
    by_cases h3 : b = 3
    · subst h3; simp [mset, rset, va_up]
    · by_cases h4 : b = 4
      · subst h4; simp [mset, rset, va_up]
      · by_cases h5 : b = 5
        · subst h5; simp [mset, rset, va_up]
        · by_cases h6 : b = 6
          · subst h6; simp [mset, rset, va_up]
          · simp [mset, rset, va_up, h3, h4, h5, h6]
  · simp [mset, rset, va_up, h]
theorem m4_6 (M : Nat → Nat → Int) (x : Int) : mset M 4 6 x = rset M (M 4 3, M 4 4, M 4 5, x) := by
  funext a b
  by_cases h : a = 4
  · subst h
    by_cases h3 : b = 3
    · subst h3; simp [mset, rset, va_up]
    · by_cases h4 : b = 4
      · subst h4; simp [mset, rset, va_up]
      · by_cases h5 : b = 5
        · subst h5; simp [mset, rset, va_up]
        · by_cases h6 : b = 6
          · subst h6; simp [mset, rset, va_up]
          · simp [mset, rset, va_up, h3, h4, h5, h6]
  · simp [mset, rset, va_up, h]
theorem rv3 (M : Nat → Nat → Int) (r : p_R) : rset M r 4 3 = r.1 := by simp [rset, va_up]
theorem rv4 (M : Nat → Nat → Int) (r : p_R) : rset M r 4 4 = r.2.1 := by simp [rset, va_up]
theorem rv5 (M : Nat → Nat → Int) (r : p_R) : rset M r 4 5 = r.2.2.1 := by simp [rset, va_up]
theorem rv6 (M : Nat → Nat → Int) (r : p_R) : rset M r 4 6 = r.2.2.2 := by simp [rset, va_up]
def wfr (r : p_R) (B : Int) : Prop := (r.1 = 0 ∨ r.1 = 1) ∧ 0 ≤ r.2.1 ∧ 0 ≤ r.2.2.2 ∧ r.2.2.2 ≤ r.2.2.1 ∧ r.2.1 + r.2.2.1 ≤ B
theorem rset_wfR {M : Nat → Nat → Int} {r : p_R} {B : Int} (h : wfr r B) (hB : B ≤ 40000000) : wfR (rset M r) := by
  have e1 : rset M r 4 3 = r.1 := by simp [rset, va_up]
  have e2 : rset M r 4 4 = r.2.1 := by simp [rset, va_up]
  have e3 : rset M r 4 5 = r.2.2.1 := by simp [rset, va_up]
  have e4 : rset M r 4 6 = r.2.2.2 := by simp [rset, va_up]
  unfold wfR
  rw [e1, e2, e3, e4]
  obtain ⟨h1, h2, h3, h4, h5⟩ := h
  exact ⟨h1, by omega, by omega, by omega⟩
theorem p_tabb {n : Nat} {sp sk : Nat → Int} {p w st : Int} (hp : 0 ≤ p) (hw : 0 ≤ w) (h1 : 1 ≤ st ∧ st ≤ 30000) (hz : ∀ j, 0 ≤ sp j ∧ sp j ≤ 30000) : 0 ≤ p_tab n sp sk p w st ∧ p_tab n sp sk p w st ≤ 60000 := by
  have hl : 0 ≤ p_last n sp ∧ p_last n sp ≤ 30000 := by
    unfold p_last
    split
    · exact hz _
    · omega
  have ha : p_at n sp p st - p ≤ 60000 := by
    unfold p_at
    split
    · have := hz (p_own sp p n 0); omega
    · have := p_stepb (f := max p (p_last n sp)) (st := st) (by omega) (by omega); omega
  have h2 : 0 ≤ w.tdiv 2 := by rw [Int.tdiv_eq_ediv_of_nonneg hw]; omega
  unfold p_tab
  constructor
  · omega
  · split
    · omega
    · split <;> omega
theorem p_widb {kd wd : Nat → Int} {i : Nat} {la : Bool} (h : 0 ≤ wd i ∧ wd i ≤ 4000) : 0 ≤ p_wid kd wd i la ∧ p_wid kd wd i la ≤ 4000 := by
  unfold p_wid
  split <;> omega
theorem p_add_wf {kd wd : Nat → Int} {t : p_T} {r : p_R} {B : Int} {i : Nat} (h : wfr r B) (hw : 0 ≤ wd i ∧ wd i ≤ 4000) (h1 : 1 ≤ t.2.2.2 ∧ t.2.2.2 ≤ 30000) (hz : ∀ j, 0 ≤ t.2.1 j ∧ t.2.1 j ≤ 30000) : wfr (p_add kd wd t r i) (B + 60000) := by
  obtain ⟨a1, a2, a3, a4, a5⟩ := h
  have ht := p_tabb (n := t.1) (sp := t.2.1) (sk := t.2.2.1) (p := r.2.1) (w := r.2.2.1) (st := t.2.2.2) a2 (by omega) h1 hz
  have hb := p_widb (kd := kd) (wd := wd) (i := i) (la := false) hw
  unfold p_add
  split
  · unfold wfr p_ew
    dsimp only
    refine ⟨Or.inr rfl, ?_, by omega, by omega, ?_⟩
    · split <;> omega
    · split <;> omega
  · unfold wfr
    dsimp only
    refine ⟨a1, a2, ?_, ?_, by omega⟩
    · split <;> omega
    · split <;> omega
theorem p_ewb {t : p_T} {r : p_R} {B w : Int} (h : wfr r B) (hw : 0 ≤ w) (h1 : 1 ≤ t.2.2.2 ∧ t.2.2.2 ≤ 30000) (hz : ∀ j, 0 ≤ t.2.1 j ∧ t.2.1 j ≤ 30000) : 0 ≤ p_ew t r w ∧ p_ew t r w ≤ r.2.1 + 60000 + w := by
  obtain ⟨a1, a2, a3, a4, a5⟩ := h
  have ht := p_tabb (n := t.1) (sp := t.2.1) (sk := t.2.2.1) (p := r.2.1) (w := w) (st := t.2.2.2) a2 hw h1 hz
  unfold p_ew
  split <;> omega
theorem p_leastb {t : p_T} {r : p_R} {B : Int} (h : wfr r B) (h1 : 1 ≤ t.2.2.2 ∧ t.2.2.2 ≤ 30000) (hz : ∀ j, 0 ≤ t.2.1 j ∧ t.2.1 j ≤ 30000) : 0 ≤ p_least t r ∧ p_least t r ≤ B + 60000 := by
  have := p_ewb (w := r.2.2.2) h h.2.2.1 h1 hz
  unfold p_least
  obtain ⟨a1, a2, a3, a4, a5⟩ := h
  omega
theorem p_endbb {kd wd : Nat → Int} {k : Nat} {t : p_T} {r : p_R} {B : Int} (h : wfr r B) (hw : 0 ≤ wd k ∧ wd k ≤ 4000) (h1 : 1 ≤ t.2.2.2 ∧ t.2.2.2 ≤ 30000) (hz : ∀ j, 0 ≤ t.2.1 j ∧ t.2.1 j ≤ 30000) : 0 ≤ p_endb kd wd t r k ∧ p_endb kd wd t r k ≤ B + 70000 := by
  have h2 := p_leastb h h1 hz
  obtain ⟨a1, a2, a3, a4, a5⟩ := id h
  have h3 := p_ewb (w := r.2.2.1 + wd k) h (by omega) h1 hz
  unfold p_endb
  split <;> omega
/-- the break behind a sign, if it is one and the line fits -/
def p_nb (kd wd : Nat → Int) (t : p_T) (room : Int) (first beh k b : Nat) (r : p_R) : Nat := if p_brk kd beh k ∧ (b = first ∨ p_endb kd wd t r k ≤ room) then k + 1 else b
/-- the class's search for where a line ends: fuel, the sign, the break so far, the ruler -/
def p_lx (kd wd : Nat → Int) (t : p_T) (room : Int) (first beh : Nat) : Nat → Nat → Nat → p_R → Nat × p_R
  | 0, _, b, r => (b, r)
  | f + 1, k, b, r =>
    if k < beh then
      if (first < p_nb kd wd t room first beh k b (p_add kd wd t r k) ∧ room < p_least t (p_add kd wd t r k)) ∨ p_endl kd k then (p_nb kd wd t room first beh k b (p_add kd wd t r k), p_add kd wd t r k)
      else p_lx kd wd t room first beh f (k + 1) (p_nb kd wd t room first beh k b (p_add kd wd t r k)) (p_add kd wd t r k)
    else (b, r)
section ZW3
variable {p : Program} {l : Launch} {e : Env} {R : Room} {s : State} {m : MethodId} {args : Array Value} {below : List Frame} {meth : Method} {c : Code} {H : Heap} {locs : List Loc} {cells slots : Nat} {Q : State → Prop}
variable {cc : ByteArray} {pc : Nat} {ls : Array Slot} {rest : List Value} {D : va_G} {cl : List vw_C} {A : Nat → Prop} {tys : List (ClassId × FieldType)} {H0 : Heap}
variable {y : MethodName} {bytes : ByteArray} {maxL nL na index : Nat} {ret : Option FieldType} {ws : List Cond} {rm : Room} {Ts : List Cond} {own C : String} {As st0 : List Value} {w w' : va_W} {z : Int}
/-- a static call that writes: no answer -/
theorem rw_Sv (S : CallFix p m c cc nL s args Ts own) (hM : Met l y ws rm (va_Pc As (rw_B D cl tys w H.size)) (va_Qv (fun _ : Unit => True) (rw_E D cl tys w w' H.size) (va_A w H.size)) 0 0 (va_A w H.size)) (cw : CallB R s args own index y bytes maxL ret ws rm 0 0 na ∧ (Cond.static y).before args s = true) (hK : va_K D cl tys s) (hP : va_P D cl w H) (hD : va_D A w) (hS : va_S A H0 H locs) (hA : ∀ q, H0.size ≤ q → A q) (hn : As.length = na) (hsize : ls.size = nL) (hst : st0 = As.reverse ++ rest) (hW : (rest.map fun v => v.category).sum ≤ 8) (hdg : decode cc pc = .ok (.invokestatic index, 3)) (hf : cells + 0 ≤ R.cells ∧ slots + 0 ≤ R.slots)
    (kk : ∀ (H1 : Heap) (locs1 : List Loc), va_P D cl w' H1 → va_D A w' → va_S A H0 H1 locs1 → W p l e R s m args below meth c H1 locs1 cells slots Q (F0 m (pc + 3) ls rest)) : W p l e R s m args below meth c H locs cells slots Q (F0 m pc ls st0) := by
  have hF := rw_free hD hS hA
  refine va_callv (va_runS (As := As) (rest := rest) S hM cw ⟨rw_blind, fun U hU hW => ⟨rfl, by rw [hU], by rw [hU]; exact hP, va_K.moved hW.alike hK, hD.weaken (fun _ _ _ _ => trivial)⟩⟩ rfl hn hsize hst (lv_room hW) hdg hf) hS (fun q _ h => hF q h) hF (fun u t H1 locs1 ht hvm hw hB hz1 hk1 hS1 => ?_)
  obtain ⟨hP1, hK1, hD1⟩ := hB
  rw [ht] at hP1
  exact kk H1 locs1 hP1 (hD1.weaken (fun _ q _ h => hF q.1 h)) hS1
end ZW3
