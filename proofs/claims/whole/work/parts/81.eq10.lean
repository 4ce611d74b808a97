theorem e_PT_of {M N : Nat → Nat → Int} {np ns nl k : Nat} (ht : tie M N np ns) (hl : e_LT M N nl k) (hw : wfl M) : e_PT M N nl := by
  obtain ⟨l1, l2, l3, l4, -⟩ := hl
  have r13 : ∀ j, j < nl → M 13 j = N 11 j := l3 0 (by omega) (by omega) (by omega)
  have r14 : ∀ j, j < nl → M 14 j = N 12 j := l3 1 (by omega) (by omega) (by omega)
  have r15 : ∀ j, j < nl → M 15 j = N 13 j := l3 2 (by omega) (by omega) (by omega)
  have r18 : ∀ j, j < nl → M 18 j = N 16 j := l3 5 (by omega) (by omega) (by omega)
  have hq : ∀ j, j < nl → lq M j = rq N j := fun j hj => by unfold lq rq; rw [r13 j hj]
  have hsh : ∀ i j, i < nl → j < 11 → M (30 + 4 * lq M i) j = N 2 (11 * rq N i + j) := fun i j hi hj => by
    rw [(ht.2.2.1 (lq M i) (wfl_q hw i).2).1 j hj, hq i hi]
  have hfi : ∀ j, j < nl → (p_first (M 13) j ↔ p_first (N 11) j) := fun j hj => by
    unfold p_first
    by_cases h0 : j = 0
    · exact ⟨fun _ => Or.inl h0, fun _ => Or.inl h0⟩
    · rw [r13 j hj, r13 (j - 1) (by omega)]
  have hnl : nlM M = nl := by unfold nlM; rw [l1]; omega
  refine ⟨fun w h1 h2 => ?_, r18, ht.2.1.2.1, hnl⟩
  obtain ⟨v, rfl⟩ : ∃ v, w = v + 1 := ⟨w - 1, by omega⟩
  refine ⟨?_, ?_, ?_⟩
  · have e1 : lf M (v + 1 - 1) = rf N v := by unfold lf rf; rw [Nat.add_sub_cancel, r14 v (by omega)]
    have e2 : lk M (v + 1 - 1) = rk N v := by unfold lk rk; rw [Nat.add_sub_cancel, r15 v (by omega)]
    unfold q_mu
    rw [e1, e2, ht.1.1, hsh (v + 1) 9 h2 (by omega)]
    constructor
    · rintro (h | ⟨h, g⟩)
      · exact Or.inl h
      · exact Or.inr ⟨h2, (hfi _ h2).mp h, g⟩
    · rintro (h | ⟨-, h, g⟩)
      · exact Or.inl h
      · exact Or.inr ⟨(hfi _ h2).mpr h, g⟩
  · unfold q_ma r_ma p_may
    rw [Nat.add_sub_cancel, hsh v 6 (by omega) (by omega), hsh v 7 (by omega) (by omega), hsh v 8 (by omega) (by omega), hnl]
    have hla : p_lastl (M 13) nl (v + 1) ↔ p_lastl (N 11) nl (v + 1) := by
      unfold p_lastl
      by_cases h : nl ≤ v + 1 + 1
      · exact ⟨fun _ => Or.inl h, fun _ => Or.inl h⟩
      · rw [r13 (v + 1) h2, r13 (v + 1 + 1) (by omega)]
    rw [hfi (v + 1) h2, hfi v (by omega), hla]
    exact Iff.rfl
  · unfold q_sp r_btw
    by_cases h : p_first (N 11) (v + 1)
    · rw [if_pos h, if_pos ((hfi _ h2).mpr h)]
      show M (30 + 4 * lq M v) 4 + M (30 + 4 * lq M (v + 1)) 3 = N 2 (11 * rq N v + 4) + N 2 (11 * rq N (v + 1) + 3)
      rw [hsh v 4 (by omega) (by omega), hsh (v + 1) 3 h2 (by omega)]
    · rw [if_neg h, if_neg (fun q => h ((hfi _ h2).mp q))]
theorem e_fill {nl : Nat} (hnl : nl ≤ 630) : ∀ f f2 a (M N : Nat → Nat → Int) g, e_PT M N nl → a ≤ nl → nl ≤ a + f → nl ≤ a + f2 → e_FT M N a g → bC M → bR N → (∀ w, w < nl → 0 ≤ N 16 w ∧ N 16 w ≤ 2000) → (∀ w, 1 ≤ w → w < nl → 0 ≤ r_btw N w ∧ r_btw N w ≤ 10000) →
    ∃ g', e_FT (q_fill f a M) (r_fill nl f2 a N) nl g' ∧ bC (q_fill f a M) ∧ bR (r_fill nl f2 a N) ∧ eqG (q_fill f a M) M := by
  intro f
  induction f with
  | zero =>
    intro f2 a M N g hp ha h1 h2 hf hC hR h16 hb
    have : a = nl := by omega
    subst this
    have hr : r_fill a f2 a N = N := by
      cases f2 with
      | zero => rfl
      | succ f2 => exact if_neg (by omega)
    rw [hr]
    exact ⟨g, hf, hC, hR, eqG_rf⟩
  | succ f ih =>
    intro f2 a M N g hp ha h1 h2 hf hC hR h16 hb
    by_cases hlt : a < nl
    · cases f2 with
      | zero => omega
      | succ f2 =>
        obtain ⟨e1, e2, e3, e4⟩ := e_page hp hlt hnl hf hC hR h16 hb
        have hfb := r_fil_b N hlt
        have hqs : q_fill (f + 1) a M = q_fill f (a + r_fil N a nl) (q_ap (q_st0 M a).2 a (a + r_fil N a nl)) := by
          show (if a < nlM M then _ else _) = _
          rw [hp.2.2.2, if_pos hlt, e1]
        have hrs : r_fill nl (f2 + 1) a N = r_fill nl f2 (a + r_fil N a nl) (r_pgs N a (r_fil N a nl)) := if_pos hlt
        rw [hqs, hrs]
        have eG : eqG (q_ap (q_st0 M a).2 a (a + r_fil N a nl)) M := eqG_tr (q_ap_eqG _ _ _) (q_st0_eqG _ _)
        have eP := r_pgs_eqP N a (r_fil N a nl)
        obtain ⟨g', k1, k2, k3, k4⟩ := ih f2 (a + r_fil N a nl) _ _ (g + 1) (e_PT_G eG eP hp) hfb.2 (by omega) (by omega) e2 e3 e4 (fun w hw => by rw [eP.1 16 (by omega) (by omega) (by omega) (by omega)]; exact h16 w hw) (fun w q1 q2 => by rw [r_btw_eq (eP.1 11 (by omega) (by omega) (by omega) (by omega)) (eP.1 2 (by omega) (by omega) (by omega) (by omega))]; exact hb w q1 q2)
        exact ⟨g', k1, k2, k3, eqG_tr k4 eG⟩
    · have : a = nl := by omega
      subst this
      have hr : r_fill a f2 a N = N := by
        cases f2 with
        | zero => rfl
        | succ f2 => exact if_neg (by omega)
      have hq : q_fill (f + 1) a M = M := by
        show (if a < nlM M then _ else _) = _
        rw [if_neg (by rw [hp.2.2.2]; omega)]
      rw [hr, hq]
      exact ⟨g, hf, hC, hR, eqG_rf⟩
/-- all that is laid is the same -/
def laid (M N : Nat → Nat → Int) (ns : Nat) : Prop := ∃ nl g, nl ≤ 630 ∧ g ≤ nl ∧ M 3 2 = ((nl : Nat) : Int) ∧ N 0 16 = ((nl : Nat) : Int) ∧ M 5 1 = ((g : Nat) : Int) ∧ N 0 30 = ((g : Nat) : Int) ∧ (∀ r, r < 10 → ∀ j, j < nl → M (13 + r) j = N (11 + r) j) ∧ (∀ j, j < ns → M 23 j = N 21 j ∧ M 24 j = N 22 j ∧ M 25 j = N 23 j) ∧
  (∀ p, p < g → M 26 p = N 24 p ∧ M 26 p + M 27 p = N 24 (p + 1) ∧ (0 ≤ N 24 p ∧ N 24 p < N 24 (p + 1) ∧ N 24 (p + 1) ≤ ((nl : Nat) : Int)) ∧ M 28 p = N 18 ((N 24 (p + 1)).toNat - 1) + N 16 ((N 24 (p + 1)).toNat - 1) ∧ (∀ j : Nat, N 24 p ≤ ((j : Nat) : Int) → ((j : Nat) : Int) + 1 < N 24 (p + 1) → N 18 j ≤ N 18 (j + 1))) ∧ (∀ j, j < nl → M 14 j + M 15 j ≤ ((ns : Nat) : Int))
/-- what of the class's memory the text is -/
def eqT (M N : Nat → Nat → Int) : Prop := M 1 = N 1 ∧ M 2 = N 2 ∧ M 7 = N 7 ∧ M 8 = N 8 ∧ M 9 = N 9 ∧ ∀ j, 29 ≤ j → M j = N j
/-- and of the reference's -/
def eqU (M N : Nat → Nat → Int) : Prop := (∀ j, 1 ≤ j → j ≤ 8 → M j = N j) ∧ (∀ k, 1 ≤ k → k ≤ 4 → M 0 k = N 0 k)
theorem tie_T {M M' N : Nat → Nat → Int} {np ns : Nat} (h : eqT M' M) (ht : tie M N np ns) : tie M' N np ns := by
  obtain ⟨e1, e2, e7, e8, e9, e29⟩ := h
  unfold tie at ht ⊢
  rw [e1, e2, e7, e8, e9]
  obtain ⟨h1, h2, h3, h4, h5, h6, h7⟩ := ht
  refine ⟨h1, h2, fun i hi => ?_, h4, h5, fun i hi => ?_, h7⟩
  · rw [e29 (30 + 4 * i) (by omega), e29 (29 + 4 * i) (by omega), e29 (31 + 4 * i) (by omega), e29 (32 + 4 * i) (by omega)]; exact h3 i hi
  · rw [e29 (29 + 4 * i) (by omega)]; exact h6 i hi
theorem tie_U {M N N' : Nat → Nat → Int} {np ns : Nat} (h : eqU N' N) (ht : tie M N np ns) : tie M N' np ns := by
  obtain ⟨g1, g2⟩ := h
  unfold tie at ht ⊢
  rw [g1 1 (by omega) (by omega), g1 2 (by omega) (by omega), g1 3 (by omega) (by omega), g1 4 (by omega) (by omega), g1 5 (by omega) (by omega), g1 6 (by omega) (by omega), g1 7 (by omega) (by omega), g1 8 (by omega) (by omega), g2 1 (by omega) (by omega), g2 2 (by omega) (by omega), g2 3 (by omega) (by omega), g2 4 (by omega) (by omega)]
  exact ht
theorem wf_T {M M' : Nat → Nat → Int} (h : eqT M' M) : (wfT M → wfT M') ∧ (∀ i, wfX M i → wfX M' i) := by
  obtain ⟨e1, e2, e7, e8, e9, e29⟩ := h
  refine ⟨fun ht => ?_, fun i hw => ?_⟩
  · unfold wfT at ht ⊢
    rw [e2, e7, e8, e9]
    exact ht
  · unfold wfX wfP pn at hw ⊢
    rw [e29 (30 + 4 * i) (by omega), e29 (29 + 4 * i) (by omega), e29 (31 + 4 * i) (by omega), e29 (32 + 4 * i) (by omega)]
    exact hw
theorem rI_U {N N' : Nat → Nat → Int} {np : Nat} (h : eqU N' N) (hi : rI N np) : rI N' np := by
  obtain ⟨g1, g2⟩ := h
  unfold rI rT rS rP rZ rn at hi ⊢
  rw [g1 1 (by omega) (by omega), g1 2 (by omega) (by omega), g1 3 (by omega) (by omega), g1 4 (by omega) (by omega), g1 5 (by omega) (by omega), g1 6 (by omega) (by omega), g1 7 (by omega) (by omega), g1 8 (by omega) (by omega), g2 1 (by omega) (by omega), g2 2 (by omega) (by omega), g2 3 (by omega) (by omega), g2 4 (by omega) (by omega)]
  exact hi
theorem eqT_L {M N : Nat → Nat → Int} (h : eqL M N) : eqT M N := ⟨h 1 (by omega) (by omega) (by omega), h 2 (by omega) (by omega) (by omega), h 7 (by omega) (by omega) (by omega), h 8 (by omega) (by omega) (by omega), h 9 (by omega) (by omega) (by omega), fun j hj => h j (by omega) (by omega) (by omega)⟩
theorem eqT_G {M N : Nat → Nat → Int} (h : eqG M N) : eqT M N := ⟨h 1 (by omega) (by omega) (by omega) (by omega), h 2 (by omega) (by omega) (by omega) (by omega), h 7 (by omega) (by omega) (by omega) (by omega), h 8 (by omega) (by omega) (by omega) (by omega), h 9 (by omega) (by omega) (by omega) (by omega), fun j hj => h j (by omega) (by omega) (by omega) (by omega)⟩
theorem eqT_tr {M N K : Nat → Nat → Int} (h : eqT M N) (g : eqT N K) : eqT M K := ⟨h.1.trans g.1, h.2.1.trans g.2.1, h.2.2.1.trans g.2.2.1, h.2.2.2.1.trans g.2.2.2.1, h.2.2.2.2.1.trans g.2.2.2.2.1, fun j hj => (h.2.2.2.2.2 j hj).trans (g.2.2.2.2.2 j hj)⟩
theorem eqT_set {M : Nat → Nat → Int} {k x : Nat} {v : Int} (h : k = 0 ∨ k = 3 ∨ k = 5) : eqT (mset M k x v) M := ⟨mset_ne (by omega), mset_ne (by omega), mset_ne (by omega), mset_ne (by omega), mset_ne (by omega), fun j hj => mset_ne (by omega)⟩
theorem eqU_R {M N : Nat → Nat → Int} (h : eqR M N) : eqU M N := ⟨h.1, fun k _ _ => h.2 k (by omega)⟩
theorem eqU_P {M N : Nat → Nat → Int} (h : eqP M N) : eqU M N := ⟨fun j _ _ => h.1 j (by omega) (by omega) (by omega) (by omega), fun k _ _ => h.2 k (by omega)⟩
theorem eqU_tr {M N K : Nat → Nat → Int} (h : eqU M N) (g : eqU N K) : eqU M K := ⟨fun j a b => (h.1 j a b).trans (g.1 j a b), fun k a b => (h.2 k a b).trans (g.2 k a b)⟩
theorem eqU_0 {M : Nat → Nat → Int} {x : Nat} {v : Int} (h : x = 0 ∨ 4 < x) : eqU (mset M 0 x v) M := ⟨fun j a b => mset_ne (by omega), fun k a b => mset_out (by omega)⟩
theorem eqU_24 {M : Nat → Nat → Int} {x : Nat} {v : Int} : eqU (mset M 24 x v) M := ⟨fun j a b => mset_ne (by omega), fun k a b => by rw [mset_ne (by omega)]⟩
set_option maxHeartbeats 1000000 in
/-- the whole layout: the class and the reference lay the same -/
theorem e_lay {M N : Nat → Nat → Int} {np ns : Nat} (ht : tie M N np ns) (hX : ∀ i, i < 30 → wfX M i) (hT : wfT M) (hw : wfl M) (hC : bC M) (hI : rI N np) (hL : rL N) (hR : bR N) :
    eqT (q_lay M np) M ∧ eqU (r_lay N np) N ∧ laid (q_lay M np) (r_lay N np) ns ∧ bC (q_lay M np) ∧ bR (r_lay N np) ∧ wfl (q_lay M np) ∧ rL (r_lay N np) ∧ q_lay M np 0 4 = 1 ∧ r_lay N np 0 15 = 1 ∧ r_lay N np 0 0 = 0 ∧ q_lay M np 5 1 = r_layP N np 0 30 := by
  have h30 := ht.2.2.2.1.2.2
  obtain ⟨M1, hM1⟩ : ∃ K, K = mset M 3 2 0 := ⟨_, rfl⟩
  obtain ⟨N1, hN1⟩ : ∃ K, K = r_lay0 N := ⟨_, rfl⟩
  have eM1 : eqL M1 M := by rw [hM1]; exact eqL_n
  have eN1 : eqU N1 N := by
    rw [hN1]
    unfold r_lay0
    exact eqU_tr (eqU_0 (by omega)) (eqU_tr (eqU_0 (by omega)) (eqU_tr (eqU_0 (by omega)) (eqU_0 (by omega))))
  have n1 : ∀ r, r ≠ 0 → N1 r = N r := fun r hr => by
    rw [hN1]
    unfold r_lay0
    rw [mset_ne hr, mset_ne hr, mset_ne hr, mset_ne hr]
  have n16 : N1 0 16 = 0 := by rw [hN1]; unfold r_lay0; rw [mset_out (by omega), mset_same]
  have n30 : N1 0 30 = 0 := by rw [hN1]; unfold r_lay0; rw [mset_same]
  have n15 : N1 0 15 = 1 := by rw [hN1]; unfold r_lay0; rw [mset_out (by omega), mset_out (by omega), mset_same]
  have n0 : N1 0 0 = 0 := by rw [hN1]; unfold r_lay0; rw [mset_out (by omega), mset_out (by omega), mset_out (by omega), mset_same]
  have ht1 : tie M1 N1 np ns := tie_U eN1 (tie_T (eqT_L eM1) ht)
  have m1 : ∀ r, r ≠ 3 → M1 r = M r := fun r hr => by rw [hM1]; exact mset_ne hr
  have hl1 : e_LT M1 N1 0 0 := ⟨by rw [hM1, mset_same]; rfl, by rw [n16]; rfl, fun r _ _ _ j hj => by omega, fun j hj => by omega, fun j hj => by omega⟩
  have hC1 : bC M1 := fun j => by rw [m1 20 (by omega), m1 24 (by omega), m1 25 (by omega)]; exact hC j
  have hR1 : bR N1 := fun r h1 h2 j => by rw [n1 r (by omega)]; exact hR r h1 h2 j
  have hX1 : ∀ i, i < 30 → wfX M1 i := fun i hi => eqL_wfX eM1 (hX i hi)
  have hT1 : wfT M1 := eqL_wfT eM1 hT
  have hw1 : wfl M1 := by rw [hM1]; exact wfl_n hw
  obtain ⟨nl, a1, a2, a3, a4⟩ := e_all np 0 M1 N1 0 0 (by omega) ht1 hX1 hT1 hl1 (fun h => by
    have g := (ht1.2.2.2.2.2.1 0 h).1
    have g2 := ht1.2.2.2.2.2.2 h
    unfold pf
    rw [g, g2]
    rfl) (by omega) hC1 hR1
  have hK : (if np = 0 then 0 else pb M1 (np - 1)) = ns := by
    by_cases h : np = 0
    · rw [if_pos h]; exact (ht.2.2.2.2.1.2.2.2 h).symm
    · rw [if_neg h]
      have g := (ht1.2.2.2.2.2.1 (np - 1) (by omega)).2
      rw [show np - 1 + 1 = np by omega, ht1.2.2.2.2.1.2.2.1 (by omega)] at g
      unfold pb
      rw [g]
      omega
  rw [hK] at a1 a2
  have hns := ht.2.2.2.2.1.2.1
  -- behind the lines
  obtain ⟨A, hA⟩ : ∃ K, K = q_all np 0 M1 := ⟨_, rfl⟩
  obtain ⟨L, hLd⟩ : ∃ K, K = r_pars np 0 N1 := ⟨_, rfl⟩
  rw [← hA] at a1 a3
  rw [← hLd] at a1 a4
  have eA : eqL A M := by rw [hA]; exact eqL_tr (q_all_eqL _ _ _) eM1
  have eL : eqR L N1 := by rw [hLd]; exact r_pars_eqR _ _ _
  have htA : tie A L np ns := tie_U (eqU_tr (eqU_R eL) eN1) (tie_T (eqT_L eA) ht)
  have hwA : wfl A := by rw [hA]; exact q_all_wfl np 0 M1 (by omega) hw1 hT1 hX1
  have hLL : rL L := by
    rw [hLd]
    refine (r_pars_n np np 0 N1 (by omega) (rI_U eN1 hI) (fun j => by rw [n1 11 (by omega), n1 12 (by omega), n1 13 (by omega), n1 16 (by omega)]; exact hL j) (by omega) (fun hf => ?_) (by omega)).2
    rw [n16, (eN1.1 1 (by omega) (by omega)), ht.2.2.2.2.2.2 hf]
    decide
  have hpA := e_PT_of htA a1 hwA
  obtain ⟨M2, hM2⟩ : ∃ K, K = mset A 5 1 0 := ⟨_, rfl⟩
  have eM2 : eqG M2 A := by rw [hM2]; exact fun j h5 _ _ _ => mset_ne h5
  have hp2 : e_PT M2 L nl := e_PT_G eM2 ⟨fun _ _ _ _ _ => rfl, fun _ _ => rfl⟩ hpA
  have hf2 : e_FT M2 L 0 0 := ⟨by rw [hM2, mset_same]; rfl, by rw [eL.2 30 (by omega), n30]; rfl, Nat.le_refl _, fun j hj => by omega, fun p hp => by omega⟩
  have hC2 : bC M2 := fun j => by rw [hM2, mset_ne (by omega), mset_ne (by omega), mset_ne (by omega)]; exact a3 j
  have hX2 : ∀ i, i < 30 → wfX A i := fun i hi => eqL_wfX eA (hX i hi)
  have h16 : ∀ w, w < nl → 0 ≤ L 16 w ∧ L 16 w ≤ 2000 := fun w _ => (hLL w).2.2
  have hbt : ∀ w, 1 ≤ w → w < nl → 0 ≤ r_btw L w ∧ r_btw L w ≤ 10000 := fun w q1 q2 => by
    rw [← (hpA.1 w q1 q2).2.2]
    exact q_spb hX2 hwA w
  have hnl : nlM A = nl := hpA.2.2.2
  have hrn : rnM L = nl := by unfold rnM; rw [a1.2.1]; omega
  obtain ⟨g, b1, b2, b3, b4⟩ := e_fill (nl := nl) (by omega) nl nl 0 M2 L 0 hp2 (by omega) (by omega) (by omega) hf2 hC2 a4 h16 hbt
  obtain ⟨F, hF⟩ : ∃ K, K = q_fill nl 0 M2 := ⟨_, rfl⟩
  obtain ⟨P, hP⟩ : ∃ K, K = r_fill nl nl 0 L := ⟨_, rfl⟩
  rw [← hF] at b1 b2 b4
  rw [← hP] at b1 b3
  have eP : eqP P L := by rw [hP]; exact r_fill_eqP _ _ _ _
  have hql : q_lay M np = mset F 0 4 1 := by unfold q_lay; rw [← hM1, ← hA, hnl, ← hM2, ← hF]
  have hrlP : r_layP N np = P := by unfold r_layP r_layL; rw [← hN1, ← hLd, hrn, ← hP]
  have hrl : r_lay N np = mset P 24 g ((nl : Nat) : Int) := by
    unfold r_lay
    rw [hrlP]
    have e1 : rpM P = g := by unfold rpM; rw [b1.2.1]; omega
    rw [e1, eP.2 16 (by omega), a1.2.1]
  have eF : eqG F A := eqG_tr b4 eM2
  have eTF : eqT (mset F 0 4 1) M := eqT_tr (eqT_set (by omega)) (eqT_tr (eqT_G eF) (eqT_L eA))
  have eUP : eqU (mset P 24 g ((nl : Nat) : Int)) N := eqU_tr eqU_24 (eqU_tr (eqU_P eP) (eqU_tr (eqU_R eL) eN1))
  obtain ⟨f1, f2, f0, f3, f4⟩ := b1
  obtain ⟨l1, l2, l3, l4, l5⟩ := a1
  have F0 : ∀ r, r ≠ 0 → mset F 0 4 1 r = F r := fun r hr => mset_ne hr
  have P0 : ∀ r, r ≠ 24 → mset P 24 g ((nl : Nat) : Int) r = P r := fun r hr => mset_ne hr
  rw [hql, hrl, hrlP]
  refine ⟨eTF, eUP, ⟨nl, g, by omega, f0, ?_, ?_, ?_, ?_, fun r hr j hj => ?_, fun j hj => ?_, fun p hp => ?_, fun j hj => ?_⟩, fun j => ?_, fun r h1 h2 j => ?_, ?_, ?_, mset_same _ _ _ _, ?_, ?_, ?_⟩
  · rw [F0 3 (by omega), eF 3 (by omega) (by omega) (by omega) (by omega)]; exact l1
  · rw [P0 0 (by omega), eP.2 16 (by omega)]; exact l2
  · rw [F0 5 (by omega)]; exact f1
  · rw [P0 0 (by omega)]; exact f2
  · rw [F0 _ (by omega), P0 _ (by omega)]
    by_cases h6 : r = 6
    · subst h6; exact (f3 j hj).1
    · by_cases h7 : r = 7
      · subst h7; exact (f3 j hj).2
      · rw [eF (13 + r) (by omega) (by omega) (by omega) (by omega), eP.1 (11 + r) (by omega) (by omega) (by omega) (by omega)]
        exact l3 r hr h6 h7 j hj
  · rw [F0 23 (by omega), F0 24 (by omega), F0 25 (by omega), P0 21 (by omega), P0 22 (by omega), P0 23 (by omega), eF 23 (by omega) (by omega) (by omega) (by omega), eF 24 (by omega) (by omega) (by omega) (by omega), eF 25 (by omega) (by omega) (by omega) (by omega), eP.1 21 (by omega) (by omega) (by omega) (by omega), eP.1 22 (by omega) (by omega) (by omega) (by omega), eP.1 23 (by omega) (by omega) (by omega) (by omega)]
    exact l4 j hj
  · obtain ⟨k1, k2, k3, k4, k5⟩ := f4 p hp
    have hen : e_en P nl g p = va_up (P 24) g ((nl : Nat) : Int) (p + 1) := by
      unfold e_en
      by_cases q : p + 1 < g
      · rw [if_pos q, va_up_ne _ _ (by omega)]
      · rw [if_neg q, show p + 1 = g by omega, va_up_self]
    rw [hen] at k2 k3 k4 k5
    rw [F0 26 (by omega), F0 27 (by omega), F0 28 (by omega), P0 18 (by omega), P0 16 (by omega), mset_at, va_up_ne (P 24) _ (show p ≠ g by omega)]
    exact ⟨k1, k2, k3, k4, k5⟩
  · rw [F0 14 (by omega), F0 15 (by omega), eF 14 (by omega) (by omega) (by omega) (by omega), eF 15 (by omega) (by omega) (by omega) (by omega)]
    exact l5 j hj
  · rw [F0 20 (by omega), F0 24 (by omega), F0 25 (by omega)]; exact b2 j
  · rw [P0 r (by omega)]; exact b3 r h1 h2 j
  · intro j
    rw [F0 13 (by omega), F0 14 (by omega), F0 15 (by omega), F0 18 (by omega)]
    exact eqG_wfl eF hwA j
  · intro j
    rw [P0 11 (by omega), P0 12 (by omega), P0 13 (by omega), P0 16 (by omega), eP.1 11 (by omega) (by omega) (by omega) (by omega), eP.1 12 (by omega) (by omega) (by omega) (by omega), eP.1 13 (by omega) (by omega) (by omega) (by omega), eP.1 16 (by omega) (by omega) (by omega) (by omega)]
    exact hLL j
  · rw [P0 0 (by omega), eP.2 15 (by omega), eL.2 15 (by omega)]; exact n15
  · rw [P0 0 (by omega), eP.2 0 (by omega), eL.2 0 (by omega)]; exact n0
  · rw [F0 5 (by omega), f1, f2]
