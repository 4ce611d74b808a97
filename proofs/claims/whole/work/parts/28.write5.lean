set_option maxHeartbeats 4000000 in
set_option maxRecDepth 100000 in
theorem lp_layLinesOf {p : Program} {l : Launch} {e : Env} {s : State} {m : MethodId} {args : Array Value} {below : List Frame} {meth : Method} {c : Code} {Q : State → Prop} {A : Nat → Prop} {H0 : Heap} {D : va_G} {ad : Nat → Nat} {cs : pg_C}  (hx : p.tables.exec = Jvm.exec) (hb : c.code = b_LN_layLinesOf) (hml : c.maxLocals = 7) (hg : ∀ w ∈ gt, w.before args s = true) (hown : s.vm.findClass R_LN = some m.cls) (hK : va_K D vwCl (pg_tys cs) s) (hA : ∀ q, H0.size ≤ q → A q) {M0 : Nat → Nat → Int} (i : Nat) (hw : wfX M0 i) (ht : wfT M0) (MF : Nat → Nat → Int) (kk : ∀ (u : Option Nat) (H : Heap) (locs : List Loc) (ls : Array Slot), va_P D vwCl (pg_w ad cs u MF) H → va_D A (pg_w ad cs u MF) → va_S A H0 H locs → lv_has ls 7 [] → W p l e ({ frames := 6, cells := 0, slots := 0, locals := 141 } : Room) s m args below meth c H locs 0 0 Q (F0 m 111 ls [])) : ∀ (f a : Nat) (x : Int) (rp : Option Nat) (M : Nat → Nat → Int), pb M0 i ≤ a + f → a ≤ pb M0 i → 0 ≤ x ∧ x ≤ 10000 → eqL M M0 → 0 ≤ M 3 2 ∧ M 3 2 ≤ ((a : Nat) : Int) + ((i : Nat) : Int) → q_lines i f a x M = MF → ∀ (H : Heap) (locs : List Loc) (ls : Array Slot), va_P D vwCl (pg_w ad cs rp M) H → va_D A (pg_w ad cs rp M) → va_S A H0 H locs → lv_has ls 7 [(5, .int (iI (((a : Nat) : Int)))), (4, .int (iI (x))), (3, .int (iI (M0 (30 + 4 * i) 0))), (2, .ref (ad (29 + 4 * i))), (0, .ref (ad (3))), (1, .int (iI (((i : Nat) : Int))))] → W p l e ({ frames := 6, cells := 0, slots := 0, locals := 141 } : Room) s m args below meth c H locs 0 0 Q (F0 m 63 ls []) := by
  have hi : i < 30 := hw.1.1
  intro f
  induction f with
  | zero =>
    intro a x rp M hf hab hx0 hq hnl he H locs ls hP hD hS hl
    have e29 := eqL_29 hq i
    have e30 := eqL_30 hq i
    have ht1 : wfT M := eqL_wfT hq ht
    have hw1 : wfX M i := eqL_wfX hq hw
    have epb : pb M i = pb M0 i := by unfold pb; rw [e29]
    have hbe : M (29 + 4 * i) 5 = ((pb M0 i : Nat) : Int) := by rw [← epb]; unfold pb; have := hw1.2.1; omega
    have hb6 : pb M0 i ≤ 600 := by have := hw1.2.1; omega
    have hn : M 3 2 = ((nlM M : Nat) : Int) := by unfold nlM; omega
    refine lv_iload hx hb d_LN_layLinesOf_63 (lv_at hl 0 rfl) ?_
    refine lv_aload_n hx hb d_LN_layLinesOf_65 rfl (lv_at hl 3 rfl) ?_
    refine z_get (ci := 6) (C := R_PA) (T := T_PA) (N := 6) (v := .int (iI (M (29 + 4 * i) 5))) hx hb hg in_PA hown hK hP (29 + 4 * i) (by omega) (pg_par _ _ _ _ _) rfl 5 (by decide) (hg _ (List.mem_append_right _ (List.mem_append_right _ (List.mem_append_left _ (List.mem_of_getElem? (i := 8) rfl))))) (fun _ h9 => h9) rfl d_LN_layLinesOf_66 ?_
    refine z_icmp_ge hx hb (tgt := 111) d_LN_layLinesOf_69 (by decide) ⟨by omega, by omega⟩ ⟨by omega, by omega⟩ (fun c_69 => ?_) (fun c_69 => ?_)
    · have he : M = MF := he
      subst he
      exact kk rp H locs ls hP hD hS (lv_sub hl [] rfl)
    · exact absurd c_69 (by omega)
  | succ f ih =>
    intro a x rp M hf hab hx0 hq hnl he H locs ls hP hD hS hl
    have e29 := eqL_29 hq i
    have e30 := eqL_30 hq i
    have ht1 : wfT M := eqL_wfT hq ht
    have hw1 : wfX M i := eqL_wfX hq hw
    have epb : pb M i = pb M0 i := by unfold pb; rw [e29]
    have hbe : M (29 + 4 * i) 5 = ((pb M0 i : Nat) : Int) := by rw [← epb]; unfold pb; have := hw1.2.1; omega
    have hb6 : pb M0 i ≤ 600 := by have := hw1.2.1; omega
    have hn : M 3 2 = ((nlM M : Nat) : Int) := by unfold nlM; omega
    refine lv_iload hx hb d_LN_layLinesOf_63 (lv_at hl 0 rfl) ?_
    refine lv_aload_n hx hb d_LN_layLinesOf_65 rfl (lv_at hl 3 rfl) ?_
    refine z_get (ci := 6) (C := R_PA) (T := T_PA) (N := 6) (v := .int (iI (M (29 + 4 * i) 5))) hx hb hg in_PA hown hK hP (29 + 4 * i) (by omega) (pg_par _ _ _ _ _) rfl 5 (by decide) (hg _ (List.mem_append_right _ (List.mem_append_right _ (List.mem_append_left _ (List.mem_of_getElem? (i := 8) rfl))))) (fun _ h9 => h9) rfl d_LN_layLinesOf_66 ?_
    refine z_icmp_ge hx hb (tgt := 111) d_LN_layLinesOf_69 (by decide) ⟨by omega, by omega⟩ ⟨by omega, by omega⟩ (fun c_69 => ?_) (fun c_69 => ?_)
    · have he : M = MF := by rw [← he]; unfold q_lines; rw [if_neg (by omega)]
      subst he
      exact kk rp H locs ls hP hD hS (lv_sub hl [] rfl)
    · refine lv_iload hx hb d_LN_layLinesOf_72 (lv_at hl 0 rfl) ?_
      refine z_iconst hx hb (z := 1) d_LN_layLinesOf_74 ?_
      refine z_iadd hx hb d_LN_layLinesOf_75 (v := ((a + 1 : Nat) : Int)) (by omega) ?_
      refine lv_aload_n hx hb d_LN_layLinesOf_76 rfl (lv_at hl 4 rfl) ?_
      refine lv_aload_n hx hb d_LN_layLinesOf_77 rfl (lv_at hl 3 rfl) ?_
      refine lv_iload hx hb d_LN_layLinesOf_78 (lv_at hl 0 rfl) ?_
      refine lv_iload hx hb d_LN_layLinesOf_80 (lv_at hl 1 rfl) ?_
      obtain ⟨rr, err⟩ : ∃ q_, q_ = q_lx M i a x := ⟨_, rfl⟩
      have err2 : rr = p_lx (M 7) (M 8) (p_tabs M i (pn M i)) (M 2 0 - M (30 + 4 * i) 1) a (pb M0 i) (pb M0 i - a) a a (0, x, 0, 0) := by rw [err]; unfold q_lx; rw [epb]
      have hr6 : rr.1 ≤ pb M0 i := by rw [err2]; exact p_lx_le _ _ _ _ hab
      obtain ⟨bx, ebx⟩ : ∃ q_, q_ = max (a + 1) rr.1 := ⟨_, rfl⟩
      refine rw_Vi (As := [.ref (ad (29 + 4 * i)), .int (iI (((a : Nat) : Int))), .int (iI (x))]) (rest := [.int (iI (((a + 1 : Nat) : Int)))]) (w' := (pg_w ad cs (some i) (rset M rr.2))) (z := ((rr.1 : Nat) : Int)) ⟨hx, hb, hml, hown, hg⟩ (err2 ▸ c_lineBehind l _ i (pn M i) a (pb M0 i) x hb6 hab hw1.1 ht1 hbe hw1.2.2.2.1 hx0) (cwV 3 hg (gt_V (List.mem_append_right _ (List.mem_append_right _ (List.mem_append_right _ (List.mem_append_right _ (List.mem_append_right _ (List.mem_append_right _ (List.mem_append_left _ (List.mem_of_getElem? (i := 39) rfl)))))))) (List.mem_append_right _ (List.mem_append_right _ (List.mem_append_right _ (List.mem_append_right _ (List.mem_append_right _ (List.mem_append_right _ (List.mem_append_right _ (List.mem_append_left _ (List.mem_of_getElem? (i := 0) rfl))))))))) (List.mem_append_left _ (List.mem_of_getElem? (i := 10) rfl)) (List.mem_append_right _ (List.mem_append_left _ (List.mem_of_getElem? (i := 6) rfl))) (List.mem_append_right _ (List.mem_append_right _ (List.mem_append_right _ (List.mem_append_right _ (List.mem_append_right _ (List.mem_append_right _ (List.mem_append_right _ (List.mem_append_left _ (List.mem_of_getElem? (i := 1) rfl)))))))))) rfl rfl rfl (by decide +kernel) ⟨Nat.le_of_ble_eq_true rfl, Nat.le_of_ble_eq_true rfl⟩) hK hP hD hS hA (va_recv hK hP (ci := 3) (q0 := 3) rfl (wl_atE (by decide) rfl)) rfl hl.1 rfl (Nat.le_of_ble_eq_true rfl) d_LN_layLinesOf_82 ⟨Nat.zero_le _, Nat.zero_le _⟩ (fun H locs hP hD hS => ?_)
      obtain ⟨M_1, eM_1⟩ : ∃ q_, q_ = rset M rr.2 := ⟨_, rfl⟩
      have hP : va_P D vwCl (pg_w ad cs (some i) M_1) H := by rw [eM_1]; exact hP
      have hD : va_D A (pg_w ad cs (some i) M_1) := by rw [eM_1]; exact hD
      have hq2 : eqL M_1 M := by rw [eM_1]; exact eqL_rset
      have e3 : M_1 3 2 = ((nlM M : Nat) : Int) := by rw [eM_1, rset_ne (by omega)]; exact hn
      refine z_mmax hx hb (hml.trans hl.1.symm) hown (hg _ (List.mem_append_right _ (List.mem_append_right _ (List.mem_append_right _ (List.mem_append_right _ (List.mem_append_right _ (List.mem_append_left _ (List.mem_of_getElem? (i := 27) rfl)))))))) (hg _ (List.mem_append_right _ (List.mem_append_right _ (List.mem_append_right _ (List.mem_append_right _ (List.mem_append_right _ (List.mem_append_left _ (List.mem_of_getElem? (i := 28) rfl)))))))) (hg _ (List.mem_append_right _ (List.mem_append_left _ (List.mem_of_getElem? (i := 17) rfl)))) (hg _ (List.mem_append_right _ (List.mem_append_right _ (List.mem_append_right _ (List.mem_append_right _ (List.mem_append_right _ (List.mem_append_left _ (List.mem_of_getElem? (i := 29) rfl)))))))) (Nat.le_of_ble_eq_true rfl) (Nat.le_of_ble_eq_true rfl) (Nat.zero_le _) (Nat.zero_le _) ⟨by omega, by omega⟩ ⟨by omega, by omega⟩ d_LN_layLinesOf_85 (v := ((bx : Nat) : Int)) (by rw [ebx]; omega) ?_
      refine lv_istore (lv' := [(6, .int (iI (((bx : Nat) : Int)))), (5, .int (iI (((a : Nat) : Int)))), (4, .int (iI (x))), (3, .int (iI (M0 (30 + 4 * i) 0))), (2, .ref (ad (29 + 4 * i))), (0, .ref (ad (3))), (1, .int (iI (((i : Nat) : Int))))]) hx hb d_LN_layLinesOf_88 hl (by decide) rfl (fun ls hl => ?_)
      refine lv_aload_n hx hb d_LN_layLinesOf_90 rfl (lv_at hl 5 rfl) ?_
      refine lv_iload_n hx hb d_LN_layLinesOf_91 rfl (lv_at hl 6 rfl) ?_
      refine lv_iload hx hb d_LN_layLinesOf_92 (lv_at hl 1 rfl) ?_
      refine lv_iload hx hb d_LN_layLinesOf_94 (lv_at hl 0 rfl) ?_
      refine lv_iload hx hb d_LN_layLinesOf_96 (lv_at hl 2 rfl) ?_
      have hw2 : wfX M_1 i := eqL_wfX hq2 hw1
      have ep2 : wfP M_1 i (pn M i) := by have := hw2.1; unfold pn at this ⊢; rw [eqL_29 hq2] at this; exact this
      refine rw_Vv (As := [.int (iI (((i : Nat) : Int))), .int (iI (((a : Nat) : Int))), .int (iI (((bx : Nat) : Int))), .int (iI (x))]) (rest := []) (w' := (pg_w ad cs (some i) (q_ad M_1 i (pn M i) a bx (pb M0 i) (nlM M) x))) ⟨hx, hb, hml, hown, hg⟩ (c_addLine l _ i (pn M i) a bx (pb M0 i) (nlM M) x (by omega) (by omega) hb6 (fun _ => by omega) ep2 (eqL_wfT hq2 ht1) hx0 (by rw [eqL_29 hq2]; exact hbe) e3 (by omega) hw2.2.2.2.1 (by have := hw2.2.2.2.2.2.2.2.1; exact this) (by have := hw2.2.2.2.2.2.2.2.2.2.2.2.2; omega)) (cwV 4 hg (gt_V (List.mem_append_right _ (List.mem_append_right _ (List.mem_append_right _ (List.mem_append_right _ (List.mem_append_right _ (List.mem_append_left _ (List.mem_of_getElem? (i := 30) rfl))))))) (List.mem_append_right _ (List.mem_append_right _ (List.mem_append_right _ (List.mem_append_right _ (List.mem_append_right _ (List.mem_append_left _ (List.mem_of_getElem? (i := 31) rfl))))))) (List.mem_append_left _ (List.mem_of_getElem? (i := 2) rfl)) (List.mem_append_right _ (List.mem_append_left _ (List.mem_of_getElem? (i := 6) rfl))) (List.mem_append_right _ (List.mem_append_right _ (List.mem_append_right _ (List.mem_append_right _ (List.mem_append_right _ (List.mem_append_left _ (List.mem_of_getElem? (i := 32) rfl)))))))) rfl rfl rfl (by decide +kernel) ⟨Nat.le_of_ble_eq_true rfl, Nat.le_of_ble_eq_true rfl⟩) hK hP hD hS hA (va_recv hK hP (ci := 3) (q0 := 3) rfl (wl_atE (by decide) rfl)) rfl hl.1 rfl (Nat.le_of_ble_eq_true rfl) d_LN_layLinesOf_98 ⟨Nat.zero_le _, Nat.zero_le _⟩ (fun H locs hP hD hS => ?_)
      obtain ⟨M_2, eM_2⟩ : ∃ q_, q_ = q_ad M_1 i (pn M i) a bx (pb M0 i) (nlM M) x := ⟨_, rfl⟩
      have hP : va_P D vwCl (pg_w ad cs (some i) M_2) H := by rw [eM_2]; exact hP
      have hD : va_D A (pg_w ad cs (some i) M_2) := by rw [eM_2]; exact hD
      refine lv_iload hx hb d_LN_layLinesOf_101 (lv_at hl 0 rfl) ?_
      refine lv_istore (lv' := [(5, .int (iI (((bx : Nat) : Int)))), (6, .int (iI (((bx : Nat) : Int)))), (4, .int (iI (x))), (3, .int (iI (M0 (30 + 4 * i) 0))), (2, .ref (ad (29 + 4 * i))), (0, .ref (ad (3))), (1, .int (iI (((i : Nat) : Int))))]) hx hb d_LN_layLinesOf_103 hl (by decide) rfl (fun ls hl => ?_)
      refine lv_iload_n hx hb d_LN_layLinesOf_105 rfl (lv_at hl 3 rfl) ?_
      refine lv_istore (lv' := [(4, .int (iI (M0 (30 + 4 * i) 0))), (5, .int (iI (((bx : Nat) : Int)))), (6, .int (iI (((bx : Nat) : Int)))), (3, .int (iI (M0 (30 + 4 * i) 0))), (2, .ref (ad (29 + 4 * i))), (0, .ref (ad (3))), (1, .int (iI (((i : Nat) : Int))))]) hx hb d_LN_layLinesOf_106 hl (by decide) rfl (fun ls hl => ?_)
      refine lv_goto (tgt := 63) hx hb d_LN_layLinesOf_108 (by decide) ?_
      have hF : q_lines i f bx (M0 (30 + 4 * i) 0) M_2 = MF := by rw [← he]; conv => rhs; unfold q_lines; rw [if_pos (by omega), ← err, ← ebx, epb, e30, ← eM_1, ← eM_2]
      have hq3 : eqL M_2 M0 := eqL_tr (by rw [eM_2]; exact q_ad_eqL _ _ _ _ _ _ _ _) (eqL_tr hq2 hq)
      have hn3 : M_2 3 2 = ((nlM M : Nat) : Int) + 1 := by rw [eM_2]; exact q_ad_n _ _ _ _ _ _ _ _
      exact ih bx (M0 (30 + 4 * i) 0) (some i) M_2 (by omega) (by omega) (by have := hw.2.2.1; omega) hq3 (by omega) hF H locs ls hP hD hS (lv_sub hl [1, 0, 3, 4, 5, 6] rfl)
set_option maxHeartbeats 4000000 in
set_option maxRecDepth 100000 in
/-- Lines.layLinesOf -/
theorem c_layLinesOf (l : Launch) {D : va_G} {ad : Nat → Nat} {cs : pg_C} {rp : Option Nat} {M : Nat → Nat → Int} (sz : Nat) (i : Nat) (hw : wfX M i) (ht : wfT M) (hnl : 0 ≤ M 3 2 ∧ M 3 2 ≤ M (29 + 4 * i) 4 + ((i : Nat) : Int)) : Met l y_LN_layLinesOf ws_LN_layLinesOf ({ frames := 6, cells := 0, slots := 0, locals := 141 } : Room) (va_Pc [.ref (ad (3)), .int (iI (((i : Nat) : Int)))] (rw_B D vwCl (pg_tys cs) (pg_w ad cs rp M) sz)) (va_Qv (fun _ : Option Nat => True) (rw_EX D vwCl (pg_tys cs) (pg_w ad cs rp M) (fun u => pg_w ad cs u (q_par M i)) sz) (va_A (pg_w ad cs rp M) sz)) 0 0 (va_A (pg_w ad cs rp M) sz) := by
  refine Met.ofW (cc := b_LN_layLinesOf) (maxL := 7) (ret := none) (by decide) rfl ?_
  intro p e s m args below meth c s₁ B hml hv
  obtain ⟨rfl, hsz, hP, hK, hD0⟩ := hv
  have hx := B.exec
  have hb := B.bytes
  have hr := B.returns
  have hts := atoms_spec (ws := ws_LN_layLinesOf) B.pre
  have hg : ∀ w ∈ gt, w.before _ s = true := fun w h => hts w (List.mem_cons_of_mem _ h)
  have hown : s.vm.findClass R_LN = some m.cls := findClass_of_methodNamed B.named
  have hlocks := B.notSynchronized
  subst hsz
  have hD := hD0.self (sz := s.heap.size)
  have hA : ∀ q : Nat, s.heap.size ≤ q → va_A (pg_w ad cs rp M) s.heap.size q := fun q h => Or.inr h
  have hS : va_S (va_A (pg_w ad cs rp M) s.heap.size) s.heap s.heap [] := va_S.rf
  have hl := lv_entry ([.ref (ad (3)), .int (iI (((i : Nat) : Int)))]) (n := 7) (Nat.le_of_ble_eq_true rfl)
  rw [lg_entry_eq]
  generalize (lg_sl ([.ref (ad (3)), .int (iI (((i : Nat) : Int)))]) ++ List.replicate (7 - (lg_sl ([.ref (ad (3)), .int (iI (((i : Nat) : Int)))])).length) Slot.unset).toArray = ls at hl ⊢
  have hl : lv_has ls 7 [(0, .ref (ad (3))), (1, .int (iI (((i : Nat) : Int))))] := hl
  have hi : i < 30 := hw.1.1
  have hfb := hw.2.1
  have h0 := hw.2.2.1
  have h2 := hw.2.2.2.2.1
  have epf : M (29 + 4 * i) 4 = ((pf M i : Nat) : Int) := by unfold pf; omega
  have epb : M (29 + 4 * i) 5 = ((pb M i : Nat) : Int) := by unfold pb; omega
  have hn : M 3 2 = ((nlM M : Nat) : Int) := by unfold nlM; omega
  obtain ⟨xx, exx⟩ : ∃ q_, q_ = q_x0 M i := ⟨_, rfl⟩
  have hxx : 0 ≤ xx ∧ xx ≤ 10000 := by rw [exx]; unfold q_x0; omega
  refine lv_aload_n hx hb d_LN_layLinesOf_0 rfl (lv_at hl 0 rfl) ?_
  refine z_get (ci := 3) (C := R_LN) (T := T_LN) (N := 6) (v := .ref (ad (1))) hx hb hg in_LN hown hK hP (3) (by decide) rfl rfl 3 (by decide) (hg _ (List.mem_append_right _ (List.mem_append_right _ (List.mem_append_right _ (List.mem_append_right _ (List.mem_append_left _ (List.mem_of_getElem? (i := 11) rfl))))))) (fun _ h9 => h9) rfl d_LN_layLinesOf_1 ?_
  refine z_get (ci := 1) (C := R_TX) (T := T_TX) (N := 6) (v := .ref (ad (6))) hx hb hg in_TX hown hK hP (1) (by decide) rfl rfl 0 (by decide) (hg _ (List.mem_append_right _ (List.mem_append_right _ (List.mem_append_left _ (List.mem_of_getElem? (i := 17) rfl))))) (fun _ h9 => h9) rfl d_LN_layLinesOf_4 ?_
  refine lv_iload_n hx hb d_LN_layLinesOf_7 rfl (lv_at hl 1 rfl) ?_
  refine z_aald hx hb hK hP (6) 2 (by decide) (fun _ => rfl) rfl rfl (i) rfl (by omega) (by decide) d_LN_layLinesOf_8 ?_
  refine lv_astore_n (lv' := [(2, .ref (ad (29 + 4 * i))), (0, .ref (ad (3))), (1, .int (iI (((i : Nat) : Int))))]) hx hb d_LN_layLinesOf_9 rfl hl (by decide) rfl (fun ls hl => ?_)
  refine lv_aload_n hx hb d_LN_layLinesOf_10 rfl (lv_at hl 0 rfl) ?_
  refine z_get (ci := 6) (C := R_PA) (T := T_PA) (N := 6) (v := .ref (ad (30 + 4 * i))) hx hb hg in_PA hown hK hP (29 + 4 * i) (by omega) (pg_par _ _ _ _ _) rfl 0 (by decide) (hg _ (List.mem_append_right _ (List.mem_append_left _ (List.mem_of_getElem? (i := 38) rfl)))) (fun _ h9 => h9) rfl d_LN_layLinesOf_11 ?_
  refine z_iconst hx hb (z := 0) d_LN_layLinesOf_14 ?_
  refine z_iald hx hb hK hP (30 + 4 * i) 0 (by omega) (fun r => pg_shp _ _ _ _ r) rfl (0) rfl (by decide) (by decide) d_LN_layLinesOf_15 ?_
  refine lv_istore_n (lv' := [(3, .int (iI (M (30 + 4 * i) (0)))), (2, .ref (ad (29 + 4 * i))), (0, .ref (ad (3))), (1, .int (iI (((i : Nat) : Int))))]) hx hb d_LN_layLinesOf_16 rfl hl (by decide) rfl (fun ls hl => ?_)
  refine z_iconst hx hb (z := 0) d_LN_layLinesOf_17 ?_
  refine lv_iload_n hx hb d_LN_layLinesOf_18 rfl (lv_at hl 0 rfl) ?_
  refine lv_aload_n hx hb d_LN_layLinesOf_19 rfl (lv_at hl 1 rfl) ?_
  refine z_get (ci := 6) (C := R_PA) (T := T_PA) (N := 6) (v := .ref (ad (30 + 4 * i))) hx hb hg in_PA hown hK hP (29 + 4 * i) (by omega) (pg_par _ _ _ _ _) rfl 0 (by decide) (hg _ (List.mem_append_right _ (List.mem_append_left _ (List.mem_of_getElem? (i := 38) rfl)))) (fun _ h9 => h9) rfl d_LN_layLinesOf_20 ?_
  refine z_iconst hx hb (z := 2) d_LN_layLinesOf_23 ?_
  refine z_iald hx hb hK hP (30 + 4 * i) 0 (by omega) (fun r => pg_shp _ _ _ _ r) rfl (2) rfl (by decide) (by decide) d_LN_layLinesOf_24 ?_
  refine z_iadd hx hb d_LN_layLinesOf_25 (v := (M (30 + 4 * i) (0) + M (30 + 4 * i) (2))) rfl ?_
  refine z_mmax hx hb (hml.trans hl.1.symm) hown (hg _ (List.mem_append_right _ (List.mem_append_right _ (List.mem_append_right _ (List.mem_append_right _ (List.mem_append_right _ (List.mem_append_left _ (List.mem_of_getElem? (i := 27) rfl)))))))) (hg _ (List.mem_append_right _ (List.mem_append_right _ (List.mem_append_right _ (List.mem_append_right _ (List.mem_append_right _ (List.mem_append_left _ (List.mem_of_getElem? (i := 28) rfl)))))))) (hg _ (List.mem_append_right _ (List.mem_append_left _ (List.mem_of_getElem? (i := 17) rfl)))) (hg _ (List.mem_append_right _ (List.mem_append_right _ (List.mem_append_right _ (List.mem_append_right _ (List.mem_append_right _ (List.mem_append_left _ (List.mem_of_getElem? (i := 29) rfl)))))))) (Nat.le_of_ble_eq_true rfl) (Nat.le_of_ble_eq_true rfl) (Nat.zero_le _) (Nat.zero_le _) ⟨by decide, by decide⟩ ⟨by omega, by omega⟩ d_LN_layLinesOf_26 (v := xx) (by rw [exx]; rfl) ?_
  refine lv_istore (lv' := [(4, .int (iI (xx))), (3, .int (iI (M (30 + 4 * i) (0)))), (2, .ref (ad (29 + 4 * i))), (0, .ref (ad (3))), (1, .int (iI (((i : Nat) : Int))))]) hx hb d_LN_layLinesOf_29 hl (by decide) rfl (fun ls hl => ?_)
  refine lv_aload_n hx hb d_LN_layLinesOf_31 rfl (lv_at hl 2 rfl) ?_
  refine z_get (ci := 6) (C := R_PA) (T := T_PA) (N := 6) (v := .int (iI (M (29 + 4 * i) 4))) hx hb hg in_PA hown hK hP (29 + 4 * i) (by omega) (pg_par _ _ _ _ _) rfl 4 (by decide) (hg _ (List.mem_append_right _ (List.mem_append_right _ (List.mem_append_left _ (List.mem_of_getElem? (i := 6) rfl))))) (fun _ h9 => h9) rfl d_LN_layLinesOf_32 ?_
  refine lv_aload_n hx hb d_LN_layLinesOf_35 rfl (lv_at hl 2 rfl) ?_
  refine z_get (ci := 6) (C := R_PA) (T := T_PA) (N := 6) (v := .int (iI (M (29 + 4 * i) 5))) hx hb hg in_PA hown hK hP (29 + 4 * i) (by omega) (pg_par _ _ _ _ _) rfl 5 (by decide) (hg _ (List.mem_append_right _ (List.mem_append_right _ (List.mem_append_left _ (List.mem_of_getElem? (i := 8) rfl))))) (fun _ h9 => h9) rfl d_LN_layLinesOf_36 ?_
  refine z_icmp_lt hx hb (tgt := 57) d_LN_layLinesOf_39 (by decide) ⟨by omega, by omega⟩ ⟨by omega, by omega⟩ (fun c_39 => ?_) (fun c_39 => ?_)
  · refine lv_aload_n hx hb d_LN_layLinesOf_57 rfl (lv_at hl 2 rfl) ?_
    refine z_get (ci := 6) (C := R_PA) (T := T_PA) (N := 6) (v := .int (iI (M (29 + 4 * i) 4))) hx hb hg in_PA hown hK hP (29 + 4 * i) (by omega) (pg_par _ _ _ _ _) rfl 4 (by decide) (hg _ (List.mem_append_right _ (List.mem_append_right _ (List.mem_append_left _ (List.mem_of_getElem? (i := 6) rfl))))) (fun _ h9 => h9) rfl d_LN_layLinesOf_58 ?_
    refine lv_istore (lv' := [(5, .int (iI (M (29 + 4 * i) 4))), (4, .int (iI (xx))), (3, .int (iI (M (30 + 4 * i) (0)))), (2, .ref (ad (29 + 4 * i))), (0, .ref (ad (3))), (1, .int (iI (((i : Nat) : Int))))]) hx hb d_LN_layLinesOf_61 hl (by decide) rfl (fun ls hl => ?_)
    have hl : lv_has ls 7 [(5, .int (iI (((pf M i : Nat) : Int)))), (4, .int (iI (xx))), (3, .int (iI (M (30 + 4 * i) 0))), (2, .ref (ad (29 + 4 * i))), (0, .ref (ad (3))), (1, .int (iI (((i : Nat) : Int))))] := by rw [epf] at hl; exact lv_sub hl [0, 1, 2, 3, 4, 5] rfl
    refine lp_layLinesOf hx hb hml hg hown hK hA i hw ht (q_par M i) (fun u H locs ls hP hD hS hl => ?_) (pb M i - pf M i) (pf M i) xx rp M (by omega) (by omega) hxx eqL_rf (by omega) (by unfold q_par; rw [if_neg (by omega), ← exx]) s.heap [] ls hP hD hS hl
    have hM : q_par M i = q_par M i := rfl
    have eW : pg_w ad cs u (q_par M i) = pg_w ad cs u (q_par M i) := congrArg (pg_w ad cs u) hM
    have hP := Eq.mp (congrArg (fun q => va_P D vwCl q _) eW) hP
    have hD := Eq.mp (congrArg (va_D _) eW) hD
    exact W.vret hx hb hr (fun t ht hW => ⟨⟨u, rfl, trivial, by rw [ht]; exact hP, va_K.moved hW.alike hK, hD⟩, hS.F ht⟩) hS.2.2 d_LN_layLinesOf_111
  · refine lv_aload_n hx hb d_LN_layLinesOf_42 rfl (lv_at hl 3 rfl) ?_
    refine lv_iload_n hx hb d_LN_layLinesOf_43 rfl (lv_at hl 4 rfl) ?_
    refine lv_aload_n hx hb d_LN_layLinesOf_44 rfl (lv_at hl 2 rfl) ?_
    refine z_get (ci := 6) (C := R_PA) (T := T_PA) (N := 6) (v := .int (iI (M (29 + 4 * i) 4))) hx hb hg in_PA hown hK hP (29 + 4 * i) (by omega) (pg_par _ _ _ _ _) rfl 4 (by decide) (hg _ (List.mem_append_right _ (List.mem_append_right _ (List.mem_append_left _ (List.mem_of_getElem? (i := 6) rfl))))) (fun _ h9 => h9) rfl d_LN_layLinesOf_45 ?_
    refine lv_aload_n hx hb d_LN_layLinesOf_48 rfl (lv_at hl 2 rfl) ?_
    refine z_get (ci := 6) (C := R_PA) (T := T_PA) (N := 6) (v := .int (iI (M (29 + 4 * i) 4))) hx hb hg in_PA hown hK hP (29 + 4 * i) (by omega) (pg_par _ _ _ _ _) rfl 4 (by decide) (hg _ (List.mem_append_right _ (List.mem_append_right _ (List.mem_append_left _ (List.mem_of_getElem? (i := 6) rfl))))) (fun _ h9 => h9) rfl d_LN_layLinesOf_49 ?_
    refine lv_iload hx hb d_LN_layLinesOf_52 (lv_at hl 0 rfl) ?_
    refine rw_Vv (As := [.int (iI (((i : Nat) : Int))), .int (iI (M (29 + 4 * i) 4)), .int (iI (M (29 + 4 * i) 4)), .int (iI (xx))]) (rest := []) (w' := (pg_w ad cs rp (q_ad M i (pn M i) (pf M i) (pf M i) (pb M i) (nlM M) xx))) ⟨hx, hb, hml, hown, hg⟩ (epf ▸ c_addLine l _ i (pn M i) (pf M i) (pf M i) (pb M i) (nlM M) xx (by omega) (by omega) (by omega) (fun _ => by omega) hw.1 ht hxx epb hn (by omega) hw.2.2.2.1 (by have := hw.2.2.2.2.2.2.2.1; exact this) (by have := hw.2.2.2.2.2.2.2.2.2.2.2.2; omega)) (cwV 4 hg (gt_V (List.mem_append_right _ (List.mem_append_right _ (List.mem_append_right _ (List.mem_append_right _ (List.mem_append_right _ (List.mem_append_left _ (List.mem_of_getElem? (i := 30) rfl))))))) (List.mem_append_right _ (List.mem_append_right _ (List.mem_append_right _ (List.mem_append_right _ (List.mem_append_right _ (List.mem_append_left _ (List.mem_of_getElem? (i := 31) rfl))))))) (List.mem_append_left _ (List.mem_of_getElem? (i := 2) rfl)) (List.mem_append_right _ (List.mem_append_left _ (List.mem_of_getElem? (i := 6) rfl))) (List.mem_append_right _ (List.mem_append_right _ (List.mem_append_right _ (List.mem_append_right _ (List.mem_append_right _ (List.mem_append_left _ (List.mem_of_getElem? (i := 32) rfl)))))))) rfl rfl rfl (by decide +kernel) ⟨Nat.le_of_ble_eq_true rfl, Nat.le_of_ble_eq_true rfl⟩) hK hP hD hS hA (va_recv hK hP (ci := 3) (q0 := 3) rfl (wl_atE (by decide) rfl)) rfl hl.1 rfl (Nat.le_of_ble_eq_true rfl) d_LN_layLinesOf_54 ⟨Nat.zero_le _, Nat.zero_le _⟩ (fun H locs hP hD hS => ?_)
    obtain ⟨M_1, eM_1⟩ : ∃ q_, q_ = q_ad M i (pn M i) (pf M i) (pf M i) (pb M i) (nlM M) xx := ⟨_, rfl⟩
    have hP : va_P D vwCl (pg_w ad cs rp M_1) H := by rw [eM_1]; exact hP
    have hD : va_D (va_A (pg_w ad cs rp M) s.heap.size) (pg_w ad cs rp M_1) := by rw [eM_1]; exact hD
    refine lv_aload_n hx hb d_LN_layLinesOf_57 rfl (lv_at hl 2 rfl) ?_
    refine z_get (ci := 6) (C := R_PA) (T := T_PA) (N := 6) (v := .int (iI (M_1 (29 + 4 * i) 4))) hx hb hg in_PA hown hK hP (29 + 4 * i) (by omega) (pg_par _ _ _ _ _) rfl 4 (by decide) (hg _ (List.mem_append_right _ (List.mem_append_right _ (List.mem_append_left _ (List.mem_of_getElem? (i := 6) rfl))))) (fun _ h9 => h9) rfl d_LN_layLinesOf_58 ?_
    refine lv_istore (lv' := [(5, .int (iI (M_1 (29 + 4 * i) 4))), (4, .int (iI (xx))), (3, .int (iI (M (30 + 4 * i) (0)))), (2, .ref (ad (29 + 4 * i))), (0, .ref (ad (3))), (1, .int (iI (((i : Nat) : Int))))]) hx hb d_LN_layLinesOf_61 hl (by decide) rfl (fun ls hl => ?_)
    have q29 : M_1 (29 + 4 * i) = M (29 + 4 * i) := by rw [eM_1]; exact eqL_29 (q_ad_eqL _ _ _ _ _ _ _ _) i
    have q4 : M_1 (29 + 4 * i) 4 = M (29 + 4 * i) 4 := by rw [q29]
    have q5 : M_1 (29 + 4 * i) 5 = M (29 + 4 * i) 5 := by rw [q29]
    refine lv_iload hx hb d_LN_layLinesOf_63 (lv_at hl 0 rfl) ?_
    refine lv_aload_n hx hb d_LN_layLinesOf_65 rfl (lv_at hl 3 rfl) ?_
    refine z_get (ci := 6) (C := R_PA) (T := T_PA) (N := 6) (v := .int (iI (M_1 (29 + 4 * i) 5))) hx hb hg in_PA hown hK hP (29 + 4 * i) (by omega) (pg_par _ _ _ _ _) rfl 5 (by decide) (hg _ (List.mem_append_right _ (List.mem_append_right _ (List.mem_append_left _ (List.mem_of_getElem? (i := 8) rfl))))) (fun _ h9 => h9) rfl d_LN_layLinesOf_66 ?_
    refine z_icmp_ge hx hb (tgt := 111) d_LN_layLinesOf_69 (by decide) ⟨by omega, by omega⟩ ⟨by omega, by omega⟩ (fun c_69 => ?_) (fun c_69 => ?_)
    · have hM : M_1 = q_par M i := by rw [eM_1]; unfold q_par; rw [if_pos (by omega), ← exx]
      have eW : pg_w ad cs rp (M_1) = pg_w ad cs rp (q_par M i) := congrArg (pg_w ad cs rp) hM
      have hP := Eq.mp (congrArg (fun q => va_P D vwCl q _) eW) hP
      have hD := Eq.mp (congrArg (va_D _) eW) hD
      exact W.vret hx hb hr (fun t ht hW => ⟨⟨rp, rfl, trivial, by rw [ht]; exact hP, va_K.moved hW.alike hK, hD⟩, hS.F ht⟩) hS.2.2 d_LN_layLinesOf_111
    · exact absurd c_69 (by omega)
set_option maxHeartbeats 4000000 in
set_option maxRecDepth 100000 in
theorem lp_layAll {p : Program} {l : Launch} {e : Env} {s : State} {m : MethodId} {args : Array Value} {below : List Frame} {meth : Method} {c : Code} {Q : State → Prop} {A : Nat → Prop} {H0 : Heap} {D : va_G} {ad : Nat → Nat} {cs : pg_C}  (hx : p.tables.exec = Jvm.exec) (hb : c.code = b_LN_layAll) (hml : c.maxLocals = 2) (hg : ∀ w ∈ gt, w.before args s = true) (hown : s.vm.findClass R_LN = some m.cls) (hK : va_K D vwCl (pg_tys cs) s) (hA : ∀ q, H0.size ≤ q → A q) {M0 : Nat → Nat → Int} (np : Nat) (hw : ∀ i, i < np → wfX M0 i) (hT : wfT M0) (hp1 : M0 1 4 = ((np : Nat) : Int)) (hp30 : np ≤ 30) (hch : ∀ i, i + 1 < np → M0 (29 + 4 * (i + 1)) 4 = M0 (29 + 4 * i) 5) (MF : Nat → Nat → Int) (kk : ∀ (u : Option Nat) (H : Heap) (locs : List Loc) (ls : Array Slot), va_P D vwCl (pg_w ad cs u MF) H → va_D A (pg_w ad cs u MF) → va_S A H0 H locs → lv_has ls 2 [] → W p l e ({ frames := 7, cells := 0, slots := 0, locals := 167 } : Room) s m args below meth c H locs 0 0 Q (F0 m 29 ls [])) : ∀ (f i : Nat) (rp : Option Nat) (M : Nat → Nat → Int), i + f = np → eqL M M0 → 0 ≤ M 3 2 ∧ (i < np → M 3 2 ≤ M0 (29 + 4 * i) 4 + ((i : Nat) : Int)) → q_all f i M = MF → ∀ (H : Heap) (locs : List Loc) (ls : Array Slot), va_P D vwCl (pg_w ad cs rp M) H → va_D A (pg_w ad cs rp M) → va_S A H0 H locs → lv_has ls 2 [(1, .int (iI (((i : Nat) : Int)))), (0, .ref (ad (3)))] → W p l e ({ frames := 7, cells := 0, slots := 0, locals := 167 } : Room) s m args below meth c H locs 0 0 Q (F0 m 7 ls []) := by
  intro f
  induction f with
  | zero =>
    intro i rp M hf hq hnl he H locs ls hP hD hS hl
    have e1 : M 1 = M0 1 := hq 1 (by omega) (by omega) (by omega)
    have h14 : M 1 4 = ((np : Nat) : Int) := by rw [e1]; exact hp1
    refine lv_iload_n hx hb d_LN_layAll_7 rfl (lv_at hl 0 rfl) ?_
    refine lv_aload_n hx hb d_LN_layAll_8 rfl (lv_at hl 1 rfl) ?_
    refine z_get (ci := 3) (C := R_LN) (T := T_LN) (N := 6) (v := .ref (ad (1))) hx hb hg in_LN hown hK hP (3) (by decide) rfl rfl 3 (by decide) (hg _ (List.mem_append_right _ (List.mem_append_right _ (List.mem_append_right _ (List.mem_append_right _ (List.mem_append_left _ (List.mem_of_getElem? (i := 11) rfl))))))) (fun _ h9 => h9) rfl d_LN_layAll_9 ?_
    refine z_get (ci := 1) (C := R_TX) (T := T_TX) (N := 6) (v := .int (iI (M (1) 4))) hx hb hg in_TX hown hK hP (1) (by decide) rfl rfl 4 (by decide) (hg _ (List.mem_append_right _ (List.mem_append_right _ (List.mem_append_left _ (List.mem_of_getElem? (i := 29) rfl))))) (fun _ h9 => h9) rfl d_LN_layAll_12 ?_
    refine z_icmp_ge hx hb (tgt := 29) d_LN_layAll_15 (by decide) ⟨by omega, by omega⟩ ⟨by omega, by omega⟩ (fun c_15 => ?_) (fun c_15 => ?_)
    · have he : M = MF := he
      subst he
      exact kk rp H locs ls hP hD hS (lv_sub hl [] rfl)
    · exact absurd c_15 (by omega)
  | succ f ih =>
    intro i rp M hf hq hnl he H locs ls hP hD hS hl
    have e1 : M 1 = M0 1 := hq 1 (by omega) (by omega) (by omega)
    have h14 : M 1 4 = ((np : Nat) : Int) := by rw [e1]; exact hp1
    refine lv_iload_n hx hb d_LN_layAll_7 rfl (lv_at hl 0 rfl) ?_
    refine lv_aload_n hx hb d_LN_layAll_8 rfl (lv_at hl 1 rfl) ?_
    refine z_get (ci := 3) (C := R_LN) (T := T_LN) (N := 6) (v := .ref (ad (1))) hx hb hg in_LN hown hK hP (3) (by decide) rfl rfl 3 (by decide) (hg _ (List.mem_append_right _ (List.mem_append_right _ (List.mem_append_right _ (List.mem_append_right _ (List.mem_append_left _ (List.mem_of_getElem? (i := 11) rfl))))))) (fun _ h9 => h9) rfl d_LN_layAll_9 ?_
    refine z_get (ci := 1) (C := R_TX) (T := T_TX) (N := 6) (v := .int (iI (M (1) 4))) hx hb hg in_TX hown hK hP (1) (by decide) rfl rfl 4 (by decide) (hg _ (List.mem_append_right _ (List.mem_append_right _ (List.mem_append_left _ (List.mem_of_getElem? (i := 29) rfl))))) (fun _ h9 => h9) rfl d_LN_layAll_12 ?_
    refine z_icmp_ge hx hb (tgt := 29) d_LN_layAll_15 (by decide) ⟨by omega, by omega⟩ ⟨by omega, by omega⟩ (fun c_15 => ?_) (fun c_15 => ?_)
    · exact absurd c_15 (by omega)
    · refine lv_aload_n hx hb d_LN_layAll_18 rfl (lv_at hl 1 rfl) ?_
      refine lv_iload_n hx hb d_LN_layAll_19 rfl (lv_at hl 0 rfl) ?_
      have hwi : wfX M i := eqL_wfX hq (hw i (by omega))
      have hni := hnl.2 (by omega)
      refine rw_VvX (As := [.int (iI (((i : Nat) : Int)))]) (rest := []) (w' := fun u => pg_w ad cs u (q_par M i)) ⟨hx, hb, hml, hown, hg⟩ (c_layLinesOf l _ i hwi (eqL_wfT hq hT) (by rw [eqL_29 hq]; omega)) (cwV 1 hg (gt_V (List.mem_append_right _ (List.mem_append_right _ (List.mem_append_right _ (List.mem_append_right _ (List.mem_append_right _ (List.mem_append_left _ (List.mem_of_getElem? (i := 24) rfl))))))) (List.mem_append_right _ (List.mem_append_right _ (List.mem_append_right _ (List.mem_append_right _ (List.mem_append_right _ (List.mem_append_left _ (List.mem_of_getElem? (i := 25) rfl))))))) (List.mem_append_left _ (List.mem_of_getElem? (i := 1) rfl)) (List.mem_append_right _ (List.mem_append_left _ (List.mem_of_getElem? (i := 6) rfl))) (List.mem_append_right _ (List.mem_append_right _ (List.mem_append_right _ (List.mem_append_right _ (List.mem_append_right _ (List.mem_append_left _ (List.mem_of_getElem? (i := 26) rfl)))))))) rfl rfl rfl (by decide +kernel) ⟨Nat.le_of_ble_eq_true rfl, Nat.le_of_ble_eq_true rfl⟩) hK hP hD hS hA (va_recv hK hP (ci := 3) (q0 := 3) rfl (wl_atE (by decide) rfl)) rfl hl.1 rfl (Nat.le_of_ble_eq_true rfl) d_LN_layAll_20 ⟨Nat.zero_le _, Nat.zero_le _⟩ (fun u_1 H locs hP hD hS => ?_)
      obtain ⟨M_2, eM_2⟩ : ∃ q_, q_ = q_par M i := ⟨_, rfl⟩
      have hP : va_P D vwCl (pg_w ad cs u_1 M_2) H := by rw [eM_2]; exact hP
      have hD : va_D A (pg_w ad cs u_1 M_2) := by rw [eM_2]; exact hD
      refine z_iinc (v := ((i + 1 : Nat) : Int)) (lv' := [(1, .int (iI (((i + 1 : Nat) : Int)))), (0, .ref (ad (3)))]) hx hb d_LN_layAll_23 hl (k := 0) rfl (by omega) (by decide) rfl (fun ls hl => ?_)
      refine lv_goto (tgt := 7) hx hb d_LN_layAll_26 (by decide) ?_
      have hb := q_par_n M i hwi (by rw [eqL_29 hq]; omega)
      rw [← eM_2, eqL_29 hq] at hb
      exact ih (i + 1) u_1 M_2 (by omega) (eqL_tr (by rw [eM_2]; exact q_par_eqL _ _) hq) ⟨hb.1, fun h => by rw [hch i h]; omega⟩ (by rw [← he, eM_2]; rfl) H locs ls hP hD hS (lv_sub hl [0, 1] rfl)
set_option maxHeartbeats 4000000 in
set_option maxRecDepth 100000 in
/-- Lines.layAll -/
theorem c_layAll (l : Launch) {D : va_G} {ad : Nat → Nat} {cs : pg_C} {rp : Option Nat} {M : Nat → Nat → Int} (sz : Nat) (np : Nat) (hw : ∀ i, i < np → wfX M i) (hT : wfT M) (hp1 : M 1 4 = ((np : Nat) : Int)) (hp30 : np ≤ 30) (hch : ∀ i, i + 1 < np → M (29 + 4 * (i + 1)) 4 = M (29 + 4 * i) 5) (hf0 : 0 < np → M 29 4 = 0) : Met l y_LN_layAll ws_LN_layAll ({ frames := 7, cells := 0, slots := 0, locals := 167 } : Room) (va_Pc [.ref (ad (3))] (rw_B D vwCl (pg_tys cs) (pg_w ad cs rp M) sz)) (va_Qv (fun _ : Option Nat => True) (rw_EX D vwCl (pg_tys cs) (pg_w ad cs rp M) (fun u => pg_w ad cs u (q_all np 0 (mset M 3 2 0))) sz) (va_A (pg_w ad cs rp M) sz)) 0 0 (va_A (pg_w ad cs rp M) sz) := by
  refine Met.ofW (cc := b_LN_layAll) (maxL := 2) (ret := none) (by decide) rfl ?_
  intro p e s m args below meth c s₁ B hml hv
  obtain ⟨rfl, hsz, hP, hK, hD0⟩ := hv
  have hx := B.exec
  have hb := B.bytes
  have hr := B.returns
  have hts := atoms_spec (ws := ws_LN_layAll) B.pre
  have hg : ∀ w ∈ gt, w.before _ s = true := fun w h => hts w (List.mem_cons_of_mem _ h)
  have hown : s.vm.findClass R_LN = some m.cls := findClass_of_methodNamed B.named
  have hlocks := B.notSynchronized
  subst hsz
  have hD := hD0.self (sz := s.heap.size)
  have hA : ∀ q : Nat, s.heap.size ≤ q → va_A (pg_w ad cs rp M) s.heap.size q := fun q h => Or.inr h
  have hS : va_S (va_A (pg_w ad cs rp M) s.heap.size) s.heap s.heap [] := va_S.rf
  have hl := lv_entry ([.ref (ad (3))]) (n := 2) (Nat.le_of_ble_eq_true rfl)
  rw [lg_entry_eq]
  generalize (lg_sl ([.ref (ad (3))]) ++ List.replicate (2 - (lg_sl ([.ref (ad (3))])).length) Slot.unset).toArray = ls at hl ⊢
  have hl : lv_has ls 2 [(0, .ref (ad (3)))] := hl
  refine lv_aload_n hx hb d_LN_layAll_0 rfl (lv_at hl 0 rfl) ?_
  refine z_iconst hx hb (z := 0) d_LN_layAll_1 ?_
  refine z_put (ci := 3) (C := R_LN) (T := T_LN) (N := 6) (v := .int (iI (0))) (ty := .int) (ce' := (pg_ce ad cs rp)) (r := va_up (M (3)) 2 (0)) hx hb hg in_LN ty_LN tk_LN nm_LN hown hK hP hD hS (3) (by decide) rfl rfl 2 (by decide) (hg _ (List.mem_append_right _ (List.mem_append_right _ (List.mem_append_right _ (List.mem_append_right _ (List.mem_append_left _ (List.mem_of_getElem? (i := 8) rfl))))))) (fun _ h9 => h9) rfl (by decide +kernel) rfl rfl (Nat.le_of_ble_eq_true rfl) (fun _ _ => rfl) rfl d_LN_layAll_2 (fun H locs hP hD hS => ?_)
  obtain ⟨M_1, eM_1⟩ : ∃ q_, q_ = mset M (3) (2) (0) := ⟨_, rfl⟩
  have hP : va_P D vwCl (pg_w ad cs rp M_1) H := by rw [eM_1]; exact hP
  have hD : va_D (va_A (pg_w ad cs rp M) s.heap.size) (pg_w ad cs rp M_1) := by rw [eM_1]; exact hD
  refine z_iconst hx hb (z := 0) d_LN_layAll_5 ?_
  refine lv_istore_n (lv' := [(1, .int (iI (0))), (0, .ref (ad (3)))]) hx hb d_LN_layAll_6 rfl hl (by decide) rfl (fun ls hl => ?_)
  have h32 : M_1 3 2 = 0 := by rw [eM_1]; exact mset_same _ _ _ _
  refine lp_layAll hx hb hml hg hown hK hA np hw hT hp1 hp30 hch (q_all np 0 (mset M 3 2 0)) (fun u H locs ls hP hD hS hl => ?_) np 0 rp M_1 (by omega) (by rw [eM_1]; exact eqL_n) ⟨by omega, fun h => by rw [h32, show 29 + 4 * 0 = 29 by omega, hf0 h]; omega⟩ (by rw [eM_1]) H locs ls hP hD hS (lv_sub hl [0, 1] rfl)
  have hM : q_all np 0 (mset M 3 2 0) = q_all np 0 (mset M 3 2 0) := rfl
  have eW : pg_w ad cs u (q_all np 0 (mset M 3 2 0)) = pg_w ad cs u (q_all np 0 (mset M 3 2 0)) := congrArg (pg_w ad cs u) hM
  have hP := Eq.mp (congrArg (fun q => va_P D vwCl q _) eW) hP
  have hD := Eq.mp (congrArg (va_D _) eW) hD
  exact W.vret hx hb hr (fun t ht hW => ⟨⟨u, rfl, trivial, by rw [ht]; exact hP, va_K.moved hW.alike hK, hD⟩, hS.F ht⟩) hS.2.2 d_LN_layAll_29
