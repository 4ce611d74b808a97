set_option maxHeartbeats 4000000 in
set_option maxRecDepth 100000 in
/-- PageLayout.lay -/
theorem c_lay (l : Launch) {D : va_G} {ad : Nat → Nat} {cs : pg_C} {rp : Option Nat} {M : Nat → Nat → Int} (sz : Nat) (np : Nat) (hX : ∀ i, i < 30 → wfX M i) (hL : wfl M) (hT : wfT M) (hla : M 0 4 = 0 ∨ M 0 4 = 1) (hp1 : M 1 4 = ((np : Nat) : Int)) (hp30 : np ≤ 30) (hch : ∀ i, i + 1 < np → M (29 + 4 * (i + 1)) 4 = M (29 + 4 * i) 5) (hf0 : 0 < np → M 29 4 = 0) : Met l y_PL_lay ws_PL_lay ({ frames := 8, cells := 0, slots := 0, locals := 188 } : Room) (va_Pc [.ref (ad (0))] (rw_B D vwCl (pg_tys cs) (pg_w ad cs rp M) sz)) (va_Qi (fun (r : Int32) (_ : Option Nat) => r = iI ((if M 0 4 = 0 then q_lay M np else M) 5 1)) (rw_EX D vwCl (pg_tys cs) (pg_w ad cs rp M) (fun u => pg_w ad cs u (if M 0 4 = 0 then q_lay M np else M)) sz) (va_A (pg_w ad cs rp M) sz)) 0 0 (va_A (pg_w ad cs rp M) sz) := by
  refine Met.ofW (cc := b_PL_lay) (maxL := 1) (ret := (some .int)) (by decide) rfl ?_
  intro p e s m args below meth c s₁ B hml hv
  obtain ⟨rfl, hsz, hP, hK, hD0⟩ := hv
  have hx := B.exec
  have hb := B.bytes
  have hr := B.returns
  have hts := atoms_spec (ws := ws_PL_lay) B.pre
  have hg : ∀ w ∈ gt, w.before _ s = true := fun w h => hts w (List.mem_cons_of_mem _ h)
  have hown : s.vm.findClass R_PL = some m.cls := findClass_of_methodNamed B.named
  have hlocks := B.notSynchronized
  subst hsz
  have hD := hD0.self (sz := s.heap.size)
  have hA : ∀ q : Nat, s.heap.size ≤ q → va_A (pg_w ad cs rp M) s.heap.size q := fun q h => Or.inr h
  have hS : va_S (va_A (pg_w ad cs rp M) s.heap.size) s.heap s.heap [] := va_S.rf
  have hl := lv_entry ([.ref (ad (0))]) (n := 1) (Nat.le_of_ble_eq_true rfl)
  rw [lg_entry_eq]
  generalize (lg_sl ([.ref (ad (0))]) ++ List.replicate (1 - (lg_sl ([.ref (ad (0))])).length) Slot.unset).toArray = ls at hl ⊢
  have hl : lv_has ls 1 [(0, .ref (ad (0)))] := hl
  refine lv_aload_n hx hb d_PL_lay_0 rfl (lv_at hl 0 rfl) ?_
  refine z_get (ci := 0) (C := R_PL) (T := T_PL) (N := 5) (v := .int (iI (M (0) 4))) hx hb hg in_PL hown hK hP (0) (by decide) rfl rfl 4 (by decide) (hg _ (List.mem_append_right _ (List.mem_append_right _ (List.mem_append_right _ (List.mem_append_right _ (List.mem_append_right _ (List.mem_append_left _ (List.mem_of_getElem? (i := 3) rfl)))))))) (fun _ h9 => h9) rfl d_PL_lay_1 ?_
  refine z_if_ne hx hb (tgt := 26) d_PL_lay_4 (by decide) ⟨by omega, by omega⟩ (fun c_4 => ?_) (fun c_4 => ?_)
  · refine lv_aload_n hx hb d_PL_lay_26 rfl (lv_at hl 0 rfl) ?_
    refine z_get (ci := 0) (C := R_PL) (T := T_PL) (N := 5) (v := .ref (ad (5))) hx hb hg in_PL hown hK hP (0) (by decide) rfl rfl 3 (by decide) (hg _ (List.mem_append_right _ (List.mem_append_right _ (List.mem_append_right _ (List.mem_append_right _ (List.mem_append_right _ (List.mem_append_left _ (List.mem_of_getElem? (i := 2) rfl)))))))) (fun _ h9 => h9) rfl d_PL_lay_27 ?_
    refine z_get (ci := 5) (C := R_PG) (T := T_PG) (N := 5) (v := .int (iI (M (5) 1))) hx hb hg in_PG hown hK hP (5) (by decide) rfl rfl 1 (by decide) (hg _ (List.mem_append_right _ (List.mem_append_right _ (List.mem_append_right _ (List.mem_append_right _ (List.mem_append_left _ (List.mem_of_getElem? (i := 30) rfl))))))) (fun _ h9 => h9) rfl d_PL_lay_30 ?_
    have hM : M = if M 0 4 = 0 then q_lay M np else M := by rw [if_neg c_4]
    have eW : pg_w ad cs rp (M) = pg_w ad cs rp (if M 0 4 = 0 then q_lay M np else M) := congrArg (pg_w ad cs rp) hM
    have hP := Eq.mp (congrArg (fun q => va_P D vwCl q _) eW) hP
    have hD := Eq.mp (congrArg (va_D _) eW) hD
    exact W.iret (v := iI (M (5) 1)) hx hb hr (fun t ht hW => ⟨⟨_, rp, rfl, by rw [← hM], by rw [ht]; exact hP, va_K.moved hW.alike hK, hD⟩, hS.F ht⟩) hS.2.2 d_PL_lay_33
  · refine lv_aload_n hx hb d_PL_lay_7 rfl (lv_at hl 0 rfl) ?_
    refine z_get (ci := 0) (C := R_PL) (T := T_PL) (N := 5) (v := .ref (ad (3))) hx hb hg in_PL hown hK hP (0) (by decide) rfl rfl 2 (by decide) (hg _ (List.mem_append_right _ (List.mem_append_right _ (List.mem_append_right _ (List.mem_append_right _ (List.mem_append_right _ (List.mem_append_left _ (List.mem_of_getElem? (i := 1) rfl)))))))) (fun _ h9 => h9) rfl d_PL_lay_8 ?_
    refine rw_VvX (As := []) (rest := []) (w' := fun u => pg_w ad cs u (q_all np 0 (mset M 3 2 0))) ⟨hx, hb, hml, hown, hg⟩ (c_layAll l _ np (fun i h => hX i (by omega)) hT hp1 hp30 hch hf0) (cwV 0 hg (gt_V (List.mem_append_right _ (List.mem_append_right _ (List.mem_append_right _ (List.mem_append_right _ (List.mem_append_right _ (List.mem_append_left _ (List.mem_of_getElem? (i := 20) rfl))))))) (List.mem_append_right _ (List.mem_append_right _ (List.mem_append_right _ (List.mem_append_right _ (List.mem_append_right _ (List.mem_append_left _ (List.mem_of_getElem? (i := 21) rfl))))))) (List.mem_append_right _ (List.mem_append_right _ (List.mem_append_right _ (List.mem_append_right _ (List.mem_append_right _ (List.mem_append_left _ (List.mem_of_getElem? (i := 22) rfl))))))) (List.mem_append_right _ (List.mem_append_left _ (List.mem_of_getElem? (i := 6) rfl))) (List.mem_append_right _ (List.mem_append_right _ (List.mem_append_right _ (List.mem_append_right _ (List.mem_append_right _ (List.mem_append_left _ (List.mem_of_getElem? (i := 23) rfl)))))))) rfl rfl rfl (by decide +kernel) ⟨Nat.le_of_ble_eq_true rfl, Nat.le_of_ble_eq_true rfl⟩) hK hP hD hS hA (va_recv hK hP (ci := 3) (q0 := 3) rfl (wl_atE (by decide) rfl)) rfl hl.1 rfl (Nat.le_of_ble_eq_true rfl) d_PL_lay_11 ⟨Nat.zero_le _, Nat.zero_le _⟩ (fun u_1 H locs hP hD hS => ?_)
    obtain ⟨M_2, eM_2⟩ : ∃ q_, q_ = q_all np 0 (mset M 3 2 0) := ⟨_, rfl⟩
    have hP : va_P D vwCl (pg_w ad cs u_1 M_2) H := by rw [eM_2]; exact hP
    have hD : va_D (va_A (pg_w ad cs rp M) s.heap.size) (pg_w ad cs u_1 M_2) := by rw [eM_2]; exact hD
    have hq0 : eqL (mset M 3 2 0) M := eqL_n
    have hq : eqL M_2 M := by rw [eM_2]; exact eqL_tr (q_all_eqL _ _ _) hq0
    have hL1 : wfl M_2 := by rw [eM_2]; exact q_all_wfl np 0 _ (by omega) (wfl_n hL) (eqL_wfT hq0 hT) (fun k hk => eqL_wfX hq0 (hX k hk))
    have hnb : 0 ≤ M_2 3 2 ∧ M_2 3 2 ≤ 630 := by rw [eM_2]; refine q_all_n np 0 _ (by omega) (fun k hk => eqL_wfX hq0 (hX k hk)) (fun k hk => ?_) ⟨by rw [mset_same]; omega, fun h => ?_, by rw [mset_same]; omega⟩ <;> first | (rw [eqL_29 hq0, eqL_29 hq0]; exact hch k (by omega)) | (rw [mset_same, eqL_29 hq0, show 29 + 4 * 0 = 29 by omega, hf0 h]; omega)
    refine lv_aload_n hx hb d_PL_lay_14 rfl (lv_at hl 0 rfl) ?_
    refine z_get (ci := 0) (C := R_PL) (T := T_PL) (N := 5) (v := .ref (ad (5))) hx hb hg in_PL hown hK hP (0) (by decide) rfl rfl 3 (by decide) (hg _ (List.mem_append_right _ (List.mem_append_right _ (List.mem_append_right _ (List.mem_append_right _ (List.mem_append_right _ (List.mem_append_left _ (List.mem_of_getElem? (i := 2) rfl)))))))) (fun _ h9 => h9) rfl d_PL_lay_15 ?_
    refine rw_Vv (As := []) (rest := []) (w' := (pg_w ad cs u_1 (q_fill (nlM M_2) 0 (mset M_2 5 1 0)))) ⟨hx, hb, hml, hown, hg⟩ (c_fillAll l _ (nlM M_2) (fun i h => eqL_wfX hq (hX i h)) hL1 (eqL_wfT hq hT) (by unfold nlM; omega) (by unfold nlM; omega)) (cwV 0 hg (gt_V (List.mem_append_right _ (List.mem_append_right _ (List.mem_append_right _ (List.mem_append_right _ (List.mem_append_right _ (List.mem_append_right _ (List.mem_append_right _ (List.mem_append_left _ (List.mem_of_getElem? (i := 31) rfl))))))))) (List.mem_append_right _ (List.mem_append_right _ (List.mem_append_right _ (List.mem_append_right _ (List.mem_append_right _ (List.mem_append_right _ (List.mem_append_right _ (List.mem_append_left _ (List.mem_of_getElem? (i := 32) rfl))))))))) (List.mem_append_right _ (List.mem_append_right _ (List.mem_append_right _ (List.mem_append_right _ (List.mem_append_right _ (List.mem_append_right _ (List.mem_append_right _ (List.mem_append_left _ (List.mem_of_getElem? (i := 33) rfl))))))))) (List.mem_append_right _ (List.mem_append_left _ (List.mem_of_getElem? (i := 8) rfl))) (List.mem_append_right _ (List.mem_append_right _ (List.mem_append_right _ (List.mem_append_right _ (List.mem_append_right _ (List.mem_append_right _ (List.mem_append_right _ (List.mem_append_left _ (List.mem_of_getElem? (i := 34) rfl)))))))))) rfl rfl rfl (by decide +kernel) ⟨Nat.le_of_ble_eq_true rfl, Nat.le_of_ble_eq_true rfl⟩) hK hP hD hS hA (va_recv hK hP (ci := 5) (q0 := 5) rfl (wl_atE (by decide) rfl)) rfl hl.1 rfl (Nat.le_of_ble_eq_true rfl) d_PL_lay_18 ⟨Nat.zero_le _, Nat.zero_le _⟩ (fun H locs hP hD hS => ?_)
    obtain ⟨M_3, eM_3⟩ : ∃ q_, q_ = q_fill (nlM M_2) 0 (mset M_2 5 1 0) := ⟨_, rfl⟩
    have hP : va_P D vwCl (pg_w ad cs u_1 M_3) H := by rw [eM_3]; exact hP
    have hD : va_D (va_A (pg_w ad cs rp M) s.heap.size) (pg_w ad cs u_1 M_3) := by rw [eM_3]; exact hD
    refine lv_aload_n hx hb d_PL_lay_21 rfl (lv_at hl 0 rfl) ?_
    refine z_iconst hx hb (z := 1) d_PL_lay_22 ?_
    refine z_put (ci := 0) (C := R_PL) (T := T_PL) (N := 5) (v := .int (iI (1))) (ty := .boolean) (ce' := (pg_ce ad cs u_1)) (r := va_up (M_3 (0)) 4 (1)) hx hb hg in_PL ty_PL tk_PL nm_PL hown hK hP hD hS (0) (by decide) rfl rfl 4 (by decide) (hg _ (List.mem_append_right _ (List.mem_append_right _ (List.mem_append_right _ (List.mem_append_right _ (List.mem_append_right _ (List.mem_append_left _ (List.mem_of_getElem? (i := 3) rfl)))))))) (fun _ h9 => h9) rfl (by decide +kernel) rfl rfl (Nat.le_of_ble_eq_true rfl) (fun _ _ => rfl) rfl d_PL_lay_23 (fun H locs hP hD hS => ?_)
    obtain ⟨M_4, eM_4⟩ : ∃ q_, q_ = mset M_3 (0) (4) (1) := ⟨_, rfl⟩
    have hP : va_P D vwCl (pg_w ad cs u_1 M_4) H := by rw [eM_4]; exact hP
    have hD : va_D (va_A (pg_w ad cs rp M) s.heap.size) (pg_w ad cs u_1 M_4) := by rw [eM_4]; exact hD
    refine lv_aload_n hx hb d_PL_lay_26 rfl (lv_at hl 0 rfl) ?_
    refine z_get (ci := 0) (C := R_PL) (T := T_PL) (N := 5) (v := .ref (ad (5))) hx hb hg in_PL hown hK hP (0) (by decide) rfl rfl 3 (by decide) (hg _ (List.mem_append_right _ (List.mem_append_right _ (List.mem_append_right _ (List.mem_append_right _ (List.mem_append_right _ (List.mem_append_left _ (List.mem_of_getElem? (i := 2) rfl)))))))) (fun _ h9 => h9) rfl d_PL_lay_27 ?_
    refine z_get (ci := 5) (C := R_PG) (T := T_PG) (N := 5) (v := .int (iI (M_4 (5) 1))) hx hb hg in_PG hown hK hP (5) (by decide) rfl rfl 1 (by decide) (hg _ (List.mem_append_right _ (List.mem_append_right _ (List.mem_append_right _ (List.mem_append_right _ (List.mem_append_left _ (List.mem_of_getElem? (i := 30) rfl))))))) (fun _ h9 => h9) rfl d_PL_lay_30 ?_
    have hM : M_4 = if M 0 4 = 0 then q_lay M np else M := by rw [if_pos (by omega)]; unfold q_lay; rw [eM_4, eM_3, ← eM_2]
    have eW : pg_w ad cs u_1 (M_4) = pg_w ad cs u_1 (if M 0 4 = 0 then q_lay M np else M) := congrArg (pg_w ad cs u_1) hM
    have hP := Eq.mp (congrArg (fun q => va_P D vwCl q _) eW) hP
    have hD := Eq.mp (congrArg (va_D _) eW) hD
    exact W.iret (v := iI (M_4 (5) 1)) hx hb hr (fun t ht hW => ⟨⟨_, u_1, rfl, by rw [← hM], by rw [ht]; exact hP, va_K.moved hW.alike hK, hD⟩, hS.F ht⟩) hS.2.2 d_PL_lay_33
