set_option maxHeartbeats 4000000 in
set_option maxRecDepth 100000 in
/-- count -/
theorem r_count (l : Launch) {D : va_G} {ad : Nat → Nat} {cs : ClassId} {M : Nat → Nat → Int} (sz : Nat) (np : Nat) (wh : Int) (hw : zb wh) (hnp : M 0 4 = ((np : Nat) : Int)) (hn : np ≤ 30) (hG : rG M) : Met l y_MO_count ws_MO_count ({ frames := 0, cells := 0, slots := 0, locals := 0 } : Room) (va_Pc [.ref (ad (0)), .int (iI (wh))] (rw_B D vwCl (mo_tys cs) (mo_w ad cs M) sz)) (va_Qi (fun (r : Int32) (_ : Unit) => r = iI (r_cnt M np wh)) (rw_E D vwCl (mo_tys cs) (mo_w ad cs M) (mo_w ad cs (mset M 0 0 0)) sz) (va_A (mo_w ad cs M) sz)) 0 0 (va_A (mo_w ad cs M) sz) := by
  refine Met.ofW (cc := b_MO_count) (maxL := 2) (ret := (some .int)) (by decide) rfl ?_
  intro p e s m args below meth c s₁ B hml hv
  obtain ⟨rfl, hsz, hP, hK, hD0⟩ := hv
  have hx := B.exec
  have hb := B.bytes
  have hr := B.returns
  have hts := atoms_spec (ws := ws_MO_count) B.pre
  have hg : ∀ w ∈ gt, w.before _ s = true := fun w h => hts w (List.mem_cons_of_mem _ h)
  have hown : s.vm.findClass R_MO = some m.cls := findClass_of_methodNamed B.named
  have hlocks := B.notSynchronized
  subst hsz
  have hD := hD0.self (sz := s.heap.size)
  have hA : ∀ q : Nat, s.heap.size ≤ q → va_A (mo_w ad cs M) s.heap.size q := fun q h => Or.inr h
  have hS : va_S (va_A (mo_w ad cs M) s.heap.size) s.heap s.heap [] := va_S.rf
  have hl := lv_entry ([.ref (ad (0)), .int (iI (wh))]) (n := 2) (Nat.le_of_ble_eq_true rfl)
  rw [lg_entry_eq]
  generalize (lg_sl ([.ref (ad (0)), .int (iI (wh))]) ++ List.replicate (2 - (lg_sl ([.ref (ad (0)), .int (iI (wh))])).length) Slot.unset).toArray = ls at hl ⊢
  have hl : lv_has ls 2 [(0, .ref (ad (0))), (1, .int (iI (wh)))] := hl
  obtain ⟨hw1, hw2⟩ := hw
  have hg1 := hG.1
  refine lv_aload_n hx hb d_MO_count_0 rfl (lv_at hl 0 rfl) ?_
  refine z_iconst hx hb (z := 0) d_MO_count_1 ?_
  refine z_put (ci := 7) (C := R_MO) (T := T_MO) (N := 32) (v := .int (iI (0))) (ty := .int) (ce' := (mo_ce ad cs)) (r := va_up (M (0)) 0 (0)) hx hb hg in_MO ty_MO tk_MO nm_MO hown hK hP hD hS (0) (by decide) rfl rfl 0 (by decide) (hg _ (List.mem_append_right _ (List.mem_append_right _ (List.mem_append_right _ (List.mem_append_right _ (List.mem_append_right _ (List.mem_append_right _ (List.mem_append_right _ (List.mem_append_right _ (List.mem_append_right _ (List.mem_append_right _ (List.mem_append_right _ (List.mem_append_right _ (List.mem_append_right _ (List.mem_append_left _ (List.mem_of_getElem? (i := 3) rfl)))))))))))))))) (fun _ h9 => h9) rfl (by decide +kernel) rfl rfl (Nat.le_of_ble_eq_true rfl) (fun _ _ => rfl) rfl d_MO_count_2 (fun H locs hP hD hS => ?_)
  obtain ⟨M_1, eM_1⟩ : ∃ q_, q_ = mset M (0) (0) (0) := ⟨_, rfl⟩
  have hP : va_P D vwCl (mo_w ad cs M_1) H := by rw [eM_1]; exact hP
  have hD : va_D (va_A (mo_w ad cs M) s.heap.size) (mo_w ad cs M_1) := by rw [eM_1]; exact hD
  have k4 : M_1 0 4 = M 0 4 := by rw [eM_1, mset_at, va_up_ne _ _ (by omega)]
  have k15 : M_1 0 15 = M 0 15 := by rw [eM_1, mset_at, va_up_ne _ _ (by omega)]
  have k16 : M_1 0 16 = M 0 16 := by rw [eM_1, mset_at, va_up_ne _ _ (by omega)]
  have k30 : M_1 0 30 = M 0 30 := by rw [eM_1, mset_at, va_up_ne _ _ (by omega)]
  have k1 : M_1 1 = M 1 := by rw [eM_1, mset_ne (by omega)]
  refine lv_iload_n hx hb d_MO_count_5 rfl (lv_at hl 1 rfl) ?_
  rcases (show (wh < 0 ∨ 3 < wh) ∨ wh = 0 ∨ wh = 1 ∨ wh = 2 ∨ wh = 3 by omega) with c_6 | c_6 | c_6 | c_6 | c_6
  · refine z_tabOut hx hb (tgt := 94) d_MO_count_6 ⟨by omega, by omega⟩ c_6 (by decide) ?_
    refine z_iconst hx hb (z := (-1)) d_MO_count_94 ?_
    have hM : M_1 = mset M 0 0 0 := by rw [eM_1]
    have eW : mo_w ad cs (M_1) = mo_w ad cs (mset M 0 0 0) := by rw [hM]
    have hP := Eq.mp (congrArg (fun q => va_P D vwCl q _) eW) hP
    have hD := Eq.mp (congrArg (va_D _) eW) hD
    exact W.iret (v := iI ((-1))) hx hb hr (fun t ht hW => ⟨⟨_, (), rfl, congrArg iI (by unfold r_cnt; rw [if_neg (by omega), if_neg (by omega), if_neg (by omega), if_neg (by omega)]), by rw [ht]; exact hP, va_K.moved hW.alike hK, hD⟩, hS.F ht⟩) hS.2.2 d_MO_count_95
  · refine z_tabIn hx hb (tgt := 36) d_MO_count_6 ⟨by omega, by omega⟩ 0 (by omega) (by omega) rfl (by decide) ?_
    refine lv_aload_n hx hb d_MO_count_36 rfl (lv_at hl 0 rfl) ?_
    refine z_get (ci := 7) (C := R_MO) (T := T_MO) (N := 32) (v := .int (iI (M_1 (0) 4))) hx hb hg in_MO hown hK hP (0) (by decide) rfl rfl 4 (by decide) (hg _ (List.mem_append_right _ (List.mem_append_right _ (List.mem_append_right _ (List.mem_append_right _ (List.mem_append_right _ (List.mem_append_right _ (List.mem_append_right _ (List.mem_append_right _ (List.mem_append_right _ (List.mem_append_right _ (List.mem_append_right _ (List.mem_append_right _ (List.mem_append_right _ (List.mem_append_left _ (List.mem_of_getElem? (i := 7) rfl)))))))))))))))) (fun _ h9 => h9) rfl d_MO_count_37 ?_
    have hM : M_1 = mset M 0 0 0 := by rw [eM_1]
    have eW : mo_w ad cs (M_1) = mo_w ad cs (mset M 0 0 0) := by rw [hM]
    have hP := Eq.mp (congrArg (fun q => va_P D vwCl q _) eW) hP
    have hD := Eq.mp (congrArg (va_D _) eW) hD
    exact W.iret (v := iI (M_1 (0) 4)) hx hb hr (fun t ht hW => ⟨⟨_, (), rfl, congrArg iI (by unfold r_cnt; rw [if_pos (by omega), k4, hnp]), by rw [ht]; exact hP, va_K.moved hW.alike hK, hD⟩, hS.F ht⟩) hS.2.2 d_MO_count_40
  · refine z_tabIn hx hb (tgt := 41) d_MO_count_6 ⟨by omega, by omega⟩ 1 (by omega) (by omega) rfl (by decide) ?_
    refine lv_aload_n hx hb d_MO_count_41 rfl (lv_at hl 0 rfl) ?_
    refine z_get (ci := 7) (C := R_MO) (T := T_MO) (N := 32) (v := .int (iI (M_1 (0) 4))) hx hb hg in_MO hown hK hP (0) (by decide) rfl rfl 4 (by decide) (hg _ (List.mem_append_right _ (List.mem_append_right _ (List.mem_append_right _ (List.mem_append_right _ (List.mem_append_right _ (List.mem_append_right _ (List.mem_append_right _ (List.mem_append_right _ (List.mem_append_right _ (List.mem_append_right _ (List.mem_append_right _ (List.mem_append_right _ (List.mem_append_right _ (List.mem_append_left _ (List.mem_of_getElem? (i := 7) rfl)))))))))))))))) (fun _ h9 => h9) rfl d_MO_count_42 ?_
    refine z_if_ne hx hb (tgt := 52) d_MO_count_45 (by decide) ⟨by omega, by omega⟩ (fun c_45 => ?_) (fun c_45 => ?_)
    · refine lv_aload_n hx hb d_MO_count_52 rfl (lv_at hl 0 rfl) ?_
      refine z_get (ci := 7) (C := R_MO) (T := T_MO) (N := 32) (v := .ref (ad (1))) hx hb hg in_MO hown hK hP (0) (by decide) rfl rfl 5 (by decide) (hg _ (List.mem_append_right _ (List.mem_append_right _ (List.mem_append_right _ (List.mem_append_right _ (List.mem_append_right _ (List.mem_append_right _ (List.mem_append_right _ (List.mem_append_right _ (List.mem_append_right _ (List.mem_append_right _ (List.mem_append_right _ (List.mem_append_right _ (List.mem_append_right _ (List.mem_append_left _ (List.mem_of_getElem? (i := 8) rfl)))))))))))))))) (fun _ h9 => h9) rfl d_MO_count_53 ?_
      refine lv_aload_n hx hb d_MO_count_56 rfl (lv_at hl 0 rfl) ?_
      refine z_get (ci := 7) (C := R_MO) (T := T_MO) (N := 32) (v := .int (iI (M_1 (0) 4))) hx hb hg in_MO hown hK hP (0) (by decide) rfl rfl 4 (by decide) (hg _ (List.mem_append_right _ (List.mem_append_right _ (List.mem_append_right _ (List.mem_append_right _ (List.mem_append_right _ (List.mem_append_right _ (List.mem_append_right _ (List.mem_append_right _ (List.mem_append_right _ (List.mem_append_right _ (List.mem_append_right _ (List.mem_append_right _ (List.mem_append_right _ (List.mem_append_left _ (List.mem_of_getElem? (i := 7) rfl)))))))))))))))) (fun _ h9 => h9) rfl d_MO_count_57 ?_
      refine z_iald hx hb hK hP (1) 0 (by decide) (fun _ => rfl) rfl (np) (by omega) (by omega) (by decide) d_MO_count_60 ?_
      have hM : M_1 = mset M 0 0 0 := by rw [eM_1]
      have eW : mo_w ad cs (M_1) = mo_w ad cs (mset M 0 0 0) := by rw [hM]
      have hP := Eq.mp (congrArg (fun q => va_P D vwCl q _) eW) hP
      have hD := Eq.mp (congrArg (va_D _) eW) hD
      exact W.iret (v := iI (M_1 (1) (np))) hx hb hr (fun t ht hW => ⟨⟨_, (), rfl, congrArg iI (by unfold r_cnt; rw [if_neg (by omega), if_pos (by omega), if_neg (by omega), k1]), by rw [ht]; exact hP, va_K.moved hW.alike hK, hD⟩, hS.F ht⟩) hS.2.2 d_MO_count_61
    · refine z_iconst hx hb (z := 0) d_MO_count_48 ?_
      refine lv_goto (tgt := 61) hx hb d_MO_count_49 (by decide) ?_
      have hM : M_1 = mset M 0 0 0 := by rw [eM_1]
      have eW : mo_w ad cs (M_1) = mo_w ad cs (mset M 0 0 0) := by rw [hM]
      have hP := Eq.mp (congrArg (fun q => va_P D vwCl q _) eW) hP
      have hD := Eq.mp (congrArg (va_D _) eW) hD
      exact W.iret (v := iI (0)) hx hb hr (fun t ht hW => ⟨⟨_, (), rfl, congrArg iI (by unfold r_cnt; rw [if_neg (by omega), if_pos (by omega), if_pos (by omega)]), by rw [ht]; exact hP, va_K.moved hW.alike hK, hD⟩, hS.F ht⟩) hS.2.2 d_MO_count_61
  · refine z_tabIn hx hb (tgt := 62) d_MO_count_6 ⟨by omega, by omega⟩ 2 (by omega) (by omega) rfl (by decide) ?_
    refine lv_aload_n hx hb d_MO_count_62 rfl (lv_at hl 0 rfl) ?_
    refine z_get (ci := 7) (C := R_MO) (T := T_MO) (N := 32) (v := .int (iI (M_1 (0) 15))) hx hb hg in_MO hown hK hP (0) (by decide) rfl rfl 15 (by decide) (hg _ (List.mem_append_right _ (List.mem_append_right _ (List.mem_append_right _ (List.mem_append_right _ (List.mem_append_right _ (List.mem_append_right _ (List.mem_append_right _ (List.mem_append_right _ (List.mem_append_right _ (List.mem_append_right _ (List.mem_append_right _ (List.mem_append_right _ (List.mem_append_right _ (List.mem_append_left _ (List.mem_of_getElem? (i := 18) rfl)))))))))))))))) (fun _ h9 => h9) rfl d_MO_count_63 ?_
    refine z_if_eq hx hb (tgt := 76) d_MO_count_66 (by decide) ⟨by omega, by omega⟩ (fun c_66 => ?_) (fun c_66 => ?_)
    · refine z_iconst hx hb (z := 0) d_MO_count_76 ?_
      have hM : M_1 = mset M 0 0 0 := by rw [eM_1]
      have eW : mo_w ad cs (M_1) = mo_w ad cs (mset M 0 0 0) := by rw [hM]
      have hP := Eq.mp (congrArg (fun q => va_P D vwCl q _) eW) hP
      have hD := Eq.mp (congrArg (va_D _) eW) hD
      exact W.iret (v := iI (0)) hx hb hr (fun t ht hW => ⟨⟨_, (), rfl, congrArg iI (by unfold r_cnt; rw [if_neg (by omega), if_neg (by omega), if_pos (by omega), if_pos (by omega)]), by rw [ht]; exact hP, va_K.moved hW.alike hK, hD⟩, hS.F ht⟩) hS.2.2 d_MO_count_77
    · refine lv_aload_n hx hb d_MO_count_69 rfl (lv_at hl 0 rfl) ?_
      refine z_get (ci := 7) (C := R_MO) (T := T_MO) (N := 32) (v := .int (iI (M_1 (0) 16))) hx hb hg in_MO hown hK hP (0) (by decide) rfl rfl 16 (by decide) (hg _ (List.mem_append_right _ (List.mem_append_right _ (List.mem_append_right _ (List.mem_append_right _ (List.mem_append_right _ (List.mem_append_right _ (List.mem_append_right _ (List.mem_append_right _ (List.mem_append_right _ (List.mem_append_right _ (List.mem_append_right _ (List.mem_append_right _ (List.mem_append_right _ (List.mem_append_left _ (List.mem_of_getElem? (i := 19) rfl)))))))))))))))) (fun _ h9 => h9) rfl d_MO_count_70 ?_
      refine lv_goto (tgt := 77) hx hb d_MO_count_73 (by decide) ?_
      have hM : M_1 = mset M 0 0 0 := by rw [eM_1]
      have eW : mo_w ad cs (M_1) = mo_w ad cs (mset M 0 0 0) := by rw [hM]
      have hP := Eq.mp (congrArg (fun q => va_P D vwCl q _) eW) hP
      have hD := Eq.mp (congrArg (va_D _) eW) hD
      exact W.iret (v := iI (M_1 (0) 16)) hx hb hr (fun t ht hW => ⟨⟨_, (), rfl, congrArg iI (by unfold r_cnt; rw [if_neg (by omega), if_neg (by omega), if_pos (by omega), if_neg (by omega), k16]), by rw [ht]; exact hP, va_K.moved hW.alike hK, hD⟩, hS.F ht⟩) hS.2.2 d_MO_count_77
  · refine z_tabIn hx hb (tgt := 78) d_MO_count_6 ⟨by omega, by omega⟩ 3 (by omega) (by omega) rfl (by decide) ?_
    refine lv_aload_n hx hb d_MO_count_78 rfl (lv_at hl 0 rfl) ?_
    refine z_get (ci := 7) (C := R_MO) (T := T_MO) (N := 32) (v := .int (iI (M_1 (0) 15))) hx hb hg in_MO hown hK hP (0) (by decide) rfl rfl 15 (by decide) (hg _ (List.mem_append_right _ (List.mem_append_right _ (List.mem_append_right _ (List.mem_append_right _ (List.mem_append_right _ (List.mem_append_right _ (List.mem_append_right _ (List.mem_append_right _ (List.mem_append_right _ (List.mem_append_right _ (List.mem_append_right _ (List.mem_append_right _ (List.mem_append_right _ (List.mem_append_left _ (List.mem_of_getElem? (i := 18) rfl)))))))))))))))) (fun _ h9 => h9) rfl d_MO_count_79 ?_
    refine z_if_eq hx hb (tgt := 92) d_MO_count_82 (by decide) ⟨by omega, by omega⟩ (fun c_82 => ?_) (fun c_82 => ?_)
    · refine z_iconst hx hb (z := 0) d_MO_count_92 ?_
      have hM : M_1 = mset M 0 0 0 := by rw [eM_1]
      have eW : mo_w ad cs (M_1) = mo_w ad cs (mset M 0 0 0) := by rw [hM]
      have hP := Eq.mp (congrArg (fun q => va_P D vwCl q _) eW) hP
      have hD := Eq.mp (congrArg (va_D _) eW) hD
      exact W.iret (v := iI (0)) hx hb hr (fun t ht hW => ⟨⟨_, (), rfl, congrArg iI (by unfold r_cnt; rw [if_neg (by omega), if_neg (by omega), if_neg (by omega), if_pos (by omega), if_pos (by omega)]), by rw [ht]; exact hP, va_K.moved hW.alike hK, hD⟩, hS.F ht⟩) hS.2.2 d_MO_count_93
    · refine lv_aload_n hx hb d_MO_count_85 rfl (lv_at hl 0 rfl) ?_
      refine z_get (ci := 7) (C := R_MO) (T := T_MO) (N := 32) (v := .int (iI (M_1 (0) 30))) hx hb hg in_MO hown hK hP (0) (by decide) rfl rfl 30 (by decide) (hg _ (List.mem_append_right _ (List.mem_append_right _ (List.mem_append_right _ (List.mem_append_right _ (List.mem_append_right _ (List.mem_append_right _ (List.mem_append_right _ (List.mem_append_right _ (List.mem_append_right _ (List.mem_append_right _ (List.mem_append_right _ (List.mem_append_right _ (List.mem_append_right _ (List.mem_append_left _ (List.mem_of_getElem? (i := 33) rfl)))))))))))))))) (fun _ h9 => h9) rfl d_MO_count_86 ?_
      refine lv_goto (tgt := 93) hx hb d_MO_count_89 (by decide) ?_
      have hM : M_1 = mset M 0 0 0 := by rw [eM_1]
      have eW : mo_w ad cs (M_1) = mo_w ad cs (mset M 0 0 0) := by rw [hM]
      have hP := Eq.mp (congrArg (fun q => va_P D vwCl q _) eW) hP
      have hD := Eq.mp (congrArg (va_D _) eW) hD
      exact W.iret (v := iI (M_1 (0) 30)) hx hb hr (fun t ht hW => ⟨⟨_, (), rfl, congrArg iI (by unfold r_cnt; rw [if_neg (by omega), if_neg (by omega), if_neg (by omega), if_pos (by omega), if_neg (by omega), k30]), by rw [ht]; exact hP, va_K.moved hW.alike hK, hD⟩, hS.F ht⟩) hS.2.2 d_MO_count_93
set_option maxHeartbeats 4000000 in
set_option maxRecDepth 100000 in
/-- line -/
theorem r_line (l : Launch) {D : va_G} {ad : Nat → Nat} {cs : ClassId} {M : Nat → Nat → Int} (sz : Nat) (x wh : Int) (hx0 : zb x) (hw : zb wh) (hG : rG M) : Met l y_MO_line ws_MO_line ({ frames := 1, cells := 0, slots := 0, locals := 22 } : Room) (va_Pc [.ref (ad (0)), .int (iI (x)), .int (iI (wh))] (rw_B D vwCl (mo_tys cs) (mo_w ad cs M) sz)) (va_Qi (fun (r : Int32) (_ : Unit) => r = iI (if r_lic M x wh = 0 then M (11 + wh.toNat) x.toNat else 0)) (rw_E D vwCl (mo_tys cs) (mo_w ad cs M) (mo_w ad cs (mset M 0 0 (r_lic M x wh))) sz) (va_A (mo_w ad cs M) sz)) 0 0 (va_A (mo_w ad cs M) sz) := by
  refine Met.ofW (cc := b_MO_line) (maxL := 3) (ret := (some .int)) (by decide) rfl ?_
  intro p e s m args below meth c s₁ B hml hv
  obtain ⟨rfl, hsz, hP, hK, hD0⟩ := hv
  have hx := B.exec
  have hb := B.bytes
  have hr := B.returns
  have hts := atoms_spec (ws := ws_MO_line) B.pre
  have hg : ∀ w ∈ gt, w.before _ s = true := fun w h => hts w (List.mem_cons_of_mem _ h)
  have hown : s.vm.findClass R_MO = some m.cls := findClass_of_methodNamed B.named
  have hlocks := B.notSynchronized
  subst hsz
  have hD := hD0.self (sz := s.heap.size)
  have hA : ∀ q : Nat, s.heap.size ≤ q → va_A (mo_w ad cs M) s.heap.size q := fun q h => Or.inr h
  have hS : va_S (va_A (mo_w ad cs M) s.heap.size) s.heap s.heap [] := va_S.rf
  have hl := lv_entry ([.ref (ad (0)), .int (iI (x)), .int (iI (wh))]) (n := 3) (Nat.le_of_ble_eq_true rfl)
  rw [lg_entry_eq]
  generalize (lg_sl ([.ref (ad (0)), .int (iI (x)), .int (iI (wh))]) ++ List.replicate (3 - (lg_sl ([.ref (ad (0)), .int (iI (x)), .int (iI (wh))])).length) Slot.unset).toArray = ls at hl ⊢
  have hl : lv_has ls 3 [(0, .ref (ad (0))), (1, .int (iI (x))), (2, .int (iI (wh)))] := hl
  obtain ⟨hx1, hx2⟩ := hx0
  obtain ⟨hw1, hw2⟩ := hw
  have hg1 := hG.1
  have hg2 := hG.2.1
  refine lv_aload_n hx hb d_MO_line_0 rfl (lv_at hl 0 rfl) ?_
  refine lv_aload_n hx hb d_MO_line_1 rfl (lv_at hl 0 rfl) ?_
  refine z_get (ci := 7) (C := R_MO) (T := T_MO) (N := 32) (v := .int (iI (M (0) 15))) hx hb hg in_MO hown hK hP (0) (by decide) rfl rfl 15 (by decide) (hg _ (List.mem_append_right _ (List.mem_append_right _ (List.mem_append_right _ (List.mem_append_right _ (List.mem_append_right _ (List.mem_append_right _ (List.mem_append_right _ (List.mem_append_right _ (List.mem_append_right _ (List.mem_append_right _ (List.mem_append_right _ (List.mem_append_right _ (List.mem_append_right _ (List.mem_append_left _ (List.mem_of_getElem? (i := 18) rfl)))))))))))))))) (fun _ h9 => h9) rfl d_MO_line_2 ?_
  refine z_if_eq hx hb (tgt := 22) d_MO_line_5 (by decide) ⟨by omega, by omega⟩ (fun c_5 => ?_) (fun c_5 => ?_)
  · refine z_iconst hx hb (z := 1) d_MO_line_22 ?_
    refine lv_goto (tgt := 41) hx hb d_MO_line_23 (by decide) ?_
    have hcd : r_lic M x wh = 1 := by unfold r_lic; rw [if_neg (fun g => by omega)]
    refine z_put (ci := 7) (C := R_MO) (T := T_MO) (N := 32) (v := .int (iI (1))) (ty := .int) (ce' := (mo_ce ad cs)) (r := va_up (M (0)) 0 (1)) hx hb hg in_MO ty_MO tk_MO nm_MO hown hK hP hD hS (0) (by decide) rfl rfl 0 (by decide) (hg _ (List.mem_append_right _ (List.mem_append_right _ (List.mem_append_right _ (List.mem_append_right _ (List.mem_append_right _ (List.mem_append_right _ (List.mem_append_right _ (List.mem_append_right _ (List.mem_append_right _ (List.mem_append_right _ (List.mem_append_right _ (List.mem_append_right _ (List.mem_append_right _ (List.mem_append_left _ (List.mem_of_getElem? (i := 3) rfl)))))))))))))))) (fun _ h9 => h9) rfl (by decide +kernel) rfl rfl (Nat.le_of_ble_eq_true rfl) (fun _ _ => rfl) rfl d_MO_line_41 (fun H locs hP hD hS => ?_)
    obtain ⟨M_1, eM_1⟩ : ∃ q_, q_ = mset M (0) (0) (1) := ⟨_, rfl⟩
    have hP : va_P D vwCl (mo_w ad cs M_1) H := by rw [eM_1]; exact hP
    have hD : va_D (va_A (mo_w ad cs M) s.heap.size) (mo_w ad cs M_1) := by rw [eM_1]; exact hD
    have g0 : M_1 0 0 = 1 := by rw [eM_1]; exact mset_same _ _ _ _
    refine lv_aload_n hx hb d_MO_line_44 rfl (lv_at hl 0 rfl) ?_
    refine z_get (ci := 7) (C := R_MO) (T := T_MO) (N := 32) (v := .int (iI (M_1 (0) 0))) hx hb hg in_MO hown hK hP (0) (by decide) rfl rfl 0 (by decide) (hg _ (List.mem_append_right _ (List.mem_append_right _ (List.mem_append_right _ (List.mem_append_right _ (List.mem_append_right _ (List.mem_append_right _ (List.mem_append_right _ (List.mem_append_right _ (List.mem_append_right _ (List.mem_append_right _ (List.mem_append_right _ (List.mem_append_right _ (List.mem_append_right _ (List.mem_append_left _ (List.mem_of_getElem? (i := 3) rfl)))))))))))))))) (fun _ h9 => h9) rfl d_MO_line_45 ?_
    refine z_if_le hx hb (tgt := 53) d_MO_line_48 (by decide) ⟨by omega, by omega⟩ (fun c_48 => ?_) (fun c_48 => ?_)
    · exact absurd c_48 (by omega)
    · refine z_iconst hx hb (z := 0) d_MO_line_51 ?_
      have hM : M_1 = mset M 0 0 (r_lic M x wh) := by rw [eM_1, hcd]
      have eW : mo_w ad cs (M_1) = mo_w ad cs (mset M 0 0 (r_lic M x wh)) := by rw [hM]
      have hP := Eq.mp (congrArg (fun q => va_P D vwCl q _) eW) hP
      have hD := Eq.mp (congrArg (va_D _) eW) hD
      exact W.iret (v := iI (0)) hx hb hr (fun t ht hW => ⟨⟨_, (), rfl, by rw [hcd, if_neg (by omega)], by rw [ht]; exact hP, va_K.moved hW.alike hK, hD⟩, hS.F ht⟩) hS.2.2 d_MO_line_52
  · refine lv_iload_n hx hb d_MO_line_8 rfl (lv_at hl 1 rfl) ?_
    refine z_iconst hx hb (z := 0) d_MO_line_9 ?_
    refine lv_aload_n hx hb d_MO_line_10 rfl (lv_at hl 0 rfl) ?_
    refine z_get (ci := 7) (C := R_MO) (T := T_MO) (N := 32) (v := .int (iI (M (0) 16))) hx hb hg in_MO hown hK hP (0) (by decide) rfl rfl 16 (by decide) (hg _ (List.mem_append_right _ (List.mem_append_right _ (List.mem_append_right _ (List.mem_append_right _ (List.mem_append_right _ (List.mem_append_right _ (List.mem_append_right _ (List.mem_append_right _ (List.mem_append_right _ (List.mem_append_right _ (List.mem_append_right _ (List.mem_append_right _ (List.mem_append_right _ (List.mem_append_left _ (List.mem_of_getElem? (i := 19) rfl)))))))))))))))) (fun _ h9 => h9) rfl d_MO_line_11 ?_
    refine z_iconst hx hb (z := 1) d_MO_line_14 ?_
    refine z_isub hx hb d_MO_line_15 (v := (M (0) 16 - 1)) rfl ?_
    refine ro_S (As := [.int (iI (x)), .int (iI (0)), .int (iI ((M (0) 16 - 1)))]) (rest := [.ref (ad (0))]) (z := bz (inn (x) (0) ((M (0) 16 - 1))) inferInstance) ⟨hx, hb, hml, hown, hg⟩ (r_in l (x) (0) ((M (0) 16 - 1)) ⟨by omega, by omega⟩ ⟨by decide, by decide⟩ ⟨by omega, by omega⟩) (cwS 3 hg (gt_S (List.mem_append_right _ (List.mem_append_right _ (List.mem_append_right _ (List.mem_append_right _ (List.mem_append_right _ (List.mem_append_right _ (List.mem_append_right _ (List.mem_append_right _ (List.mem_append_right _ (List.mem_append_right _ (List.mem_append_right _ (List.mem_append_right _ (List.mem_append_right _ (List.mem_append_right _ (List.mem_append_right _ (List.mem_append_left _ (List.mem_of_getElem? (i := 3) rfl))))))))))))))))) (List.mem_append_right _ (List.mem_append_right _ (List.mem_append_right _ (List.mem_append_right _ (List.mem_append_right _ (List.mem_append_right _ (List.mem_append_right _ (List.mem_append_right _ (List.mem_append_right _ (List.mem_append_right _ (List.mem_append_right _ (List.mem_append_right _ (List.mem_append_right _ (List.mem_append_right _ (List.mem_append_right _ (List.mem_append_left _ (List.mem_of_getElem? (i := 4) rfl))))))))))))))))) (List.mem_append_right _ (List.mem_append_left _ (List.mem_of_getElem? (i := 9) rfl))) (List.mem_append_right _ (List.mem_append_right _ (List.mem_append_right _ (List.mem_append_right _ (List.mem_append_right _ (List.mem_append_right _ (List.mem_append_right _ (List.mem_append_right _ (List.mem_append_right _ (List.mem_append_right _ (List.mem_append_right _ (List.mem_append_right _ (List.mem_append_right _ (List.mem_append_right _ (List.mem_append_right _ (List.mem_append_left _ (List.mem_of_getElem? (i := 5) rfl)))))))))))))))))) rfl rfl rfl (by decide +kernel) ⟨Nat.le_of_ble_eq_true rfl, Nat.le_of_ble_eq_true rfl⟩) hK hP rfl hl.1 rfl (Nat.le_of_ble_eq_true rfl) d_MO_line_16 ⟨Nat.zero_le _, Nat.zero_le _⟩ ?_
    refine z_ifb_ne hx hb (tgt := 26) d_MO_line_19 (by decide) (fun c_19 => ?_) (fun c_19 => ?_)
    · refine lv_iload_n hx hb d_MO_line_26 rfl (lv_at hl 2 rfl) ?_
      refine z_iconst hx hb (z := 0) d_MO_line_27 ?_
      refine z_bipush hx hb (z := 9) d_MO_line_28 (by decide) ?_
      refine ro_S (As := [.int (iI (wh)), .int (iI (0)), .int (iI (9))]) (rest := [.ref (ad (0))]) (z := bz (inn (wh) (0) (9)) inferInstance) ⟨hx, hb, hml, hown, hg⟩ (r_in l (wh) (0) (9) ⟨by omega, by omega⟩ ⟨by decide, by decide⟩ ⟨by decide, by decide⟩) (cwS 3 hg (gt_S (List.mem_append_right _ (List.mem_append_right _ (List.mem_append_right _ (List.mem_append_right _ (List.mem_append_right _ (List.mem_append_right _ (List.mem_append_right _ (List.mem_append_right _ (List.mem_append_right _ (List.mem_append_right _ (List.mem_append_right _ (List.mem_append_right _ (List.mem_append_right _ (List.mem_append_right _ (List.mem_append_right _ (List.mem_append_left _ (List.mem_of_getElem? (i := 3) rfl))))))))))))))))) (List.mem_append_right _ (List.mem_append_right _ (List.mem_append_right _ (List.mem_append_right _ (List.mem_append_right _ (List.mem_append_right _ (List.mem_append_right _ (List.mem_append_right _ (List.mem_append_right _ (List.mem_append_right _ (List.mem_append_right _ (List.mem_append_right _ (List.mem_append_right _ (List.mem_append_right _ (List.mem_append_right _ (List.mem_append_left _ (List.mem_of_getElem? (i := 4) rfl))))))))))))))))) (List.mem_append_right _ (List.mem_append_left _ (List.mem_of_getElem? (i := 9) rfl))) (List.mem_append_right _ (List.mem_append_right _ (List.mem_append_right _ (List.mem_append_right _ (List.mem_append_right _ (List.mem_append_right _ (List.mem_append_right _ (List.mem_append_right _ (List.mem_append_right _ (List.mem_append_right _ (List.mem_append_right _ (List.mem_append_right _ (List.mem_append_right _ (List.mem_append_right _ (List.mem_append_right _ (List.mem_append_left _ (List.mem_of_getElem? (i := 5) rfl)))))))))))))))))) rfl rfl rfl (by decide +kernel) ⟨Nat.le_of_ble_eq_true rfl, Nat.le_of_ble_eq_true rfl⟩) hK hP rfl hl.1 rfl (Nat.le_of_ble_eq_true rfl) d_MO_line_30 ⟨Nat.zero_le _, Nat.zero_le _⟩ ?_
      refine z_ifb_ne hx hb (tgt := 40) d_MO_line_33 (by decide) (fun c_33 => ?_) (fun c_33 => ?_)
      · refine z_iconst hx hb (z := 0) d_MO_line_40 ?_
        have hcd : r_lic M x wh = 0 := by unfold r_lic; rw [if_pos ⟨by omega, c_19⟩, if_pos c_33]
        refine z_put (ci := 7) (C := R_MO) (T := T_MO) (N := 32) (v := .int (iI (0))) (ty := .int) (ce' := (mo_ce ad cs)) (r := va_up (M (0)) 0 (0)) hx hb hg in_MO ty_MO tk_MO nm_MO hown hK hP hD hS (0) (by decide) rfl rfl 0 (by decide) (hg _ (List.mem_append_right _ (List.mem_append_right _ (List.mem_append_right _ (List.mem_append_right _ (List.mem_append_right _ (List.mem_append_right _ (List.mem_append_right _ (List.mem_append_right _ (List.mem_append_right _ (List.mem_append_right _ (List.mem_append_right _ (List.mem_append_right _ (List.mem_append_right _ (List.mem_append_left _ (List.mem_of_getElem? (i := 3) rfl)))))))))))))))) (fun _ h9 => h9) rfl (by decide +kernel) rfl rfl (Nat.le_of_ble_eq_true rfl) (fun _ _ => rfl) rfl d_MO_line_41 (fun H locs hP hD hS => ?_)
        obtain ⟨M_2, eM_2⟩ : ∃ q_, q_ = mset M (0) (0) (0) := ⟨_, rfl⟩
        have hP : va_P D vwCl (mo_w ad cs M_2) H := by rw [eM_2]; exact hP
        have hD : va_D (va_A (mo_w ad cs M) s.heap.size) (mo_w ad cs M_2) := by rw [eM_2]; exact hD
        have g0 : M_2 0 0 = 0 := by rw [eM_2]; exact mset_same _ _ _ _
        refine lv_aload_n hx hb d_MO_line_44 rfl (lv_at hl 0 rfl) ?_
        refine z_get (ci := 7) (C := R_MO) (T := T_MO) (N := 32) (v := .int (iI (M_2 (0) 0))) hx hb hg in_MO hown hK hP (0) (by decide) rfl rfl 0 (by decide) (hg _ (List.mem_append_right _ (List.mem_append_right _ (List.mem_append_right _ (List.mem_append_right _ (List.mem_append_right _ (List.mem_append_right _ (List.mem_append_right _ (List.mem_append_right _ (List.mem_append_right _ (List.mem_append_right _ (List.mem_append_right _ (List.mem_append_right _ (List.mem_append_right _ (List.mem_append_left _ (List.mem_of_getElem? (i := 3) rfl)))))))))))))))) (fun _ h9 => h9) rfl d_MO_line_45 ?_
        refine z_if_le hx hb (tgt := 53) d_MO_line_48 (by decide) ⟨by omega, by omega⟩ (fun c_48 => ?_) (fun c_48 => ?_)
        · refine lv_iload_n hx hb d_MO_line_53 rfl (lv_at hl 2 rfl) ?_
          rcases (show (wh < 0 ∨ 8 < wh) ∨ wh = 0 ∨ wh = 1 ∨ wh = 2 ∨ wh = 3 ∨ wh = 4 ∨ wh = 5 ∨ wh = 6 ∨ wh = 7 ∨ wh = 8 by omega) with c_54 | c_54 | c_54 | c_54 | c_54 | c_54 | c_54 | c_54 | c_54 | c_54
          · refine z_tabOut hx hb (tgt := 167) d_MO_line_54 ⟨by omega, by omega⟩ c_54 (by decide) ?_
            refine lv_aload_n hx hb d_MO_line_167 rfl (lv_at hl 0 rfl) ?_
            refine z_get (ci := 7) (C := R_MO) (T := T_MO) (N := 32) (v := .ref (ad (20))) hx hb hg in_MO hown hK hP (0) (by decide) rfl rfl 26 (by decide) (hg _ (List.mem_append_right _ (List.mem_append_right _ (List.mem_append_right _ (List.mem_append_right _ (List.mem_append_right _ (List.mem_append_right _ (List.mem_append_right _ (List.mem_append_right _ (List.mem_append_right _ (List.mem_append_right _ (List.mem_append_right _ (List.mem_append_right _ (List.mem_append_right _ (List.mem_append_left _ (List.mem_of_getElem? (i := 29) rfl)))))))))))))))) (fun _ h9 => h9) rfl d_MO_line_168 ?_
            refine lv_iload_n hx hb d_MO_line_171 rfl (lv_at hl 1 rfl) ?_
            refine z_iald hx hb hK hP (20) 0 (by decide) (fun _ => rfl) rfl ((x).toNat) (by omega) (by omega) (by decide) d_MO_line_172 ?_
            have hM : M_2 = mset M 0 0 (r_lic M x wh) := by rw [eM_2, hcd]
            have eW : mo_w ad cs (M_2) = mo_w ad cs (mset M 0 0 (r_lic M x wh)) := by rw [hM]
            have hP := Eq.mp (congrArg (fun q => va_P D vwCl q _) eW) hP
            have hD := Eq.mp (congrArg (va_D _) eW) hD
            exact W.iret (v := iI (M_2 (20) ((x).toNat))) hx hb hr (fun t ht hW => ⟨⟨_, (), rfl, congrArg iI (by rw [hcd, if_pos rfl, show 11 + wh.toNat = 20 by omega, eM_2, mset_ne (by omega)]), by rw [ht]; exact hP, va_K.moved hW.alike hK, hD⟩, hS.F ht⟩) hS.2.2 d_MO_line_173
          · refine z_tabIn hx hb (tgt := 104) d_MO_line_54 ⟨by omega, by omega⟩ 0 (by omega) (by omega) rfl (by decide) ?_
            refine lv_aload_n hx hb d_MO_line_104 rfl (lv_at hl 0 rfl) ?_
            refine z_get (ci := 7) (C := R_MO) (T := T_MO) (N := 32) (v := .ref (ad (11))) hx hb hg in_MO hown hK hP (0) (by decide) rfl rfl 17 (by decide) (hg _ (List.mem_append_right _ (List.mem_append_right _ (List.mem_append_right _ (List.mem_append_right _ (List.mem_append_right _ (List.mem_append_right _ (List.mem_append_right _ (List.mem_append_right _ (List.mem_append_right _ (List.mem_append_right _ (List.mem_append_right _ (List.mem_append_right _ (List.mem_append_right _ (List.mem_append_left _ (List.mem_of_getElem? (i := 20) rfl)))))))))))))))) (fun _ h9 => h9) rfl d_MO_line_105 ?_
            refine lv_iload_n hx hb d_MO_line_108 rfl (lv_at hl 1 rfl) ?_
            refine z_iald hx hb hK hP (11) 0 (by decide) (fun _ => rfl) rfl ((x).toNat) (by omega) (by omega) (by decide) d_MO_line_109 ?_
            have hM : M_2 = mset M 0 0 (r_lic M x wh) := by rw [eM_2, hcd]
            have eW : mo_w ad cs (M_2) = mo_w ad cs (mset M 0 0 (r_lic M x wh)) := by rw [hM]
            have hP := Eq.mp (congrArg (fun q => va_P D vwCl q _) eW) hP
            have hD := Eq.mp (congrArg (va_D _) eW) hD
            exact W.iret (v := iI (M_2 (11) ((x).toNat))) hx hb hr (fun t ht hW => ⟨⟨_, (), rfl, congrArg iI (by rw [hcd, if_pos rfl, show 11 + wh.toNat = 11 by omega, eM_2, mset_ne (by omega)]), by rw [ht]; exact hP, va_K.moved hW.alike hK, hD⟩, hS.F ht⟩) hS.2.2 d_MO_line_110
          · refine z_tabIn hx hb (tgt := 111) d_MO_line_54 ⟨by omega, by omega⟩ 1 (by omega) (by omega) rfl (by decide) ?_
            refine lv_aload_n hx hb d_MO_line_111 rfl (lv_at hl 0 rfl) ?_
            refine z_get (ci := 7) (C := R_MO) (T := T_MO) (N := 32) (v := .ref (ad (12))) hx hb hg in_MO hown hK hP (0) (by decide) rfl rfl 18 (by decide) (hg _ (List.mem_append_right _ (List.mem_append_right _ (List.mem_append_right _ (List.mem_append_right _ (List.mem_append_right _ (List.mem_append_right _ (List.mem_append_right _ (List.mem_append_right _ (List.mem_append_right _ (List.mem_append_right _ (List.mem_append_right _ (List.mem_append_right _ (List.mem_append_right _ (List.mem_append_left _ (List.mem_of_getElem? (i := 21) rfl)))))))))))))))) (fun _ h9 => h9) rfl d_MO_line_112 ?_
            refine lv_iload_n hx hb d_MO_line_115 rfl (lv_at hl 1 rfl) ?_
            refine z_iald hx hb hK hP (12) 0 (by decide) (fun _ => rfl) rfl ((x).toNat) (by omega) (by omega) (by decide) d_MO_line_116 ?_
            have hM : M_2 = mset M 0 0 (r_lic M x wh) := by rw [eM_2, hcd]
            have eW : mo_w ad cs (M_2) = mo_w ad cs (mset M 0 0 (r_lic M x wh)) := by rw [hM]
            have hP := Eq.mp (congrArg (fun q => va_P D vwCl q _) eW) hP
            have hD := Eq.mp (congrArg (va_D _) eW) hD
            exact W.iret (v := iI (M_2 (12) ((x).toNat))) hx hb hr (fun t ht hW => ⟨⟨_, (), rfl, congrArg iI (by rw [hcd, if_pos rfl, show 11 + wh.toNat = 12 by omega, eM_2, mset_ne (by omega)]), by rw [ht]; exact hP, va_K.moved hW.alike hK, hD⟩, hS.F ht⟩) hS.2.2 d_MO_line_117
          · refine z_tabIn hx hb (tgt := 118) d_MO_line_54 ⟨by omega, by omega⟩ 2 (by omega) (by omega) rfl (by decide) ?_
            refine lv_aload_n hx hb d_MO_line_118 rfl (lv_at hl 0 rfl) ?_
            refine z_get (ci := 7) (C := R_MO) (T := T_MO) (N := 32) (v := .ref (ad (13))) hx hb hg in_MO hown hK hP (0) (by decide) rfl rfl 19 (by decide) (hg _ (List.mem_append_right _ (List.mem_append_right _ (List.mem_append_right _ (List.mem_append_right _ (List.mem_append_right _ (List.mem_append_right _ (List.mem_append_right _ (List.mem_append_right _ (List.mem_append_right _ (List.mem_append_right _ (List.mem_append_right _ (List.mem_append_right _ (List.mem_append_right _ (List.mem_append_left _ (List.mem_of_getElem? (i := 22) rfl)))))))))))))))) (fun _ h9 => h9) rfl d_MO_line_119 ?_
            refine lv_iload_n hx hb d_MO_line_122 rfl (lv_at hl 1 rfl) ?_
            refine z_iald hx hb hK hP (13) 0 (by decide) (fun _ => rfl) rfl ((x).toNat) (by omega) (by omega) (by decide) d_MO_line_123 ?_
            have hM : M_2 = mset M 0 0 (r_lic M x wh) := by rw [eM_2, hcd]
            have eW : mo_w ad cs (M_2) = mo_w ad cs (mset M 0 0 (r_lic M x wh)) := by rw [hM]
            have hP := Eq.mp (congrArg (fun q => va_P D vwCl q _) eW) hP
            have hD := Eq.mp (congrArg (va_D _) eW) hD
            exact W.iret (v := iI (M_2 (13) ((x).toNat))) hx hb hr (fun t ht hW => ⟨⟨_, (), rfl, congrArg iI (by rw [hcd, if_pos rfl, show 11 + wh.toNat = 13 by omega, eM_2, mset_ne (by omega)]), by rw [ht]; exact hP, va_K.moved hW.alike hK, hD⟩, hS.F ht⟩) hS.2.2 d_MO_line_124
          · refine z_tabIn hx hb (tgt := 125) d_MO_line_54 ⟨by omega, by omega⟩ 3 (by omega) (by omega) rfl (by decide) ?_
            refine lv_aload_n hx hb d_MO_line_125 rfl (lv_at hl 0 rfl) ?_
            refine z_get (ci := 7) (C := R_MO) (T := T_MO) (N := 32) (v := .ref (ad (14))) hx hb hg in_MO hown hK hP (0) (by decide) rfl rfl 20 (by decide) (hg _ (List.mem_append_right _ (List.mem_append_right _ (List.mem_append_right _ (List.mem_append_right _ (List.mem_append_right _ (List.mem_append_right _ (List.mem_append_right _ (List.mem_append_right _ (List.mem_append_right _ (List.mem_append_right _ (List.mem_append_right _ (List.mem_append_right _ (List.mem_append_right _ (List.mem_append_left _ (List.mem_of_getElem? (i := 23) rfl)))))))))))))))) (fun _ h9 => h9) rfl d_MO_line_126 ?_
            refine lv_iload_n hx hb d_MO_line_129 rfl (lv_at hl 1 rfl) ?_
            refine z_iald hx hb hK hP (14) 0 (by decide) (fun _ => rfl) rfl ((x).toNat) (by omega) (by omega) (by decide) d_MO_line_130 ?_
            have hM : M_2 = mset M 0 0 (r_lic M x wh) := by rw [eM_2, hcd]
            have eW : mo_w ad cs (M_2) = mo_w ad cs (mset M 0 0 (r_lic M x wh)) := by rw [hM]
            have hP := Eq.mp (congrArg (fun q => va_P D vwCl q _) eW) hP
            have hD := Eq.mp (congrArg (va_D _) eW) hD
            exact W.iret (v := iI (M_2 (14) ((x).toNat))) hx hb hr (fun t ht hW => ⟨⟨_, (), rfl, congrArg iI (by rw [hcd, if_pos rfl, show 11 + wh.toNat = 14 by omega, eM_2, mset_ne (by omega)]), by rw [ht]; exact hP, va_K.moved hW.alike hK, hD⟩, hS.F ht⟩) hS.2.2 d_MO_line_131
          · refine z_tabIn hx hb (tgt := 132) d_MO_line_54 ⟨by omega, by omega⟩ 4 (by omega) (by omega) rfl (by decide) ?_
            refine lv_aload_n hx hb d_MO_line_132 rfl (lv_at hl 0 rfl) ?_
            refine z_get (ci := 7) (C := R_MO) (T := T_MO) (N := 32) (v := .ref (ad (15))) hx hb hg in_MO hown hK hP (0) (by decide) rfl rfl 21 (by decide) (hg _ (List.mem_append_right _ (List.mem_append_right _ (List.mem_append_right _ (List.mem_append_right _ (List.mem_append_right _ (List.mem_append_right _ (List.mem_append_right _ (List.mem_append_right _ (List.mem_append_right _ (List.mem_append_right _ (List.mem_append_right _ (List.mem_append_right _ (List.mem_append_right _ (List.mem_append_left _ (List.mem_of_getElem? (i := 24) rfl)))))))))))))))) (fun _ h9 => h9) rfl d_MO_line_133 ?_
            refine lv_iload_n hx hb d_MO_line_136 rfl (lv_at hl 1 rfl) ?_
            refine z_iald hx hb hK hP (15) 0 (by decide) (fun _ => rfl) rfl ((x).toNat) (by omega) (by omega) (by decide) d_MO_line_137 ?_
            have hM : M_2 = mset M 0 0 (r_lic M x wh) := by rw [eM_2, hcd]
            have eW : mo_w ad cs (M_2) = mo_w ad cs (mset M 0 0 (r_lic M x wh)) := by rw [hM]
            have hP := Eq.mp (congrArg (fun q => va_P D vwCl q _) eW) hP
            have hD := Eq.mp (congrArg (va_D _) eW) hD
            exact W.iret (v := iI (M_2 (15) ((x).toNat))) hx hb hr (fun t ht hW => ⟨⟨_, (), rfl, congrArg iI (by rw [hcd, if_pos rfl, show 11 + wh.toNat = 15 by omega, eM_2, mset_ne (by omega)]), by rw [ht]; exact hP, va_K.moved hW.alike hK, hD⟩, hS.F ht⟩) hS.2.2 d_MO_line_138
          · refine z_tabIn hx hb (tgt := 139) d_MO_line_54 ⟨by omega, by omega⟩ 5 (by omega) (by omega) rfl (by decide) ?_
            refine lv_aload_n hx hb d_MO_line_139 rfl (lv_at hl 0 rfl) ?_
            refine z_get (ci := 7) (C := R_MO) (T := T_MO) (N := 32) (v := .ref (ad (16))) hx hb hg in_MO hown hK hP (0) (by decide) rfl rfl 22 (by decide) (hg _ (List.mem_append_right _ (List.mem_append_right _ (List.mem_append_right _ (List.mem_append_right _ (List.mem_append_right _ (List.mem_append_right _ (List.mem_append_right _ (List.mem_append_right _ (List.mem_append_right _ (List.mem_append_right _ (List.mem_append_right _ (List.mem_append_right _ (List.mem_append_right _ (List.mem_append_left _ (List.mem_of_getElem? (i := 25) rfl)))))))))))))))) (fun _ h9 => h9) rfl d_MO_line_140 ?_
            refine lv_iload_n hx hb d_MO_line_143 rfl (lv_at hl 1 rfl) ?_
            refine z_iald hx hb hK hP (16) 0 (by decide) (fun _ => rfl) rfl ((x).toNat) (by omega) (by omega) (by decide) d_MO_line_144 ?_
            have hM : M_2 = mset M 0 0 (r_lic M x wh) := by rw [eM_2, hcd]
            have eW : mo_w ad cs (M_2) = mo_w ad cs (mset M 0 0 (r_lic M x wh)) := by rw [hM]
            have hP := Eq.mp (congrArg (fun q => va_P D vwCl q _) eW) hP
            have hD := Eq.mp (congrArg (va_D _) eW) hD
            exact W.iret (v := iI (M_2 (16) ((x).toNat))) hx hb hr (fun t ht hW => ⟨⟨_, (), rfl, congrArg iI (by rw [hcd, if_pos rfl, show 11 + wh.toNat = 16 by omega, eM_2, mset_ne (by omega)]), by rw [ht]; exact hP, va_K.moved hW.alike hK, hD⟩, hS.F ht⟩) hS.2.2 d_MO_line_145
          · refine z_tabIn hx hb (tgt := 146) d_MO_line_54 ⟨by omega, by omega⟩ 6 (by omega) (by omega) rfl (by decide) ?_
            refine lv_aload_n hx hb d_MO_line_146 rfl (lv_at hl 0 rfl) ?_
            refine z_get (ci := 7) (C := R_MO) (T := T_MO) (N := 32) (v := .ref (ad (17))) hx hb hg in_MO hown hK hP (0) (by decide) rfl rfl 23 (by decide) (hg _ (List.mem_append_right _ (List.mem_append_right _ (List.mem_append_right _ (List.mem_append_right _ (List.mem_append_right _ (List.mem_append_right _ (List.mem_append_right _ (List.mem_append_right _ (List.mem_append_right _ (List.mem_append_right _ (List.mem_append_right _ (List.mem_append_right _ (List.mem_append_right _ (List.mem_append_left _ (List.mem_of_getElem? (i := 26) rfl)))))))))))))))) (fun _ h9 => h9) rfl d_MO_line_147 ?_
            refine lv_iload_n hx hb d_MO_line_150 rfl (lv_at hl 1 rfl) ?_
            refine z_iald hx hb hK hP (17) 0 (by decide) (fun _ => rfl) rfl ((x).toNat) (by omega) (by omega) (by decide) d_MO_line_151 ?_
            have hM : M_2 = mset M 0 0 (r_lic M x wh) := by rw [eM_2, hcd]
            have eW : mo_w ad cs (M_2) = mo_w ad cs (mset M 0 0 (r_lic M x wh)) := by rw [hM]
            have hP := Eq.mp (congrArg (fun q => va_P D vwCl q _) eW) hP
            have hD := Eq.mp (congrArg (va_D _) eW) hD
            exact W.iret (v := iI (M_2 (17) ((x).toNat))) hx hb hr (fun t ht hW => ⟨⟨_, (), rfl, congrArg iI (by rw [hcd, if_pos rfl, show 11 + wh.toNat = 17 by omega, eM_2, mset_ne (by omega)]), by rw [ht]; exact hP, va_K.moved hW.alike hK, hD⟩, hS.F ht⟩) hS.2.2 d_MO_line_152
          · refine z_tabIn hx hb (tgt := 153) d_MO_line_54 ⟨by omega, by omega⟩ 7 (by omega) (by omega) rfl (by decide) ?_
            refine lv_aload_n hx hb d_MO_line_153 rfl (lv_at hl 0 rfl) ?_
            refine z_get (ci := 7) (C := R_MO) (T := T_MO) (N := 32) (v := .ref (ad (18))) hx hb hg in_MO hown hK hP (0) (by decide) rfl rfl 24 (by decide) (hg _ (List.mem_append_right _ (List.mem_append_right _ (List.mem_append_right _ (List.mem_append_right _ (List.mem_append_right _ (List.mem_append_right _ (List.mem_append_right _ (List.mem_append_right _ (List.mem_append_right _ (List.mem_append_right _ (List.mem_append_right _ (List.mem_append_right _ (List.mem_append_right _ (List.mem_append_left _ (List.mem_of_getElem? (i := 27) rfl)))))))))))))))) (fun _ h9 => h9) rfl d_MO_line_154 ?_
            refine lv_iload_n hx hb d_MO_line_157 rfl (lv_at hl 1 rfl) ?_
            refine z_iald hx hb hK hP (18) 0 (by decide) (fun _ => rfl) rfl ((x).toNat) (by omega) (by omega) (by decide) d_MO_line_158 ?_
            have hM : M_2 = mset M 0 0 (r_lic M x wh) := by rw [eM_2, hcd]
            have eW : mo_w ad cs (M_2) = mo_w ad cs (mset M 0 0 (r_lic M x wh)) := by rw [hM]
            have hP := Eq.mp (congrArg (fun q => va_P D vwCl q _) eW) hP
            have hD := Eq.mp (congrArg (va_D _) eW) hD
            exact W.iret (v := iI (M_2 (18) ((x).toNat))) hx hb hr (fun t ht hW => ⟨⟨_, (), rfl, congrArg iI (by rw [hcd, if_pos rfl, show 11 + wh.toNat = 18 by omega, eM_2, mset_ne (by omega)]), by rw [ht]; exact hP, va_K.moved hW.alike hK, hD⟩, hS.F ht⟩) hS.2.2 d_MO_line_159
          · refine z_tabIn hx hb (tgt := 160) d_MO_line_54 ⟨by omega, by omega⟩ 8 (by omega) (by omega) rfl (by decide) ?_
            refine lv_aload_n hx hb d_MO_line_160 rfl (lv_at hl 0 rfl) ?_
            refine z_get (ci := 7) (C := R_MO) (T := T_MO) (N := 32) (v := .ref (ad (19))) hx hb hg in_MO hown hK hP (0) (by decide) rfl rfl 25 (by decide) (hg _ (List.mem_append_right _ (List.mem_append_right _ (List.mem_append_right _ (List.mem_append_right _ (List.mem_append_right _ (List.mem_append_right _ (List.mem_append_right _ (List.mem_append_right _ (List.mem_append_right _ (List.mem_append_right _ (List.mem_append_right _ (List.mem_append_right _ (List.mem_append_right _ (List.mem_append_left _ (List.mem_of_getElem? (i := 28) rfl)))))))))))))))) (fun _ h9 => h9) rfl d_MO_line_161 ?_
            refine lv_iload_n hx hb d_MO_line_164 rfl (lv_at hl 1 rfl) ?_
            refine z_iald hx hb hK hP (19) 0 (by decide) (fun _ => rfl) rfl ((x).toNat) (by omega) (by omega) (by decide) d_MO_line_165 ?_
            have hM : M_2 = mset M 0 0 (r_lic M x wh) := by rw [eM_2, hcd]
            have eW : mo_w ad cs (M_2) = mo_w ad cs (mset M 0 0 (r_lic M x wh)) := by rw [hM]
            have hP := Eq.mp (congrArg (fun q => va_P D vwCl q _) eW) hP
            have hD := Eq.mp (congrArg (va_D _) eW) hD
            exact W.iret (v := iI (M_2 (19) ((x).toNat))) hx hb hr (fun t ht hW => ⟨⟨_, (), rfl, congrArg iI (by rw [hcd, if_pos rfl, show 11 + wh.toNat = 19 by omega, eM_2, mset_ne (by omega)]), by rw [ht]; exact hP, va_K.moved hW.alike hK, hD⟩, hS.F ht⟩) hS.2.2 d_MO_line_166
        · exact absurd c_48 (by omega)
      · refine z_iconst hx hb (z := 2) d_MO_line_36 ?_
        refine lv_goto (tgt := 41) hx hb d_MO_line_37 (by decide) ?_
        have hcd : r_lic M x wh = 2 := by unfold r_lic; rw [if_pos ⟨by omega, c_19⟩, if_neg c_33]
        refine z_put (ci := 7) (C := R_MO) (T := T_MO) (N := 32) (v := .int (iI (2))) (ty := .int) (ce' := (mo_ce ad cs)) (r := va_up (M (0)) 0 (2)) hx hb hg in_MO ty_MO tk_MO nm_MO hown hK hP hD hS (0) (by decide) rfl rfl 0 (by decide) (hg _ (List.mem_append_right _ (List.mem_append_right _ (List.mem_append_right _ (List.mem_append_right _ (List.mem_append_right _ (List.mem_append_right _ (List.mem_append_right _ (List.mem_append_right _ (List.mem_append_right _ (List.mem_append_right _ (List.mem_append_right _ (List.mem_append_right _ (List.mem_append_right _ (List.mem_append_left _ (List.mem_of_getElem? (i := 3) rfl)))))))))))))))) (fun _ h9 => h9) rfl (by decide +kernel) rfl rfl (Nat.le_of_ble_eq_true rfl) (fun _ _ => rfl) rfl d_MO_line_41 (fun H locs hP hD hS => ?_)
        obtain ⟨M_3, eM_3⟩ : ∃ q_, q_ = mset M (0) (0) (2) := ⟨_, rfl⟩
        have hP : va_P D vwCl (mo_w ad cs M_3) H := by rw [eM_3]; exact hP
        have hD : va_D (va_A (mo_w ad cs M) s.heap.size) (mo_w ad cs M_3) := by rw [eM_3]; exact hD
        have g0 : M_3 0 0 = 2 := by rw [eM_3]; exact mset_same _ _ _ _
        refine lv_aload_n hx hb d_MO_line_44 rfl (lv_at hl 0 rfl) ?_
        refine z_get (ci := 7) (C := R_MO) (T := T_MO) (N := 32) (v := .int (iI (M_3 (0) 0))) hx hb hg in_MO hown hK hP (0) (by decide) rfl rfl 0 (by decide) (hg _ (List.mem_append_right _ (List.mem_append_right _ (List.mem_append_right _ (List.mem_append_right _ (List.mem_append_right _ (List.mem_append_right _ (List.mem_append_right _ (List.mem_append_right _ (List.mem_append_right _ (List.mem_append_right _ (List.mem_append_right _ (List.mem_append_right _ (List.mem_append_right _ (List.mem_append_left _ (List.mem_of_getElem? (i := 3) rfl)))))))))))))))) (fun _ h9 => h9) rfl d_MO_line_45 ?_
        refine z_if_le hx hb (tgt := 53) d_MO_line_48 (by decide) ⟨by omega, by omega⟩ (fun c_48 => ?_) (fun c_48 => ?_)
        · exact absurd c_48 (by omega)
        · refine z_iconst hx hb (z := 0) d_MO_line_51 ?_
          have hM : M_3 = mset M 0 0 (r_lic M x wh) := by rw [eM_3, hcd]
          have eW : mo_w ad cs (M_3) = mo_w ad cs (mset M 0 0 (r_lic M x wh)) := by rw [hM]
          have hP := Eq.mp (congrArg (fun q => va_P D vwCl q _) eW) hP
          have hD := Eq.mp (congrArg (va_D _) eW) hD
          exact W.iret (v := iI (0)) hx hb hr (fun t ht hW => ⟨⟨_, (), rfl, by rw [hcd, if_neg (by omega)], by rw [ht]; exact hP, va_K.moved hW.alike hK, hD⟩, hS.F ht⟩) hS.2.2 d_MO_line_52
    · refine z_iconst hx hb (z := 1) d_MO_line_22 ?_
      refine lv_goto (tgt := 41) hx hb d_MO_line_23 (by decide) ?_
      have hcd : r_lic M x wh = 1 := by unfold r_lic; rw [if_neg (fun g => c_19 g.2)]
      refine z_put (ci := 7) (C := R_MO) (T := T_MO) (N := 32) (v := .int (iI (1))) (ty := .int) (ce' := (mo_ce ad cs)) (r := va_up (M (0)) 0 (1)) hx hb hg in_MO ty_MO tk_MO nm_MO hown hK hP hD hS (0) (by decide) rfl rfl 0 (by decide) (hg _ (List.mem_append_right _ (List.mem_append_right _ (List.mem_append_right _ (List.mem_append_right _ (List.mem_append_right _ (List.mem_append_right _ (List.mem_append_right _ (List.mem_append_right _ (List.mem_append_right _ (List.mem_append_right _ (List.mem_append_right _ (List.mem_append_right _ (List.mem_append_right _ (List.mem_append_left _ (List.mem_of_getElem? (i := 3) rfl)))))))))))))))) (fun _ h9 => h9) rfl (by decide +kernel) rfl rfl (Nat.le_of_ble_eq_true rfl) (fun _ _ => rfl) rfl d_MO_line_41 (fun H locs hP hD hS => ?_)
      obtain ⟨M_4, eM_4⟩ : ∃ q_, q_ = mset M (0) (0) (1) := ⟨_, rfl⟩
      have hP : va_P D vwCl (mo_w ad cs M_4) H := by rw [eM_4]; exact hP
      have hD : va_D (va_A (mo_w ad cs M) s.heap.size) (mo_w ad cs M_4) := by rw [eM_4]; exact hD
      have g0 : M_4 0 0 = 1 := by rw [eM_4]; exact mset_same _ _ _ _
      refine lv_aload_n hx hb d_MO_line_44 rfl (lv_at hl 0 rfl) ?_
      refine z_get (ci := 7) (C := R_MO) (T := T_MO) (N := 32) (v := .int (iI (M_4 (0) 0))) hx hb hg in_MO hown hK hP (0) (by decide) rfl rfl 0 (by decide) (hg _ (List.mem_append_right _ (List.mem_append_right _ (List.mem_append_right _ (List.mem_append_right _ (List.mem_append_right _ (List.mem_append_right _ (List.mem_append_right _ (List.mem_append_right _ (List.mem_append_right _ (List.mem_append_right _ (List.mem_append_right _ (List.mem_append_right _ (List.mem_append_right _ (List.mem_append_left _ (List.mem_of_getElem? (i := 3) rfl)))))))))))))))) (fun _ h9 => h9) rfl d_MO_line_45 ?_
      refine z_if_le hx hb (tgt := 53) d_MO_line_48 (by decide) ⟨by omega, by omega⟩ (fun c_48 => ?_) (fun c_48 => ?_)
      · exact absurd c_48 (by omega)
      · refine z_iconst hx hb (z := 0) d_MO_line_51 ?_
        have hM : M_4 = mset M 0 0 (r_lic M x wh) := by rw [eM_4, hcd]
        have eW : mo_w ad cs (M_4) = mo_w ad cs (mset M 0 0 (r_lic M x wh)) := by rw [hM]
        have hP := Eq.mp (congrArg (fun q => va_P D vwCl q _) eW) hP
        have hD := Eq.mp (congrArg (va_D _) eW) hD
        exact W.iret (v := iI (0)) hx hb hr (fun t ht hW => ⟨⟨_, (), rfl, by rw [hcd, if_neg (by omega)], by rw [ht]; exact hP, va_K.moved hW.alike hK, hD⟩, hS.F ht⟩) hS.2.2 d_MO_line_52
set_option maxHeartbeats 4000000 in
set_option maxRecDepth 100000 in
/-- where -/
theorem r_where (l : Launch) {D : va_G} {ad : Nat → Nat} {cs : ClassId} {M : Nat → Nat → Int} (sz : Nat) (np n : Nat) (x wh : Int) (hx0 : zb x) (hw : zb wh) (hG : rG M) (hnp : M 0 4 = ((np : Nat) : Int)) (hn : np ≤ 30) (hb0 : 0 < np → M 1 np = ((n : Nat) : Int)) (hn6 : n ≤ 600) : Met l y_MO_where ws_MO_where ({ frames := 1, cells := 0, slots := 0, locals := 22 } : Room) (va_Pc [.ref (ad (0)), .int (iI (x)), .int (iI (wh))] (rw_B D vwCl (mo_tys cs) (mo_w ad cs M) sz)) (va_Qi (fun (r : Int32) (_ : Unit) => r = iI (if r_whc M np x wh = 0 then M (21 + wh.toNat) x.toNat else 0)) (rw_E D vwCl (mo_tys cs) (mo_w ad cs M) (mo_w ad cs (mset M 0 0 (r_whc M np x wh))) sz) (va_A (mo_w ad cs M) sz)) 0 0 (va_A (mo_w ad cs M) sz) := by
  refine Met.ofW (cc := b_MO_where) (maxL := 3) (ret := (some .int)) (by decide) rfl ?_
  intro p e s m args below meth c s₁ B hml hv
  obtain ⟨rfl, hsz, hP, hK, hD0⟩ := hv
  have hx := B.exec
  have hb := B.bytes
  have hr := B.returns
  have hts := atoms_spec (ws := ws_MO_where) B.pre
  have hg : ∀ w ∈ gt, w.before _ s = true := fun w h => hts w (List.mem_cons_of_mem _ h)
  have hown : s.vm.findClass R_MO = some m.cls := findClass_of_methodNamed B.named
  have hlocks := B.notSynchronized
  subst hsz
  have hD := hD0.self (sz := s.heap.size)
  have hA : ∀ q : Nat, s.heap.size ≤ q → va_A (mo_w ad cs M) s.heap.size q := fun q h => Or.inr h
  have hS : va_S (va_A (mo_w ad cs M) s.heap.size) s.heap s.heap [] := va_S.rf
  have hl := lv_entry ([.ref (ad (0)), .int (iI (x)), .int (iI (wh))]) (n := 3) (Nat.le_of_ble_eq_true rfl)
  rw [lg_entry_eq]
  generalize (lg_sl ([.ref (ad (0)), .int (iI (x)), .int (iI (wh))]) ++ List.replicate (3 - (lg_sl ([.ref (ad (0)), .int (iI (x)), .int (iI (wh))])).length) Slot.unset).toArray = ls at hl ⊢
  have hl : lv_has ls 3 [(0, .ref (ad (0))), (1, .int (iI (x))), (2, .int (iI (wh)))] := hl
  obtain ⟨hx1, hx2⟩ := hx0
  obtain ⟨hw1, hw2⟩ := hw
  have hg1 := hG.1
  refine lv_aload_n hx hb d_MO_where_0 rfl (lv_at hl 0 rfl) ?_
  refine lv_aload_n hx hb d_MO_where_1 rfl (lv_at hl 0 rfl) ?_
  refine z_get (ci := 7) (C := R_MO) (T := T_MO) (N := 32) (v := .int (iI (M (0) 15))) hx hb hg in_MO hown hK hP (0) (by decide) rfl rfl 15 (by decide) (hg _ (List.mem_append_right _ (List.mem_append_right _ (List.mem_append_right _ (List.mem_append_right _ (List.mem_append_right _ (List.mem_append_right _ (List.mem_append_right _ (List.mem_append_right _ (List.mem_append_right _ (List.mem_append_right _ (List.mem_append_right _ (List.mem_append_right _ (List.mem_append_right _ (List.mem_append_left _ (List.mem_of_getElem? (i := 18) rfl)))))))))))))))) (fun _ h9 => h9) rfl d_MO_where_2 ?_
  refine z_if_eq hx hb (tgt := 34) d_MO_where_5 (by decide) ⟨by omega, by omega⟩ (fun c_5 => ?_) (fun c_5 => ?_)
  · refine z_iconst hx hb (z := 1) d_MO_where_34 ?_
    refine lv_goto (tgt := 52) hx hb d_MO_where_35 (by decide) ?_
    have hcd : r_whc M np x wh = 1 := by unfold r_whc; rw [if_neg (fun g => by omega)]
    refine z_put (ci := 7) (C := R_MO) (T := T_MO) (N := 32) (v := .int (iI (1))) (ty := .int) (ce' := (mo_ce ad cs)) (r := va_up (M (0)) 0 (1)) hx hb hg in_MO ty_MO tk_MO nm_MO hown hK hP hD hS (0) (by decide) rfl rfl 0 (by decide) (hg _ (List.mem_append_right _ (List.mem_append_right _ (List.mem_append_right _ (List.mem_append_right _ (List.mem_append_right _ (List.mem_append_right _ (List.mem_append_right _ (List.mem_append_right _ (List.mem_append_right _ (List.mem_append_right _ (List.mem_append_right _ (List.mem_append_right _ (List.mem_append_right _ (List.mem_append_left _ (List.mem_of_getElem? (i := 3) rfl)))))))))))))))) (fun _ h9 => h9) rfl (by decide +kernel) rfl rfl (Nat.le_of_ble_eq_true rfl) (fun _ _ => rfl) rfl d_MO_where_52 (fun H locs hP hD hS => ?_)
    obtain ⟨M_1, eM_1⟩ : ∃ q_, q_ = mset M (0) (0) (1) := ⟨_, rfl⟩
    have hP : va_P D vwCl (mo_w ad cs M_1) H := by rw [eM_1]; exact hP
    have hD : va_D (va_A (mo_w ad cs M) s.heap.size) (mo_w ad cs M_1) := by rw [eM_1]; exact hD
    have g0 : M_1 0 0 = 1 := by rw [eM_1]; exact mset_same _ _ _ _
    refine lv_aload_n hx hb d_MO_where_55 rfl (lv_at hl 0 rfl) ?_
    refine z_get (ci := 7) (C := R_MO) (T := T_MO) (N := 32) (v := .int (iI (M_1 (0) 0))) hx hb hg in_MO hown hK hP (0) (by decide) rfl rfl 0 (by decide) (hg _ (List.mem_append_right _ (List.mem_append_right _ (List.mem_append_right _ (List.mem_append_right _ (List.mem_append_right _ (List.mem_append_right _ (List.mem_append_right _ (List.mem_append_right _ (List.mem_append_right _ (List.mem_append_right _ (List.mem_append_right _ (List.mem_append_right _ (List.mem_append_right _ (List.mem_append_left _ (List.mem_of_getElem? (i := 3) rfl)))))))))))))))) (fun _ h9 => h9) rfl d_MO_where_56 ?_
    refine z_if_le hx hb (tgt := 64) d_MO_where_59 (by decide) ⟨by omega, by omega⟩ (fun c_59 => ?_) (fun c_59 => ?_)
    · exact absurd c_59 (by omega)
    · refine z_iconst hx hb (z := 0) d_MO_where_62 ?_
      have hM : M_1 = mset M 0 0 (r_whc M np x wh) := by rw [eM_1, hcd]
      have eW : mo_w ad cs (M_1) = mo_w ad cs (mset M 0 0 (r_whc M np x wh)) := by rw [hM]
      have hP := Eq.mp (congrArg (fun q => va_P D vwCl q _) eW) hP
      have hD := Eq.mp (congrArg (va_D _) eW) hD
      exact W.iret (v := iI (0)) hx hb hr (fun t ht hW => ⟨⟨_, (), rfl, by rw [hcd, if_neg (by omega)], by rw [ht]; exact hP, va_K.moved hW.alike hK, hD⟩, hS.F ht⟩) hS.2.2 d_MO_where_63
  · refine lv_aload_n hx hb d_MO_where_8 rfl (lv_at hl 0 rfl) ?_
    refine z_get (ci := 7) (C := R_MO) (T := T_MO) (N := 32) (v := .int (iI (M (0) 4))) hx hb hg in_MO hown hK hP (0) (by decide) rfl rfl 4 (by decide) (hg _ (List.mem_append_right _ (List.mem_append_right _ (List.mem_append_right _ (List.mem_append_right _ (List.mem_append_right _ (List.mem_append_right _ (List.mem_append_right _ (List.mem_append_right _ (List.mem_append_right _ (List.mem_append_right _ (List.mem_append_right _ (List.mem_append_right _ (List.mem_append_right _ (List.mem_append_left _ (List.mem_of_getElem? (i := 7) rfl)))))))))))))))) (fun _ h9 => h9) rfl d_MO_where_9 ?_
    refine z_if_eq hx hb (tgt := 34) d_MO_where_12 (by decide) ⟨by omega, by omega⟩ (fun c_12 => ?_) (fun c_12 => ?_)
    · refine z_iconst hx hb (z := 1) d_MO_where_34 ?_
      refine lv_goto (tgt := 52) hx hb d_MO_where_35 (by decide) ?_
      have hcd : r_whc M np x wh = 1 := by unfold r_whc; rw [if_neg (fun g => by omega)]
      refine z_put (ci := 7) (C := R_MO) (T := T_MO) (N := 32) (v := .int (iI (1))) (ty := .int) (ce' := (mo_ce ad cs)) (r := va_up (M (0)) 0 (1)) hx hb hg in_MO ty_MO tk_MO nm_MO hown hK hP hD hS (0) (by decide) rfl rfl 0 (by decide) (hg _ (List.mem_append_right _ (List.mem_append_right _ (List.mem_append_right _ (List.mem_append_right _ (List.mem_append_right _ (List.mem_append_right _ (List.mem_append_right _ (List.mem_append_right _ (List.mem_append_right _ (List.mem_append_right _ (List.mem_append_right _ (List.mem_append_right _ (List.mem_append_right _ (List.mem_append_left _ (List.mem_of_getElem? (i := 3) rfl)))))))))))))))) (fun _ h9 => h9) rfl (by decide +kernel) rfl rfl (Nat.le_of_ble_eq_true rfl) (fun _ _ => rfl) rfl d_MO_where_52 (fun H locs hP hD hS => ?_)
      obtain ⟨M_2, eM_2⟩ : ∃ q_, q_ = mset M (0) (0) (1) := ⟨_, rfl⟩
      have hP : va_P D vwCl (mo_w ad cs M_2) H := by rw [eM_2]; exact hP
      have hD : va_D (va_A (mo_w ad cs M) s.heap.size) (mo_w ad cs M_2) := by rw [eM_2]; exact hD
      have g0 : M_2 0 0 = 1 := by rw [eM_2]; exact mset_same _ _ _ _
      refine lv_aload_n hx hb d_MO_where_55 rfl (lv_at hl 0 rfl) ?_
      refine z_get (ci := 7) (C := R_MO) (T := T_MO) (N := 32) (v := .int (iI (M_2 (0) 0))) hx hb hg in_MO hown hK hP (0) (by decide) rfl rfl 0 (by decide) (hg _ (List.mem_append_right _ (List.mem_append_right _ (List.mem_append_right _ (List.mem_append_right _ (List.mem_append_right _ (List.mem_append_right _ (List.mem_append_right _ (List.mem_append_right _ (List.mem_append_right _ (List.mem_append_right _ (List.mem_append_right _ (List.mem_append_right _ (List.mem_append_right _ (List.mem_append_left _ (List.mem_of_getElem? (i := 3) rfl)))))))))))))))) (fun _ h9 => h9) rfl d_MO_where_56 ?_
      refine z_if_le hx hb (tgt := 64) d_MO_where_59 (by decide) ⟨by omega, by omega⟩ (fun c_59 => ?_) (fun c_59 => ?_)
      · exact absurd c_59 (by omega)
      · refine z_iconst hx hb (z := 0) d_MO_where_62 ?_
        have hM : M_2 = mset M 0 0 (r_whc M np x wh) := by rw [eM_2, hcd]
        have eW : mo_w ad cs (M_2) = mo_w ad cs (mset M 0 0 (r_whc M np x wh)) := by rw [hM]
        have hP := Eq.mp (congrArg (fun q => va_P D vwCl q _) eW) hP
        have hD := Eq.mp (congrArg (va_D _) eW) hD
        exact W.iret (v := iI (0)) hx hb hr (fun t ht hW => ⟨⟨_, (), rfl, by rw [hcd, if_neg (by omega)], by rw [ht]; exact hP, va_K.moved hW.alike hK, hD⟩, hS.F ht⟩) hS.2.2 d_MO_where_63
    · refine lv_iload_n hx hb d_MO_where_15 rfl (lv_at hl 1 rfl) ?_
      refine z_iconst hx hb (z := 0) d_MO_where_16 ?_
      refine lv_aload_n hx hb d_MO_where_17 rfl (lv_at hl 0 rfl) ?_
      refine z_get (ci := 7) (C := R_MO) (T := T_MO) (N := 32) (v := .ref (ad (1))) hx hb hg in_MO hown hK hP (0) (by decide) rfl rfl 5 (by decide) (hg _ (List.mem_append_right _ (List.mem_append_right _ (List.mem_append_right _ (List.mem_append_right _ (List.mem_append_right _ (List.mem_append_right _ (List.mem_append_right _ (List.mem_append_right _ (List.mem_append_right _ (List.mem_append_right _ (List.mem_append_right _ (List.mem_append_right _ (List.mem_append_right _ (List.mem_append_left _ (List.mem_of_getElem? (i := 8) rfl)))))))))))))))) (fun _ h9 => h9) rfl d_MO_where_18 ?_
      refine lv_aload_n hx hb d_MO_where_21 rfl (lv_at hl 0 rfl) ?_
      refine z_get (ci := 7) (C := R_MO) (T := T_MO) (N := 32) (v := .int (iI (M (0) 4))) hx hb hg in_MO hown hK hP (0) (by decide) rfl rfl 4 (by decide) (hg _ (List.mem_append_right _ (List.mem_append_right _ (List.mem_append_right _ (List.mem_append_right _ (List.mem_append_right _ (List.mem_append_right _ (List.mem_append_right _ (List.mem_append_right _ (List.mem_append_right _ (List.mem_append_right _ (List.mem_append_right _ (List.mem_append_right _ (List.mem_append_right _ (List.mem_append_left _ (List.mem_of_getElem? (i := 7) rfl)))))))))))))))) (fun _ h9 => h9) rfl d_MO_where_22 ?_
      refine z_iald hx hb hK hP (1) 0 (by decide) (fun _ => rfl) rfl (np) hnp (by omega) (by decide) d_MO_where_25 ?_
      have hbv := hb0 (by omega)
      refine lv_topi (fun y_ ey => ?_)
      have ey := ey.trans (congrArg iI hbv)
      subst ey
      refine z_iconst hx hb (z := 1) d_MO_where_26 ?_
      refine z_isub hx hb d_MO_where_27 (v := (((n : Nat) : Int) - 1)) rfl ?_
      refine ro_S (As := [.int (iI (x)), .int (iI (0)), .int (iI ((((n : Nat) : Int) - 1)))]) (rest := [.ref (ad (0))]) (z := bz (inn (x) (0) ((((n : Nat) : Int) - 1))) inferInstance) ⟨hx, hb, hml, hown, hg⟩ (r_in l (x) (0) ((((n : Nat) : Int) - 1)) ⟨by omega, by omega⟩ ⟨by decide, by decide⟩ ⟨by omega, by omega⟩) (cwS 3 hg (gt_S (List.mem_append_right _ (List.mem_append_right _ (List.mem_append_right _ (List.mem_append_right _ (List.mem_append_right _ (List.mem_append_right _ (List.mem_append_right _ (List.mem_append_right _ (List.mem_append_right _ (List.mem_append_right _ (List.mem_append_right _ (List.mem_append_right _ (List.mem_append_right _ (List.mem_append_right _ (List.mem_append_right _ (List.mem_append_left _ (List.mem_of_getElem? (i := 3) rfl))))))))))))))))) (List.mem_append_right _ (List.mem_append_right _ (List.mem_append_right _ (List.mem_append_right _ (List.mem_append_right _ (List.mem_append_right _ (List.mem_append_right _ (List.mem_append_right _ (List.mem_append_right _ (List.mem_append_right _ (List.mem_append_right _ (List.mem_append_right _ (List.mem_append_right _ (List.mem_append_right _ (List.mem_append_right _ (List.mem_append_left _ (List.mem_of_getElem? (i := 4) rfl))))))))))))))))) (List.mem_append_right _ (List.mem_append_left _ (List.mem_of_getElem? (i := 9) rfl))) (List.mem_append_right _ (List.mem_append_right _ (List.mem_append_right _ (List.mem_append_right _ (List.mem_append_right _ (List.mem_append_right _ (List.mem_append_right _ (List.mem_append_right _ (List.mem_append_right _ (List.mem_append_right _ (List.mem_append_right _ (List.mem_append_right _ (List.mem_append_right _ (List.mem_append_right _ (List.mem_append_right _ (List.mem_append_left _ (List.mem_of_getElem? (i := 5) rfl)))))))))))))))))) rfl rfl rfl (by decide +kernel) ⟨Nat.le_of_ble_eq_true rfl, Nat.le_of_ble_eq_true rfl⟩) hK hP rfl hl.1 rfl (Nat.le_of_ble_eq_true rfl) d_MO_where_28 ⟨Nat.zero_le _, Nat.zero_le _⟩ ?_
      refine z_ifb_ne hx hb (tgt := 38) d_MO_where_31 (by decide) (fun c_31 => ?_) (fun c_31 => ?_)
      · refine lv_iload_n hx hb d_MO_where_38 rfl (lv_at hl 2 rfl) ?_
        refine z_iconst hx hb (z := 0) d_MO_where_39 ?_
        refine z_iconst hx hb (z := 2) d_MO_where_40 ?_
        refine ro_S (As := [.int (iI (wh)), .int (iI (0)), .int (iI (2))]) (rest := [.ref (ad (0))]) (z := bz (inn (wh) (0) (2)) inferInstance) ⟨hx, hb, hml, hown, hg⟩ (r_in l (wh) (0) (2) ⟨by omega, by omega⟩ ⟨by decide, by decide⟩ ⟨by decide, by decide⟩) (cwS 3 hg (gt_S (List.mem_append_right _ (List.mem_append_right _ (List.mem_append_right _ (List.mem_append_right _ (List.mem_append_right _ (List.mem_append_right _ (List.mem_append_right _ (List.mem_append_right _ (List.mem_append_right _ (List.mem_append_right _ (List.mem_append_right _ (List.mem_append_right _ (List.mem_append_right _ (List.mem_append_right _ (List.mem_append_right _ (List.mem_append_left _ (List.mem_of_getElem? (i := 3) rfl))))))))))))))))) (List.mem_append_right _ (List.mem_append_right _ (List.mem_append_right _ (List.mem_append_right _ (List.mem_append_right _ (List.mem_append_right _ (List.mem_append_right _ (List.mem_append_right _ (List.mem_append_right _ (List.mem_append_right _ (List.mem_append_right _ (List.mem_append_right _ (List.mem_append_right _ (List.mem_append_right _ (List.mem_append_right _ (List.mem_append_left _ (List.mem_of_getElem? (i := 4) rfl))))))))))))))))) (List.mem_append_right _ (List.mem_append_left _ (List.mem_of_getElem? (i := 9) rfl))) (List.mem_append_right _ (List.mem_append_right _ (List.mem_append_right _ (List.mem_append_right _ (List.mem_append_right _ (List.mem_append_right _ (List.mem_append_right _ (List.mem_append_right _ (List.mem_append_right _ (List.mem_append_right _ (List.mem_append_right _ (List.mem_append_right _ (List.mem_append_right _ (List.mem_append_right _ (List.mem_append_right _ (List.mem_append_left _ (List.mem_of_getElem? (i := 5) rfl)))))))))))))))))) rfl rfl rfl (by decide +kernel) ⟨Nat.le_of_ble_eq_true rfl, Nat.le_of_ble_eq_true rfl⟩) hK hP rfl hl.1 rfl (Nat.le_of_ble_eq_true rfl) d_MO_where_41 ⟨Nat.zero_le _, Nat.zero_le _⟩ ?_
        refine z_ifb_ne hx hb (tgt := 51) d_MO_where_44 (by decide) (fun c_44 => ?_) (fun c_44 => ?_)
        · refine z_iconst hx hb (z := 0) d_MO_where_51 ?_
          have hcd : r_whc M np x wh = 0 := by unfold r_whc; rw [if_pos ⟨by omega, by omega, by rw [hbv]; exact c_31⟩, if_pos c_44]
          refine z_put (ci := 7) (C := R_MO) (T := T_MO) (N := 32) (v := .int (iI (0))) (ty := .int) (ce' := (mo_ce ad cs)) (r := va_up (M (0)) 0 (0)) hx hb hg in_MO ty_MO tk_MO nm_MO hown hK hP hD hS (0) (by decide) rfl rfl 0 (by decide) (hg _ (List.mem_append_right _ (List.mem_append_right _ (List.mem_append_right _ (List.mem_append_right _ (List.mem_append_right _ (List.mem_append_right _ (List.mem_append_right _ (List.mem_append_right _ (List.mem_append_right _ (List.mem_append_right _ (List.mem_append_right _ (List.mem_append_right _ (List.mem_append_right _ (List.mem_append_left _ (List.mem_of_getElem? (i := 3) rfl)))))))))))))))) (fun _ h9 => h9) rfl (by decide +kernel) rfl rfl (Nat.le_of_ble_eq_true rfl) (fun _ _ => rfl) rfl d_MO_where_52 (fun H locs hP hD hS => ?_)
          obtain ⟨M_3, eM_3⟩ : ∃ q_, q_ = mset M (0) (0) (0) := ⟨_, rfl⟩
          have hP : va_P D vwCl (mo_w ad cs M_3) H := by rw [eM_3]; exact hP
          have hD : va_D (va_A (mo_w ad cs M) s.heap.size) (mo_w ad cs M_3) := by rw [eM_3]; exact hD
          have g0 : M_3 0 0 = 0 := by rw [eM_3]; exact mset_same _ _ _ _
          refine lv_aload_n hx hb d_MO_where_55 rfl (lv_at hl 0 rfl) ?_
          refine z_get (ci := 7) (C := R_MO) (T := T_MO) (N := 32) (v := .int (iI (M_3 (0) 0))) hx hb hg in_MO hown hK hP (0) (by decide) rfl rfl 0 (by decide) (hg _ (List.mem_append_right _ (List.mem_append_right _ (List.mem_append_right _ (List.mem_append_right _ (List.mem_append_right _ (List.mem_append_right _ (List.mem_append_right _ (List.mem_append_right _ (List.mem_append_right _ (List.mem_append_right _ (List.mem_append_right _ (List.mem_append_right _ (List.mem_append_right _ (List.mem_append_left _ (List.mem_of_getElem? (i := 3) rfl)))))))))))))))) (fun _ h9 => h9) rfl d_MO_where_56 ?_
          refine z_if_le hx hb (tgt := 64) d_MO_where_59 (by decide) ⟨by omega, by omega⟩ (fun c_59 => ?_) (fun c_59 => ?_)
          · refine lv_iload_n hx hb d_MO_where_64 rfl (lv_at hl 2 rfl) ?_
            refine z_if_ne hx hb (tgt := 77) d_MO_where_65 (by decide) ⟨by omega, by omega⟩ (fun c_65 => ?_) (fun c_65 => ?_)
            · refine lv_iload_n hx hb d_MO_where_77 rfl (lv_at hl 2 rfl) ?_
              refine z_iconst hx hb (z := 1) d_MO_where_78 ?_
              refine z_icmp_ne hx hb (tgt := 91) d_MO_where_79 (by decide) ⟨by omega, by omega⟩ ⟨by decide, by decide⟩ (fun c_79 => ?_) (fun c_79 => ?_)
              · refine lv_aload_n hx hb d_MO_where_91 rfl (lv_at hl 0 rfl) ?_
                refine z_get (ci := 7) (C := R_MO) (T := T_MO) (N := 32) (v := .ref (ad (23))) hx hb hg in_MO hown hK hP (0) (by decide) rfl rfl 29 (by decide) (hg _ (List.mem_append_right _ (List.mem_append_right _ (List.mem_append_right _ (List.mem_append_right _ (List.mem_append_right _ (List.mem_append_right _ (List.mem_append_right _ (List.mem_append_right _ (List.mem_append_right _ (List.mem_append_right _ (List.mem_append_right _ (List.mem_append_right _ (List.mem_append_right _ (List.mem_append_left _ (List.mem_of_getElem? (i := 32) rfl)))))))))))))))) (fun _ h9 => h9) rfl d_MO_where_92 ?_
                refine lv_iload_n hx hb d_MO_where_95 rfl (lv_at hl 1 rfl) ?_
                refine z_iald hx hb hK hP (23) 0 (by decide) (fun _ => rfl) rfl ((x).toNat) (by omega) (by omega) (by decide) d_MO_where_96 ?_
                have hM : M_3 = mset M 0 0 (r_whc M np x wh) := by rw [eM_3, hcd]
                have eW : mo_w ad cs (M_3) = mo_w ad cs (mset M 0 0 (r_whc M np x wh)) := by rw [hM]
                have hP := Eq.mp (congrArg (fun q => va_P D vwCl q _) eW) hP
                have hD := Eq.mp (congrArg (va_D _) eW) hD
                exact W.iret (v := iI (M_3 (23) ((x).toNat))) hx hb hr (fun t ht hW => ⟨⟨_, (), rfl, congrArg iI (by rw [hcd, if_pos rfl, show 21 + wh.toNat = 23 by omega, eM_3, mset_ne (by omega)]), by rw [ht]; exact hP, va_K.moved hW.alike hK, hD⟩, hS.F ht⟩) hS.2.2 d_MO_where_97
              · refine lv_aload_n hx hb d_MO_where_82 rfl (lv_at hl 0 rfl) ?_
                refine z_get (ci := 7) (C := R_MO) (T := T_MO) (N := 32) (v := .ref (ad (22))) hx hb hg in_MO hown hK hP (0) (by decide) rfl rfl 28 (by decide) (hg _ (List.mem_append_right _ (List.mem_append_right _ (List.mem_append_right _ (List.mem_append_right _ (List.mem_append_right _ (List.mem_append_right _ (List.mem_append_right _ (List.mem_append_right _ (List.mem_append_right _ (List.mem_append_right _ (List.mem_append_right _ (List.mem_append_right _ (List.mem_append_right _ (List.mem_append_left _ (List.mem_of_getElem? (i := 31) rfl)))))))))))))))) (fun _ h9 => h9) rfl d_MO_where_83 ?_
                refine lv_iload_n hx hb d_MO_where_86 rfl (lv_at hl 1 rfl) ?_
                refine z_iald hx hb hK hP (22) 0 (by decide) (fun _ => rfl) rfl ((x).toNat) (by omega) (by omega) (by decide) d_MO_where_87 ?_
                refine lv_goto (tgt := 97) hx hb d_MO_where_88 (by decide) ?_
                have hM : M_3 = mset M 0 0 (r_whc M np x wh) := by rw [eM_3, hcd]
                have eW : mo_w ad cs (M_3) = mo_w ad cs (mset M 0 0 (r_whc M np x wh)) := by rw [hM]
                have hP := Eq.mp (congrArg (fun q => va_P D vwCl q _) eW) hP
                have hD := Eq.mp (congrArg (va_D _) eW) hD
                exact W.iret (v := iI (M_3 (22) ((x).toNat))) hx hb hr (fun t ht hW => ⟨⟨_, (), rfl, congrArg iI (by rw [hcd, if_pos rfl, show 21 + wh.toNat = 22 by omega, eM_3, mset_ne (by omega)]), by rw [ht]; exact hP, va_K.moved hW.alike hK, hD⟩, hS.F ht⟩) hS.2.2 d_MO_where_97
            · refine lv_aload_n hx hb d_MO_where_68 rfl (lv_at hl 0 rfl) ?_
              refine z_get (ci := 7) (C := R_MO) (T := T_MO) (N := 32) (v := .ref (ad (21))) hx hb hg in_MO hown hK hP (0) (by decide) rfl rfl 27 (by decide) (hg _ (List.mem_append_right _ (List.mem_append_right _ (List.mem_append_right _ (List.mem_append_right _ (List.mem_append_right _ (List.mem_append_right _ (List.mem_append_right _ (List.mem_append_right _ (List.mem_append_right _ (List.mem_append_right _ (List.mem_append_right _ (List.mem_append_right _ (List.mem_append_right _ (List.mem_append_left _ (List.mem_of_getElem? (i := 30) rfl)))))))))))))))) (fun _ h9 => h9) rfl d_MO_where_69 ?_
              refine lv_iload_n hx hb d_MO_where_72 rfl (lv_at hl 1 rfl) ?_
              refine z_iald hx hb hK hP (21) 0 (by decide) (fun _ => rfl) rfl ((x).toNat) (by omega) (by omega) (by decide) d_MO_where_73 ?_
              refine lv_goto (tgt := 97) hx hb d_MO_where_74 (by decide) ?_
              have hM : M_3 = mset M 0 0 (r_whc M np x wh) := by rw [eM_3, hcd]
              have eW : mo_w ad cs (M_3) = mo_w ad cs (mset M 0 0 (r_whc M np x wh)) := by rw [hM]
              have hP := Eq.mp (congrArg (fun q => va_P D vwCl q _) eW) hP
              have hD := Eq.mp (congrArg (va_D _) eW) hD
              exact W.iret (v := iI (M_3 (21) ((x).toNat))) hx hb hr (fun t ht hW => ⟨⟨_, (), rfl, congrArg iI (by rw [hcd, if_pos rfl, show 21 + wh.toNat = 21 by omega, eM_3, mset_ne (by omega)]), by rw [ht]; exact hP, va_K.moved hW.alike hK, hD⟩, hS.F ht⟩) hS.2.2 d_MO_where_97
          · exact absurd c_59 (by omega)
        · refine z_iconst hx hb (z := 2) d_MO_where_47 ?_
          refine lv_goto (tgt := 52) hx hb d_MO_where_48 (by decide) ?_
          have hcd : r_whc M np x wh = 2 := by unfold r_whc; rw [if_pos ⟨by omega, by omega, by rw [hbv]; exact c_31⟩, if_neg c_44]
          refine z_put (ci := 7) (C := R_MO) (T := T_MO) (N := 32) (v := .int (iI (2))) (ty := .int) (ce' := (mo_ce ad cs)) (r := va_up (M (0)) 0 (2)) hx hb hg in_MO ty_MO tk_MO nm_MO hown hK hP hD hS (0) (by decide) rfl rfl 0 (by decide) (hg _ (List.mem_append_right _ (List.mem_append_right _ (List.mem_append_right _ (List.mem_append_right _ (List.mem_append_right _ (List.mem_append_right _ (List.mem_append_right _ (List.mem_append_right _ (List.mem_append_right _ (List.mem_append_right _ (List.mem_append_right _ (List.mem_append_right _ (List.mem_append_right _ (List.mem_append_left _ (List.mem_of_getElem? (i := 3) rfl)))))))))))))))) (fun _ h9 => h9) rfl (by decide +kernel) rfl rfl (Nat.le_of_ble_eq_true rfl) (fun _ _ => rfl) rfl d_MO_where_52 (fun H locs hP hD hS => ?_)
          obtain ⟨M_4, eM_4⟩ : ∃ q_, q_ = mset M (0) (0) (2) := ⟨_, rfl⟩
          have hP : va_P D vwCl (mo_w ad cs M_4) H := by rw [eM_4]; exact hP
          have hD : va_D (va_A (mo_w ad cs M) s.heap.size) (mo_w ad cs M_4) := by rw [eM_4]; exact hD
          have g0 : M_4 0 0 = 2 := by rw [eM_4]; exact mset_same _ _ _ _
          refine lv_aload_n hx hb d_MO_where_55 rfl (lv_at hl 0 rfl) ?_
          refine z_get (ci := 7) (C := R_MO) (T := T_MO) (N := 32) (v := .int (iI (M_4 (0) 0))) hx hb hg in_MO hown hK hP (0) (by decide) rfl rfl 0 (by decide) (hg _ (List.mem_append_right _ (List.mem_append_right _ (List.mem_append_right _ (List.mem_append_right _ (List.mem_append_right _ (List.mem_append_right _ (List.mem_append_right _ (List.mem_append_right _ (List.mem_append_right _ (List.mem_append_right _ (List.mem_append_right _ (List.mem_append_right _ (List.mem_append_right _ (List.mem_append_left _ (List.mem_of_getElem? (i := 3) rfl)))))))))))))))) (fun _ h9 => h9) rfl d_MO_where_56 ?_
          refine z_if_le hx hb (tgt := 64) d_MO_where_59 (by decide) ⟨by omega, by omega⟩ (fun c_59 => ?_) (fun c_59 => ?_)
          · exact absurd c_59 (by omega)
          · refine z_iconst hx hb (z := 0) d_MO_where_62 ?_
            have hM : M_4 = mset M 0 0 (r_whc M np x wh) := by rw [eM_4, hcd]
            have eW : mo_w ad cs (M_4) = mo_w ad cs (mset M 0 0 (r_whc M np x wh)) := by rw [hM]
            have hP := Eq.mp (congrArg (fun q => va_P D vwCl q _) eW) hP
            have hD := Eq.mp (congrArg (va_D _) eW) hD
            exact W.iret (v := iI (0)) hx hb hr (fun t ht hW => ⟨⟨_, (), rfl, by rw [hcd, if_neg (by omega)], by rw [ht]; exact hP, va_K.moved hW.alike hK, hD⟩, hS.F ht⟩) hS.2.2 d_MO_where_63
      · refine z_iconst hx hb (z := 1) d_MO_where_34 ?_
        refine lv_goto (tgt := 52) hx hb d_MO_where_35 (by decide) ?_
        have hcd : r_whc M np x wh = 1 := by unfold r_whc; rw [if_neg (fun g => c_31 (hbv ▸ g.2.2))]
        refine z_put (ci := 7) (C := R_MO) (T := T_MO) (N := 32) (v := .int (iI (1))) (ty := .int) (ce' := (mo_ce ad cs)) (r := va_up (M (0)) 0 (1)) hx hb hg in_MO ty_MO tk_MO nm_MO hown hK hP hD hS (0) (by decide) rfl rfl 0 (by decide) (hg _ (List.mem_append_right _ (List.mem_append_right _ (List.mem_append_right _ (List.mem_append_right _ (List.mem_append_right _ (List.mem_append_right _ (List.mem_append_right _ (List.mem_append_right _ (List.mem_append_right _ (List.mem_append_right _ (List.mem_append_right _ (List.mem_append_right _ (List.mem_append_right _ (List.mem_append_left _ (List.mem_of_getElem? (i := 3) rfl)))))))))))))))) (fun _ h9 => h9) rfl (by decide +kernel) rfl rfl (Nat.le_of_ble_eq_true rfl) (fun _ _ => rfl) rfl d_MO_where_52 (fun H locs hP hD hS => ?_)
        obtain ⟨M_5, eM_5⟩ : ∃ q_, q_ = mset M (0) (0) (1) := ⟨_, rfl⟩
        have hP : va_P D vwCl (mo_w ad cs M_5) H := by rw [eM_5]; exact hP
        have hD : va_D (va_A (mo_w ad cs M) s.heap.size) (mo_w ad cs M_5) := by rw [eM_5]; exact hD
        have g0 : M_5 0 0 = 1 := by rw [eM_5]; exact mset_same _ _ _ _
        refine lv_aload_n hx hb d_MO_where_55 rfl (lv_at hl 0 rfl) ?_
        refine z_get (ci := 7) (C := R_MO) (T := T_MO) (N := 32) (v := .int (iI (M_5 (0) 0))) hx hb hg in_MO hown hK hP (0) (by decide) rfl rfl 0 (by decide) (hg _ (List.mem_append_right _ (List.mem_append_right _ (List.mem_append_right _ (List.mem_append_right _ (List.mem_append_right _ (List.mem_append_right _ (List.mem_append_right _ (List.mem_append_right _ (List.mem_append_right _ (List.mem_append_right _ (List.mem_append_right _ (List.mem_append_right _ (List.mem_append_right _ (List.mem_append_left _ (List.mem_of_getElem? (i := 3) rfl)))))))))))))))) (fun _ h9 => h9) rfl d_MO_where_56 ?_
        refine z_if_le hx hb (tgt := 64) d_MO_where_59 (by decide) ⟨by omega, by omega⟩ (fun c_59 => ?_) (fun c_59 => ?_)
        · exact absurd c_59 (by omega)
        · refine z_iconst hx hb (z := 0) d_MO_where_62 ?_
          have hM : M_5 = mset M 0 0 (r_whc M np x wh) := by rw [eM_5, hcd]
          have eW : mo_w ad cs (M_5) = mo_w ad cs (mset M 0 0 (r_whc M np x wh)) := by rw [hM]
          have hP := Eq.mp (congrArg (fun q => va_P D vwCl q _) eW) hP
          have hD := Eq.mp (congrArg (va_D _) eW) hD
          exact W.iret (v := iI (0)) hx hb hr (fun t ht hW => ⟨⟨_, (), rfl, by rw [hcd, if_neg (by omega)], by rw [ht]; exact hP, va_K.moved hW.alike hK, hD⟩, hS.F ht⟩) hS.2.2 d_MO_where_63
set_option maxHeartbeats 4000000 in
set_option maxRecDepth 100000 in
/-- page -/
theorem r_page (l : Launch) {D : va_G} {ad : Nat → Nat} {cs : ClassId} {M : Nat → Nat → Int} (sz : Nat) (x wh : Int) (hx0 : zb x) (hw : zb wh) (hG : rG M) (hF : rF M) : Met l y_MO_page ws_MO_page ({ frames := 2, cells := 0, slots := 0, locals := 43 } : Room) (va_Pc [.ref (ad (0)), .int (iI (x)), .int (iI (wh))] (rw_B D vwCl (mo_tys cs) (mo_w ad cs M) sz)) (va_Qi (fun (r : Int32) (_ : Unit) => r = iI (if r_pgc M x wh = 0 then r_pgv M x.toNat wh else 0)) (rw_E D vwCl (mo_tys cs) (mo_w ad cs M) (mo_w ad cs (mset M 0 0 (r_pgc M x wh))) sz) (va_A (mo_w ad cs M) sz)) 0 0 (va_A (mo_w ad cs M) sz) := by
  refine Met.ofW (cc := b_MO_page) (maxL := 4) (ret := (some .int)) (by decide) rfl ?_
  intro p e s m args below meth c s₁ B hml hv
  obtain ⟨rfl, hsz, hP, hK, hD0⟩ := hv
  have hx := B.exec
  have hb := B.bytes
  have hr := B.returns
  have hts := atoms_spec (ws := ws_MO_page) B.pre
  have hg : ∀ w ∈ gt, w.before _ s = true := fun w h => hts w (List.mem_cons_of_mem _ h)
  have hown : s.vm.findClass R_MO = some m.cls := findClass_of_methodNamed B.named
  have hlocks := B.notSynchronized
  subst hsz
  have hD := hD0.self (sz := s.heap.size)
  have hA : ∀ q : Nat, s.heap.size ≤ q → va_A (mo_w ad cs M) s.heap.size q := fun q h => Or.inr h
  have hS : va_S (va_A (mo_w ad cs M) s.heap.size) s.heap s.heap [] := va_S.rf
  have hl := lv_entry ([.ref (ad (0)), .int (iI (x)), .int (iI (wh))]) (n := 4) (Nat.le_of_ble_eq_true rfl)
  rw [lg_entry_eq]
  generalize (lg_sl ([.ref (ad (0)), .int (iI (x)), .int (iI (wh))]) ++ List.replicate (4 - (lg_sl ([.ref (ad (0)), .int (iI (x)), .int (iI (wh))])).length) Slot.unset).toArray = ls at hl ⊢
  have hl : lv_has ls 4 [(0, .ref (ad (0))), (1, .int (iI (x))), (2, .int (iI (wh)))] := hl
  obtain ⟨hx1, hx2⟩ := hx0
  obtain ⟨hw1, hw2⟩ := hw
  have hg1 := hG.1
  have hg3 := hG.2.2.1
  have hg2 := hG.2.1
  refine lv_aload_n hx hb d_MO_page_0 rfl (lv_at hl 0 rfl) ?_
  refine lv_aload_n hx hb d_MO_page_1 rfl (lv_at hl 0 rfl) ?_
  refine lv_iload_n hx hb d_MO_page_2 rfl (lv_at hl 1 rfl) ?_
  refine ro_V (As := [.int (iI (x))]) (rest := [.ref (ad (0))]) (z := bz (r_isp M x) inferInstance) ⟨hx, hb, hml, hown, hg⟩ (r_isPage l x ⟨hx1, hx2⟩ hG) (cwV 1 hg (gt_V (List.mem_append_right _ (List.mem_append_right _ (List.mem_append_right _ (List.mem_append_right _ (List.mem_append_right _ (List.mem_append_right _ (List.mem_append_right _ (List.mem_append_right _ (List.mem_append_right _ (List.mem_append_right _ (List.mem_append_right _ (List.mem_append_right _ (List.mem_append_right _ (List.mem_append_right _ (List.mem_append_right _ (List.mem_append_right _ (List.mem_append_right _ (List.mem_of_getElem? (i := 18) rfl)))))))))))))))))) (List.mem_append_right _ (List.mem_append_right _ (List.mem_append_right _ (List.mem_append_right _ (List.mem_append_right _ (List.mem_append_right _ (List.mem_append_right _ (List.mem_append_right _ (List.mem_append_right _ (List.mem_append_right _ (List.mem_append_right _ (List.mem_append_right _ (List.mem_append_right _ (List.mem_append_right _ (List.mem_append_right _ (List.mem_append_right _ (List.mem_append_right _ (List.mem_of_getElem? (i := 19) rfl)))))))))))))))))) (List.mem_append_right _ (List.mem_append_left _ (List.mem_of_getElem? (i := 0) rfl))) (List.mem_append_right _ (List.mem_append_left _ (List.mem_of_getElem? (i := 9) rfl))) (List.mem_append_right _ (List.mem_append_right _ (List.mem_append_right _ (List.mem_append_right _ (List.mem_append_right _ (List.mem_append_right _ (List.mem_append_right _ (List.mem_append_right _ (List.mem_append_right _ (List.mem_append_right _ (List.mem_append_right _ (List.mem_append_right _ (List.mem_append_right _ (List.mem_append_right _ (List.mem_append_right _ (List.mem_append_right _ (List.mem_append_right _ (List.mem_of_getElem? (i := 20) rfl))))))))))))))))))) rfl rfl rfl (by decide +kernel) ⟨Nat.le_of_ble_eq_true rfl, Nat.le_of_ble_eq_true rfl⟩) hK hP (va_recv hK hP (ci := 7) (q0 := 0) rfl (wl_atE (by decide) rfl)) rfl hl.1 rfl (Nat.le_of_ble_eq_true rfl) d_MO_page_3 ⟨Nat.zero_le _, Nat.zero_le _⟩ ?_
  refine z_ifb_ne hx hb (tgt := 13) d_MO_page_6 (by decide) (fun c_6 => ?_) (fun c_6 => ?_)
  · refine lv_iload_n hx hb d_MO_page_13 rfl (lv_at hl 2 rfl) ?_
    refine z_iconst hx hb (z := 0) d_MO_page_14 ?_
    refine z_iconst hx hb (z := 2) d_MO_page_15 ?_
    refine ro_S (As := [.int (iI (wh)), .int (iI (0)), .int (iI (2))]) (rest := [.ref (ad (0))]) (z := bz (inn (wh) (0) (2)) inferInstance) ⟨hx, hb, hml, hown, hg⟩ (r_in l (wh) (0) (2) ⟨by omega, by omega⟩ ⟨by decide, by decide⟩ ⟨by decide, by decide⟩) (cwS 3 hg (gt_S (List.mem_append_right _ (List.mem_append_right _ (List.mem_append_right _ (List.mem_append_right _ (List.mem_append_right _ (List.mem_append_right _ (List.mem_append_right _ (List.mem_append_right _ (List.mem_append_right _ (List.mem_append_right _ (List.mem_append_right _ (List.mem_append_right _ (List.mem_append_right _ (List.mem_append_right _ (List.mem_append_right _ (List.mem_append_left _ (List.mem_of_getElem? (i := 3) rfl))))))))))))))))) (List.mem_append_right _ (List.mem_append_right _ (List.mem_append_right _ (List.mem_append_right _ (List.mem_append_right _ (List.mem_append_right _ (List.mem_append_right _ (List.mem_append_right _ (List.mem_append_right _ (List.mem_append_right _ (List.mem_append_right _ (List.mem_append_right _ (List.mem_append_right _ (List.mem_append_right _ (List.mem_append_right _ (List.mem_append_left _ (List.mem_of_getElem? (i := 4) rfl))))))))))))))))) (List.mem_append_right _ (List.mem_append_left _ (List.mem_of_getElem? (i := 9) rfl))) (List.mem_append_right _ (List.mem_append_right _ (List.mem_append_right _ (List.mem_append_right _ (List.mem_append_right _ (List.mem_append_right _ (List.mem_append_right _ (List.mem_append_right _ (List.mem_append_right _ (List.mem_append_right _ (List.mem_append_right _ (List.mem_append_right _ (List.mem_append_right _ (List.mem_append_right _ (List.mem_append_right _ (List.mem_append_left _ (List.mem_of_getElem? (i := 5) rfl)))))))))))))))))) rfl rfl rfl (by decide +kernel) ⟨Nat.le_of_ble_eq_true rfl, Nat.le_of_ble_eq_true rfl⟩) hK hP rfl hl.1 rfl (Nat.le_of_ble_eq_true rfl) d_MO_page_16 ⟨Nat.zero_le _, Nat.zero_le _⟩ ?_
    refine z_ifb_ne hx hb (tgt := 26) d_MO_page_19 (by decide) (fun c_19 => ?_) (fun c_19 => ?_)
    · refine z_iconst hx hb (z := 0) d_MO_page_26 ?_
      have hcd : r_pgc M x wh = 0 := by unfold r_pgc; rw [if_pos c_6, if_pos c_19]
      refine z_put (ci := 7) (C := R_MO) (T := T_MO) (N := 32) (v := .int (iI (0))) (ty := .int) (ce' := (mo_ce ad cs)) (r := va_up (M (0)) 0 (0)) hx hb hg in_MO ty_MO tk_MO nm_MO hown hK hP hD hS (0) (by decide) rfl rfl 0 (by decide) (hg _ (List.mem_append_right _ (List.mem_append_right _ (List.mem_append_right _ (List.mem_append_right _ (List.mem_append_right _ (List.mem_append_right _ (List.mem_append_right _ (List.mem_append_right _ (List.mem_append_right _ (List.mem_append_right _ (List.mem_append_right _ (List.mem_append_right _ (List.mem_append_right _ (List.mem_append_left _ (List.mem_of_getElem? (i := 3) rfl)))))))))))))))) (fun _ h9 => h9) rfl (by decide +kernel) rfl rfl (Nat.le_of_ble_eq_true rfl) (fun _ _ => rfl) rfl d_MO_page_27 (fun H locs hP hD hS => ?_)
      obtain ⟨M_1, eM_1⟩ : ∃ q_, q_ = mset M (0) (0) (0) := ⟨_, rfl⟩
      have hP : va_P D vwCl (mo_w ad cs M_1) H := by rw [eM_1]; exact hP
      have hD : va_D (va_A (mo_w ad cs M) s.heap.size) (mo_w ad cs M_1) := by rw [eM_1]; exact hD
      have g0 : M_1 0 0 = 0 := by rw [eM_1]; exact mset_same _ _ _ _
      refine lv_aload_n hx hb d_MO_page_30 rfl (lv_at hl 0 rfl) ?_
      refine z_get (ci := 7) (C := R_MO) (T := T_MO) (N := 32) (v := .int (iI (M_1 (0) 0))) hx hb hg in_MO hown hK hP (0) (by decide) rfl rfl 0 (by decide) (hg _ (List.mem_append_right _ (List.mem_append_right _ (List.mem_append_right _ (List.mem_append_right _ (List.mem_append_right _ (List.mem_append_right _ (List.mem_append_right _ (List.mem_append_right _ (List.mem_append_right _ (List.mem_append_right _ (List.mem_append_right _ (List.mem_append_right _ (List.mem_append_right _ (List.mem_append_left _ (List.mem_of_getElem? (i := 3) rfl)))))))))))))))) (fun _ h9 => h9) rfl d_MO_page_31 ?_
      refine z_if_le hx hb (tgt := 39) d_MO_page_34 (by decide) ⟨by omega, by omega⟩ (fun c_34 => ?_) (fun c_34 => ?_)
      · obtain ⟨g, eg⟩ : ∃ q_, q_ = x.toNat := ⟨_, rfl⟩
        have hxg : x = ((g : Nat) : Int) := by omega
        have hgF := hF (by omega) g (by omega)
        have k24 : M_1 24 = M 24 := by rw [eM_1, mset_ne (by omega)]
        have k18 : M_1 18 = M 18 := by rw [eM_1, mset_ne (by omega)]
        have k16 : M_1 16 = M 16 := by rw [eM_1, mset_ne (by omega)]
        obtain ⟨la, ela⟩ : ∃ q_, q_ = (M 24 (g + 1)).toNat - 1 := ⟨_, rfl⟩
        have hla : M 24 (g + 1) = ((la : Nat) : Int) + 1 := by omega
        refine lv_aload_n hx hb d_MO_page_39 rfl (lv_at hl 0 rfl) ?_
        refine z_get (ci := 7) (C := R_MO) (T := T_MO) (N := 32) (v := .ref (ad (24))) hx hb hg in_MO hown hK hP (0) (by decide) rfl rfl 31 (by decide) (hg _ (List.mem_append_right _ (List.mem_append_right _ (List.mem_append_right _ (List.mem_append_right _ (List.mem_append_right _ (List.mem_append_right _ (List.mem_append_right _ (List.mem_append_right _ (List.mem_append_right _ (List.mem_append_right _ (List.mem_append_right _ (List.mem_append_right _ (List.mem_append_right _ (List.mem_append_left _ (List.mem_of_getElem? (i := 34) rfl)))))))))))))))) (fun _ h9 => h9) rfl d_MO_page_40 ?_
        refine lv_iload_n hx hb d_MO_page_43 rfl (lv_at hl 1 rfl) ?_
        refine z_iconst hx hb (z := 1) d_MO_page_44 ?_
        refine z_iadd hx hb d_MO_page_45 (v := (x + 1)) rfl ?_
        refine z_iald hx hb hK hP (24) 0 (by decide) (fun _ => rfl) rfl (g + 1) (by omega) (by omega) (by decide) d_MO_page_46 ?_
        have hla2 : M_1 (24) (g + 1) = ((la + 1 : Nat) : Int) := by rw [k24]; omega
        refine lv_topi (fun y_ ey => ?_)
        have ey := ey.trans (congrArg iI hla2)
        subst ey
        refine z_iconst hx hb (z := 1) d_MO_page_47 ?_
        refine z_isub hx hb d_MO_page_48 (v := ((la : Nat) : Int)) (by omega) ?_
        refine lv_istore_n (lv' := [(3, .int (iI (((la : Nat) : Int)))), (0, .ref (ad (0))), (1, .int (iI (x))), (2, .int (iI (wh)))]) hx hb d_MO_page_49 rfl hl (by decide) rfl (fun ls hl => ?_)
        refine lv_iload_n hx hb d_MO_page_50 rfl (lv_at hl 3 rfl) ?_
        refine z_if_ne hx hb (tgt := 63) d_MO_page_51 (by decide) ⟨by omega, by omega⟩ (fun c_51 => ?_) (fun c_51 => ?_)
        · refine lv_iload_n hx hb d_MO_page_63 rfl (lv_at hl 3 rfl) ?_
          refine z_iconst hx hb (z := 1) d_MO_page_64 ?_
          refine z_icmp_ne hx hb (tgt := 81) d_MO_page_65 (by decide) ⟨by omega, by omega⟩ ⟨by decide, by decide⟩ (fun c_65 => ?_) (fun c_65 => ?_)
          · refine lv_aload_n hx hb d_MO_page_81 rfl (lv_at hl 1 rfl) ?_
            refine z_get (ci := 7) (C := R_MO) (T := T_MO) (N := 32) (v := .ref (ad (18))) hx hb hg in_MO hown hK hP (0) (by decide) rfl rfl 24 (by decide) (hg _ (List.mem_append_right _ (List.mem_append_right _ (List.mem_append_right _ (List.mem_append_right _ (List.mem_append_right _ (List.mem_append_right _ (List.mem_append_right _ (List.mem_append_right _ (List.mem_append_right _ (List.mem_append_right _ (List.mem_append_right _ (List.mem_append_right _ (List.mem_append_right _ (List.mem_append_left _ (List.mem_of_getElem? (i := 27) rfl)))))))))))))))) (fun _ h9 => h9) rfl d_MO_page_82 ?_
            refine lv_iload_n hx hb d_MO_page_85 rfl (lv_at hl 0 rfl) ?_
            refine z_iald hx hb hK hP (18) 0 (by decide) (fun _ => rfl) rfl (la) rfl (by omega) (by decide) d_MO_page_86 ?_
            refine lv_aload_n hx hb d_MO_page_87 rfl (lv_at hl 1 rfl) ?_
            refine z_get (ci := 7) (C := R_MO) (T := T_MO) (N := 32) (v := .ref (ad (16))) hx hb hg in_MO hown hK hP (0) (by decide) rfl rfl 22 (by decide) (hg _ (List.mem_append_right _ (List.mem_append_right _ (List.mem_append_right _ (List.mem_append_right _ (List.mem_append_right _ (List.mem_append_right _ (List.mem_append_right _ (List.mem_append_right _ (List.mem_append_right _ (List.mem_append_right _ (List.mem_append_right _ (List.mem_append_right _ (List.mem_append_right _ (List.mem_append_left _ (List.mem_of_getElem? (i := 25) rfl)))))))))))))))) (fun _ h9 => h9) rfl d_MO_page_88 ?_
            refine lv_iload_n hx hb d_MO_page_91 rfl (lv_at hl 0 rfl) ?_
            refine z_iald hx hb hK hP (16) 0 (by decide) (fun _ => rfl) rfl (la) rfl (by omega) (by decide) d_MO_page_92 ?_
            refine z_iadd hx hb d_MO_page_93 (v := (M_1 (18) (la) + M_1 (16) (la))) rfl ?_
            have hM : M_1 = mset M 0 0 (r_pgc M x wh) := by rw [eM_1, hcd]
            have eW : mo_w ad cs (M_1) = mo_w ad cs (mset M 0 0 (r_pgc M x wh)) := by rw [hM]
            have hP := Eq.mp (congrArg (fun q => va_P D vwCl q _) eW) hP
            have hD := Eq.mp (congrArg (va_D _) eW) hD
            exact W.iret (v := iI ((M_1 (18) (la) + M_1 (16) (la)))) hx hb hr (fun t ht hW => ⟨⟨_, (), rfl, congrArg iI (by rw [hcd, if_pos rfl, ← eg]; unfold r_pgv; rw [if_neg (by omega), if_neg (by omega), ← ela, k18, k16]), by rw [ht]; exact hP, va_K.moved hW.alike hK, hD⟩, hS.F ht⟩) hS.2.2 d_MO_page_94
          · refine lv_iload_n hx hb d_MO_page_68 rfl (lv_at hl 0 rfl) ?_
            refine z_iconst hx hb (z := 1) d_MO_page_69 ?_
            refine z_iadd hx hb d_MO_page_70 (v := ((la + 1 : Nat) : Int)) (by omega) ?_
            refine lv_aload_n hx hb d_MO_page_71 rfl (lv_at hl 1 rfl) ?_
            refine z_get (ci := 7) (C := R_MO) (T := T_MO) (N := 32) (v := .ref (ad (24))) hx hb hg in_MO hown hK hP (0) (by decide) rfl rfl 31 (by decide) (hg _ (List.mem_append_right _ (List.mem_append_right _ (List.mem_append_right _ (List.mem_append_right _ (List.mem_append_right _ (List.mem_append_right _ (List.mem_append_right _ (List.mem_append_right _ (List.mem_append_right _ (List.mem_append_right _ (List.mem_append_right _ (List.mem_append_right _ (List.mem_append_right _ (List.mem_append_left _ (List.mem_of_getElem? (i := 34) rfl)))))))))))))))) (fun _ h9 => h9) rfl d_MO_page_72 ?_
            refine lv_iload_n hx hb d_MO_page_75 rfl (lv_at hl 2 rfl) ?_
            refine z_iald hx hb hK hP (24) 0 (by decide) (fun _ => rfl) rfl (g) hxg (by omega) (by decide) d_MO_page_76 ?_
            refine z_isub hx hb d_MO_page_77 (v := (((la + 1 : Nat) : Int) - M_1 (24) (g))) rfl ?_
            refine lv_goto (tgt := 94) hx hb d_MO_page_78 (by decide) ?_
            have hM : M_1 = mset M 0 0 (r_pgc M x wh) := by rw [eM_1, hcd]
            have eW : mo_w ad cs (M_1) = mo_w ad cs (mset M 0 0 (r_pgc M x wh)) := by rw [hM]
            have hP := Eq.mp (congrArg (fun q => va_P D vwCl q _) eW) hP
            have hD := Eq.mp (congrArg (va_D _) eW) hD
            exact W.iret (v := iI ((((la + 1 : Nat) : Int) - M_1 (24) (g)))) hx hb hr (fun t ht hW => ⟨⟨_, (), rfl, congrArg iI (by rw [hcd, if_pos rfl, ← eg]; unfold r_pgv; rw [if_neg (by omega), if_pos (by omega), k24]; omega), by rw [ht]; exact hP, va_K.moved hW.alike hK, hD⟩, hS.F ht⟩) hS.2.2 d_MO_page_94
        · refine lv_aload_n hx hb d_MO_page_54 rfl (lv_at hl 1 rfl) ?_
          refine z_get (ci := 7) (C := R_MO) (T := T_MO) (N := 32) (v := .ref (ad (24))) hx hb hg in_MO hown hK hP (0) (by decide) rfl rfl 31 (by decide) (hg _ (List.mem_append_right _ (List.mem_append_right _ (List.mem_append_right _ (List.mem_append_right _ (List.mem_append_right _ (List.mem_append_right _ (List.mem_append_right _ (List.mem_append_right _ (List.mem_append_right _ (List.mem_append_right _ (List.mem_append_right _ (List.mem_append_right _ (List.mem_append_right _ (List.mem_append_left _ (List.mem_of_getElem? (i := 34) rfl)))))))))))))))) (fun _ h9 => h9) rfl d_MO_page_55 ?_
          refine lv_iload_n hx hb d_MO_page_58 rfl (lv_at hl 2 rfl) ?_
          refine z_iald hx hb hK hP (24) 0 (by decide) (fun _ => rfl) rfl (g) hxg (by omega) (by decide) d_MO_page_59 ?_
          refine lv_goto (tgt := 94) hx hb d_MO_page_60 (by decide) ?_
          have hM : M_1 = mset M 0 0 (r_pgc M x wh) := by rw [eM_1, hcd]
          have eW : mo_w ad cs (M_1) = mo_w ad cs (mset M 0 0 (r_pgc M x wh)) := by rw [hM]
          have hP := Eq.mp (congrArg (fun q => va_P D vwCl q _) eW) hP
          have hD := Eq.mp (congrArg (va_D _) eW) hD
          exact W.iret (v := iI (M_1 (24) (g))) hx hb hr (fun t ht hW => ⟨⟨_, (), rfl, congrArg iI (by rw [hcd, if_pos rfl, ← eg]; unfold r_pgv; rw [if_pos (by omega), k24]), by rw [ht]; exact hP, va_K.moved hW.alike hK, hD⟩, hS.F ht⟩) hS.2.2 d_MO_page_94
      · exact absurd c_34 (by omega)
    · refine z_iconst hx hb (z := 2) d_MO_page_22 ?_
      refine lv_goto (tgt := 27) hx hb d_MO_page_23 (by decide) ?_
      have hcd : r_pgc M x wh = 2 := by unfold r_pgc; rw [if_pos c_6, if_neg c_19]
      refine z_put (ci := 7) (C := R_MO) (T := T_MO) (N := 32) (v := .int (iI (2))) (ty := .int) (ce' := (mo_ce ad cs)) (r := va_up (M (0)) 0 (2)) hx hb hg in_MO ty_MO tk_MO nm_MO hown hK hP hD hS (0) (by decide) rfl rfl 0 (by decide) (hg _ (List.mem_append_right _ (List.mem_append_right _ (List.mem_append_right _ (List.mem_append_right _ (List.mem_append_right _ (List.mem_append_right _ (List.mem_append_right _ (List.mem_append_right _ (List.mem_append_right _ (List.mem_append_right _ (List.mem_append_right _ (List.mem_append_right _ (List.mem_append_right _ (List.mem_append_left _ (List.mem_of_getElem? (i := 3) rfl)))))))))))))))) (fun _ h9 => h9) rfl (by decide +kernel) rfl rfl (Nat.le_of_ble_eq_true rfl) (fun _ _ => rfl) rfl d_MO_page_27 (fun H locs hP hD hS => ?_)
      obtain ⟨M_2, eM_2⟩ : ∃ q_, q_ = mset M (0) (0) (2) := ⟨_, rfl⟩
      have hP : va_P D vwCl (mo_w ad cs M_2) H := by rw [eM_2]; exact hP
      have hD : va_D (va_A (mo_w ad cs M) s.heap.size) (mo_w ad cs M_2) := by rw [eM_2]; exact hD
      have g0 : M_2 0 0 = 2 := by rw [eM_2]; exact mset_same _ _ _ _
      refine lv_aload_n hx hb d_MO_page_30 rfl (lv_at hl 0 rfl) ?_
      refine z_get (ci := 7) (C := R_MO) (T := T_MO) (N := 32) (v := .int (iI (M_2 (0) 0))) hx hb hg in_MO hown hK hP (0) (by decide) rfl rfl 0 (by decide) (hg _ (List.mem_append_right _ (List.mem_append_right _ (List.mem_append_right _ (List.mem_append_right _ (List.mem_append_right _ (List.mem_append_right _ (List.mem_append_right _ (List.mem_append_right _ (List.mem_append_right _ (List.mem_append_right _ (List.mem_append_right _ (List.mem_append_right _ (List.mem_append_right _ (List.mem_append_left _ (List.mem_of_getElem? (i := 3) rfl)))))))))))))))) (fun _ h9 => h9) rfl d_MO_page_31 ?_
      refine z_if_le hx hb (tgt := 39) d_MO_page_34 (by decide) ⟨by omega, by omega⟩ (fun c_34 => ?_) (fun c_34 => ?_)
      · exact absurd c_34 (by omega)
      · refine z_iconst hx hb (z := 0) d_MO_page_37 ?_
        have hM : M_2 = mset M 0 0 (r_pgc M x wh) := by rw [eM_2, hcd]
        have eW : mo_w ad cs (M_2) = mo_w ad cs (mset M 0 0 (r_pgc M x wh)) := by rw [hM]
        have hP := Eq.mp (congrArg (fun q => va_P D vwCl q _) eW) hP
        have hD := Eq.mp (congrArg (va_D _) eW) hD
        exact W.iret (v := iI (0)) hx hb hr (fun t ht hW => ⟨⟨_, (), rfl, by rw [hcd, if_neg (by omega)], by rw [ht]; exact hP, va_K.moved hW.alike hK, hD⟩, hS.F ht⟩) hS.2.2 d_MO_page_38
  · refine z_iconst hx hb (z := 1) d_MO_page_9 ?_
    refine lv_goto (tgt := 27) hx hb d_MO_page_10 (by decide) ?_
    have hcd : r_pgc M x wh = 1 := by unfold r_pgc; rw [if_neg c_6]
    refine z_put (ci := 7) (C := R_MO) (T := T_MO) (N := 32) (v := .int (iI (1))) (ty := .int) (ce' := (mo_ce ad cs)) (r := va_up (M (0)) 0 (1)) hx hb hg in_MO ty_MO tk_MO nm_MO hown hK hP hD hS (0) (by decide) rfl rfl 0 (by decide) (hg _ (List.mem_append_right _ (List.mem_append_right _ (List.mem_append_right _ (List.mem_append_right _ (List.mem_append_right _ (List.mem_append_right _ (List.mem_append_right _ (List.mem_append_right _ (List.mem_append_right _ (List.mem_append_right _ (List.mem_append_right _ (List.mem_append_right _ (List.mem_append_right _ (List.mem_append_left _ (List.mem_of_getElem? (i := 3) rfl)))))))))))))))) (fun _ h9 => h9) rfl (by decide +kernel) rfl rfl (Nat.le_of_ble_eq_true rfl) (fun _ _ => rfl) rfl d_MO_page_27 (fun H locs hP hD hS => ?_)
    obtain ⟨M_3, eM_3⟩ : ∃ q_, q_ = mset M (0) (0) (1) := ⟨_, rfl⟩
    have hP : va_P D vwCl (mo_w ad cs M_3) H := by rw [eM_3]; exact hP
    have hD : va_D (va_A (mo_w ad cs M) s.heap.size) (mo_w ad cs M_3) := by rw [eM_3]; exact hD
    have g0 : M_3 0 0 = 1 := by rw [eM_3]; exact mset_same _ _ _ _
    refine lv_aload_n hx hb d_MO_page_30 rfl (lv_at hl 0 rfl) ?_
    refine z_get (ci := 7) (C := R_MO) (T := T_MO) (N := 32) (v := .int (iI (M_3 (0) 0))) hx hb hg in_MO hown hK hP (0) (by decide) rfl rfl 0 (by decide) (hg _ (List.mem_append_right _ (List.mem_append_right _ (List.mem_append_right _ (List.mem_append_right _ (List.mem_append_right _ (List.mem_append_right _ (List.mem_append_right _ (List.mem_append_right _ (List.mem_append_right _ (List.mem_append_right _ (List.mem_append_right _ (List.mem_append_right _ (List.mem_append_right _ (List.mem_append_left _ (List.mem_of_getElem? (i := 3) rfl)))))))))))))))) (fun _ h9 => h9) rfl d_MO_page_31 ?_
    refine z_if_le hx hb (tgt := 39) d_MO_page_34 (by decide) ⟨by omega, by omega⟩ (fun c_34 => ?_) (fun c_34 => ?_)
    · exact absurd c_34 (by omega)
    · refine z_iconst hx hb (z := 0) d_MO_page_37 ?_
      have hM : M_3 = mset M 0 0 (r_pgc M x wh) := by rw [eM_3, hcd]
      have eW : mo_w ad cs (M_3) = mo_w ad cs (mset M 0 0 (r_pgc M x wh)) := by rw [hM]
      have hP := Eq.mp (congrArg (fun q => va_P D vwCl q _) eW) hP
      have hD := Eq.mp (congrArg (va_D _) eW) hD
      exact W.iret (v := iI (0)) hx hb hr (fun t ht hW => ⟨⟨_, (), rfl, by rw [hcd, if_neg (by omega)], by rw [ht]; exact hP, va_K.moved hW.alike hK, hD⟩, hS.F ht⟩) hS.2.2 d_MO_page_38
set_option maxHeartbeats 4000000 in
set_option maxRecDepth 100000 in
theorem lr_hit1 {p : Program} {l : Launch} {e : Env} {s : State} {m : MethodId} {args : Array Value} {below : List Frame} {meth : Method} {c : Code} {H : Heap} {locs : List Loc} {Q : State → Prop} {D : va_G} {ad : Nat → Nat} {cs : ClassId} {M : Nat → Nat → Int} (hx : p.tables.exec = Jvm.exec) (hb : c.code = b_MO_hit) (hml : c.maxLocals = 7) (hg : ∀ w ∈ gt, w.before args s = true) (hown : s.vm.findClass R_MO = some m.cls) (hK : va_K D vwCl (mo_tys cs) s) (hP : va_P D vwCl (mo_w ad cs M) H) (g ee t : Nat) (x y : Int) (hy : zb y) (hg6 : g ≤ 639) (he6 : ee ≤ 630) (hee : M 24 (g + 1) = ((ee : Nat) : Int)) (hz : ∀ j, zb (M 18 j)) (kk : ∀ ls : Array Slot, lv_has ls 7 [(4, .int (iI (((t : Nat) : Int)))), (0, .ref (ad (0))), (2, .int (iI (x)))] → W p l e ({ frames := 2, cells := 0, slots := 0, locals := 43 } : Room) s m args below meth c H locs 0 0 Q (F0 m 68 ls [])) : ∀ (f k : Nat) (ls : Array Slot), k + f + 1 = ee → r_hl (M 18) y f k = t → lv_has ls 7 [(4, .int (iI (((k : Nat) : Int)))), (0, .ref (ad (0))), (1, .int (iI (((g : Nat) : Int)))), (2, .int (iI (x))), (3, .int (iI (y)))] → W p l e ({ frames := 2, cells := 0, slots := 0, locals := 43 } : Room) s m args below meth c H locs 0 0 Q (F0 m 34 ls []) := by
  obtain ⟨hy1, hy2⟩ := hy
  intro f
  induction f with
  | zero =>
    intro k ls hf he hl
    refine lv_iload hx hb d_MO_hit_34 (lv_at hl 0 rfl) ?_
    refine z_iconst hx hb (z := 1) d_MO_hit_36 ?_
    refine z_iadd hx hb d_MO_hit_37 (v := ((k + 1 : Nat) : Int)) (by omega) ?_
    refine lv_aload_n hx hb d_MO_hit_38 rfl (lv_at hl 1 rfl) ?_
    refine z_get (ci := 7) (C := R_MO) (T := T_MO) (N := 32) (v := .ref (ad (24))) hx hb hg in_MO hown hK hP (0) (by decide) rfl rfl 31 (by decide) (hg _ (List.mem_append_right _ (List.mem_append_right _ (List.mem_append_right _ (List.mem_append_right _ (List.mem_append_right _ (List.mem_append_right _ (List.mem_append_right _ (List.mem_append_right _ (List.mem_append_right _ (List.mem_append_right _ (List.mem_append_right _ (List.mem_append_right _ (List.mem_append_right _ (List.mem_append_left _ (List.mem_of_getElem? (i := 34) rfl)))))))))))))))) (fun _ h9 => h9) rfl d_MO_hit_39 ?_
    refine lv_iload_n hx hb d_MO_hit_42 rfl (lv_at hl 2 rfl) ?_
    refine z_iconst hx hb (z := 1) d_MO_hit_43 ?_
    refine z_iadd hx hb d_MO_hit_44 (v := ((g + 1 : Nat) : Int)) (by omega) ?_
    refine z_iald hx hb hK hP (24) 0 (by decide) (fun _ => rfl) rfl (g + 1) rfl (by omega) (by decide) d_MO_hit_45 ?_
    refine z_icmp_ge hx hb (tgt := 68) d_MO_hit_46 (by decide) ⟨by omega, by omega⟩ ⟨by omega, by omega⟩ (fun c_46 => ?_) (fun c_46 => ?_)
    · have he : k = t := he
      subst he
      exact kk ls (lv_sub hl [0, 1, 3] rfl)
    · exact absurd c_46 (by omega)
  | succ f ih =>
    intro k ls hf he hl
    refine lv_iload hx hb d_MO_hit_34 (lv_at hl 0 rfl) ?_
    refine z_iconst hx hb (z := 1) d_MO_hit_36 ?_
    refine z_iadd hx hb d_MO_hit_37 (v := ((k + 1 : Nat) : Int)) (by omega) ?_
    refine lv_aload_n hx hb d_MO_hit_38 rfl (lv_at hl 1 rfl) ?_
    refine z_get (ci := 7) (C := R_MO) (T := T_MO) (N := 32) (v := .ref (ad (24))) hx hb hg in_MO hown hK hP (0) (by decide) rfl rfl 31 (by decide) (hg _ (List.mem_append_right _ (List.mem_append_right _ (List.mem_append_right _ (List.mem_append_right _ (List.mem_append_right _ (List.mem_append_right _ (List.mem_append_right _ (List.mem_append_right _ (List.mem_append_right _ (List.mem_append_right _ (List.mem_append_right _ (List.mem_append_right _ (List.mem_append_right _ (List.mem_append_left _ (List.mem_of_getElem? (i := 34) rfl)))))))))))))))) (fun _ h9 => h9) rfl d_MO_hit_39 ?_
    refine lv_iload_n hx hb d_MO_hit_42 rfl (lv_at hl 2 rfl) ?_
    refine z_iconst hx hb (z := 1) d_MO_hit_43 ?_
    refine z_iadd hx hb d_MO_hit_44 (v := ((g + 1 : Nat) : Int)) (by omega) ?_
    refine z_iald hx hb hK hP (24) 0 (by decide) (fun _ => rfl) rfl (g + 1) rfl (by omega) (by decide) d_MO_hit_45 ?_
    refine z_icmp_ge hx hb (tgt := 68) d_MO_hit_46 (by decide) ⟨by omega, by omega⟩ ⟨by omega, by omega⟩ (fun c_46 => ?_) (fun c_46 => ?_)
    · exact absurd c_46 (by omega)
    · refine lv_aload_n hx hb d_MO_hit_49 rfl (lv_at hl 1 rfl) ?_
      refine z_get (ci := 7) (C := R_MO) (T := T_MO) (N := 32) (v := .ref (ad (18))) hx hb hg in_MO hown hK hP (0) (by decide) rfl rfl 24 (by decide) (hg _ (List.mem_append_right _ (List.mem_append_right _ (List.mem_append_right _ (List.mem_append_right _ (List.mem_append_right _ (List.mem_append_right _ (List.mem_append_right _ (List.mem_append_right _ (List.mem_append_right _ (List.mem_append_right _ (List.mem_append_right _ (List.mem_append_right _ (List.mem_append_right _ (List.mem_append_left _ (List.mem_of_getElem? (i := 27) rfl)))))))))))))))) (fun _ h9 => h9) rfl d_MO_hit_50 ?_
      refine lv_iload hx hb d_MO_hit_53 (lv_at hl 0 rfl) ?_
      refine z_iconst hx hb (z := 1) d_MO_hit_55 ?_
      refine z_iadd hx hb d_MO_hit_56 (v := ((k + 1 : Nat) : Int)) (by omega) ?_
      refine z_iald hx hb hK hP (18) 0 (by decide) (fun _ => rfl) rfl (k + 1) rfl (by omega) (by decide) d_MO_hit_57 ?_
      refine lv_iload_n hx hb d_MO_hit_58 rfl (lv_at hl 4 rfl) ?_
      refine z_icmp_gt hx hb (tgt := 68) d_MO_hit_59 (by decide) (hz _) ⟨by omega, by omega⟩ (fun c_59 => ?_) (fun c_59 => ?_)
      · have he : k = t := by rw [← he]; unfold r_hl; rw [if_neg (by omega)]
        subst he
        exact kk ls (lv_sub hl [0, 1, 3] rfl)
      · refine z_iinc (v := ((k + 1 : Nat) : Int)) (lv' := [(4, .int (iI (((k + 1 : Nat) : Int)))), (0, .ref (ad (0))), (1, .int (iI (((g : Nat) : Int)))), (2, .int (iI (x))), (3, .int (iI (y)))]) hx hb d_MO_hit_62 hl (k := 0) rfl (by omega) (by decide) rfl (fun ls hl => ?_)
        refine lv_goto (tgt := 34) hx hb d_MO_hit_65 (by decide) ?_
        exact ih (k + 1) ls (by omega) (by rw [← he]; conv => rhs; unfold r_hl; rw [if_pos (by omega)]) (lv_sub hl [0, 1, 2, 3, 4] rfl)
set_option maxHeartbeats 4000000 in
set_option maxRecDepth 100000 in
theorem lr_hit2 {p : Program} {l : Launch} {e : Env} {s : State} {m : MethodId} {args : Array Value} {below : List Frame} {meth : Method} {c : Code} {H : Heap} {locs : List Loc} {Q : State → Prop} {D : va_G} {ad : Nat → Nat} {cs : ClassId} {M : Nat → Nat → Int} (hx : p.tables.exec = Jvm.exec) (hb : c.code = b_MO_hit) (hml : c.maxLocals = 7) (hg : ∀ w ∈ gt, w.before args s = true) (hown : s.vm.findClass R_MO = some m.cls) (hK : va_K D vwCl (mo_tys cs) s) (hP : va_P D vwCl (mo_w ad cs M) H) (to t : Nat) (x : Int) (hx0 : zb x) (hto : to ≤ 600) (hz : ∀ j, zb (M 6 j)) (h22 : ∀ j, -1000000000 ≤ M 22 j ∧ M 22 j ≤ 1000000000) (h23 : ∀ j, 0 ≤ M 23 j ∧ M 23 j ≤ 1000000000) (kk : ∀ ls : Array Slot, lv_has ls 7 [(5, .int (iI (((t : Nat) : Int))))] → W p l e ({ frames := 2, cells := 0, slots := 0, locals := 43 } : Room) s m args below meth c H locs 0 0 Q (F0 m 132 ls [])) : ∀ (f k : Nat) (ls : Array Slot), k + f = to → r_hk (M 6) (M 22) (M 23) x f k = t → lv_has ls 7 [(5, .int (iI (((k : Nat) : Int)))), (6, .int (iI (((to : Nat) : Int)))), (0, .ref (ad (0))), (2, .int (iI (x)))] → W p l e ({ frames := 2, cells := 0, slots := 0, locals := 43 } : Room) s m args below meth c H locs 0 0 Q (F0 m 89 ls []) := by
  obtain ⟨hx1, hx2⟩ := hx0
  intro f
  induction f with
  | zero =>
    intro k ls hf he hl
    have b22 := h22 k
    have b23 := h23 k
    have bd : 0 ≤ (M 23 k).tdiv 2 ∧ (M 23 k).tdiv 2 ≤ M 23 k := by rw [Int.tdiv_eq_ediv_of_nonneg (by omega)]; omega
    refine lv_iload hx hb d_MO_hit_89 (lv_at hl 0 rfl) ?_
    refine lv_iload hx hb d_MO_hit_91 (lv_at hl 1 rfl) ?_
    refine z_icmp_ge hx hb (tgt := 132) d_MO_hit_93 (by decide) ⟨by omega, by omega⟩ ⟨by omega, by omega⟩ (fun c_93 => ?_) (fun c_93 => ?_)
    · have he : k = t := he
      subst he
      exact kk ls (lv_sub hl [0] rfl)
    · exact absurd c_93 (by omega)
  | succ f ih =>
    intro k ls hf he hl
    have b22 := h22 k
    have b23 := h23 k
    have bd : 0 ≤ (M 23 k).tdiv 2 ∧ (M 23 k).tdiv 2 ≤ M 23 k := by rw [Int.tdiv_eq_ediv_of_nonneg (by omega)]; omega
    refine lv_iload hx hb d_MO_hit_89 (lv_at hl 0 rfl) ?_
    refine lv_iload hx hb d_MO_hit_91 (lv_at hl 1 rfl) ?_
    refine z_icmp_ge hx hb (tgt := 132) d_MO_hit_93 (by decide) ⟨by omega, by omega⟩ ⟨by omega, by omega⟩ (fun c_93 => ?_) (fun c_93 => ?_)
    · exact absurd c_93 (by omega)
    · refine lv_aload_n hx hb d_MO_hit_96 rfl (lv_at hl 2 rfl) ?_
      refine lv_iload hx hb d_MO_hit_97 (lv_at hl 0 rfl) ?_
      refine ro_V (As := [.int (iI (((k : Nat) : Int)))]) (rest := []) (z := bz (p_endl (M 6) k) inferInstance) ⟨hx, hb, hml, hown, hg⟩ (r_isEnd l k (by omega) hz) (cwV 1 hg (gt_V (List.mem_append_right _ (List.mem_append_right _ (List.mem_append_right _ (List.mem_append_right _ (List.mem_append_right _ (List.mem_append_right _ (List.mem_append_right _ (List.mem_append_right _ (List.mem_append_right _ (List.mem_append_right _ (List.mem_append_right _ (List.mem_append_right _ (List.mem_append_right _ (List.mem_append_right _ (List.mem_append_right _ (List.mem_append_left _ (List.mem_of_getElem? (i := 37) rfl))))))))))))))))) (List.mem_append_right _ (List.mem_append_right _ (List.mem_append_right _ (List.mem_append_right _ (List.mem_append_right _ (List.mem_append_right _ (List.mem_append_right _ (List.mem_append_right _ (List.mem_append_right _ (List.mem_append_right _ (List.mem_append_right _ (List.mem_append_right _ (List.mem_append_right _ (List.mem_append_right _ (List.mem_append_right _ (List.mem_append_left _ (List.mem_of_getElem? (i := 38) rfl))))))))))))))))) (List.mem_append_left _ (List.mem_of_getElem? (i := 25) rfl)) (List.mem_append_right _ (List.mem_append_left _ (List.mem_of_getElem? (i := 9) rfl))) (List.mem_append_right _ (List.mem_append_right _ (List.mem_append_right _ (List.mem_append_right _ (List.mem_append_right _ (List.mem_append_right _ (List.mem_append_right _ (List.mem_append_right _ (List.mem_append_right _ (List.mem_append_right _ (List.mem_append_right _ (List.mem_append_right _ (List.mem_append_right _ (List.mem_append_right _ (List.mem_append_right _ (List.mem_append_left _ (List.mem_of_getElem? (i := 39) rfl)))))))))))))))))) rfl rfl rfl (by decide +kernel) ⟨Nat.le_of_ble_eq_true rfl, Nat.le_of_ble_eq_true rfl⟩) hK hP (va_recv hK hP (ci := 7) (q0 := 0) rfl (wl_atE (by decide) rfl)) rfl hl.1 rfl (Nat.le_of_ble_eq_true rfl) d_MO_hit_99 ⟨Nat.zero_le _, Nat.zero_le _⟩ ?_
      refine z_ifb_ne hx hb (tgt := 132) d_MO_hit_102 (by decide) (fun c_102 => ?_) (fun c_102 => ?_)
      · have he : k = t := by rw [← he]; unfold r_hk; rw [if_neg (fun g9 => g9.1 c_102)]
        subst he
        exact kk ls (lv_sub hl [0] rfl)
      · refine lv_aload_n hx hb d_MO_hit_105 rfl (lv_at hl 2 rfl) ?_
        refine z_get (ci := 7) (C := R_MO) (T := T_MO) (N := 32) (v := .ref (ad (22))) hx hb hg in_MO hown hK hP (0) (by decide) rfl rfl 28 (by decide) (hg _ (List.mem_append_right _ (List.mem_append_right _ (List.mem_append_right _ (List.mem_append_right _ (List.mem_append_right _ (List.mem_append_right _ (List.mem_append_right _ (List.mem_append_right _ (List.mem_append_right _ (List.mem_append_right _ (List.mem_append_right _ (List.mem_append_right _ (List.mem_append_right _ (List.mem_append_left _ (List.mem_of_getElem? (i := 31) rfl)))))))))))))))) (fun _ h9 => h9) rfl d_MO_hit_106 ?_
        refine lv_iload hx hb d_MO_hit_109 (lv_at hl 0 rfl) ?_
        refine z_iald hx hb hK hP (22) 0 (by decide) (fun _ => rfl) rfl (k) rfl (by omega) (by decide) d_MO_hit_111 ?_
        refine lv_aload_n hx hb d_MO_hit_112 rfl (lv_at hl 2 rfl) ?_
        refine z_get (ci := 7) (C := R_MO) (T := T_MO) (N := 32) (v := .ref (ad (23))) hx hb hg in_MO hown hK hP (0) (by decide) rfl rfl 29 (by decide) (hg _ (List.mem_append_right _ (List.mem_append_right _ (List.mem_append_right _ (List.mem_append_right _ (List.mem_append_right _ (List.mem_append_right _ (List.mem_append_right _ (List.mem_append_right _ (List.mem_append_right _ (List.mem_append_right _ (List.mem_append_right _ (List.mem_append_right _ (List.mem_append_right _ (List.mem_append_left _ (List.mem_of_getElem? (i := 32) rfl)))))))))))))))) (fun _ h9 => h9) rfl d_MO_hit_113 ?_
        refine lv_iload hx hb d_MO_hit_116 (lv_at hl 0 rfl) ?_
        refine z_iald hx hb hK hP (23) 0 (by decide) (fun _ => rfl) rfl (k) rfl (by omega) (by decide) d_MO_hit_118 ?_
        refine z_iconst hx hb (z := 2) d_MO_hit_119 ?_
        refine z_idiv hx hb d_MO_hit_120 ⟨by omega, by omega⟩ ⟨by decide, by decide⟩ (by omega) (v := ((M (23) (k)).tdiv (2))) rfl ?_
        refine z_iadd hx hb d_MO_hit_121 (v := (M (22) (k) + ((M (23) (k)).tdiv (2)))) rfl ?_
        refine lv_iload_n hx hb d_MO_hit_122 rfl (lv_at hl 3 rfl) ?_
        refine z_icmp_gt hx hb (tgt := 132) d_MO_hit_123 (by decide) ⟨by omega, by omega⟩ ⟨by omega, by omega⟩ (fun c_123 => ?_) (fun c_123 => ?_)
        · have he : k = t := by rw [← he]; unfold r_hk; rw [if_neg (fun g9 => by have := g9.2; omega)]
          subst he
          exact kk ls (lv_sub hl [0] rfl)
        · refine z_iinc (v := ((k + 1 : Nat) : Int)) (lv' := [(5, .int (iI (((k + 1 : Nat) : Int)))), (6, .int (iI (((to : Nat) : Int)))), (0, .ref (ad (0))), (2, .int (iI (x)))]) hx hb d_MO_hit_126 hl (k := 0) rfl (by omega) (by decide) rfl (fun ls hl => ?_)
          refine lv_goto (tgt := 89) hx hb d_MO_hit_129 (by decide) ?_
          exact ih (k + 1) ls (by omega) (by rw [← he]; conv => rhs; unfold r_hk; rw [if_pos ⟨c_102, by omega⟩]) (lv_sub hl [0, 1, 2, 3] rfl)
set_option maxHeartbeats 4000000 in
set_option maxRecDepth 100000 in
/-- hit -/
theorem r_hitc (l : Launch) {D : va_G} {ad : Nat → Nat} {cs : ClassId} {M : Nat → Nat → Int} (sz : Nat) (gz x y : Int) (hg0 : zb gz) (hx0 : zb x) (hy0 : zb y) (hG : rG M) (hF : rF M) (hL : rL M) (hz6 : ∀ j, zb (M 6 j)) : Met l y_MO_hit ws_MO_hit ({ frames := 2, cells := 0, slots := 0, locals := 43 } : Room) (va_Pc [.ref (ad (0)), .int (iI (gz)), .int (iI (x)), .int (iI (y))] (rw_B D vwCl (mo_tys cs) (mo_w ad cs M) sz)) (va_Qi (fun (r : Int32) (_ : Unit) => r = iI (if r_htc M gz = 0 then ((r_hit M gz.toNat x y : Nat) : Int) else 0)) (rw_E D vwCl (mo_tys cs) (mo_w ad cs M) (mo_w ad cs (mset M 0 0 (r_htc M gz))) sz) (va_A (mo_w ad cs M) sz)) 0 0 (va_A (mo_w ad cs M) sz) := by
  refine Met.ofW (cc := b_MO_hit) (maxL := 7) (ret := (some .int)) (by decide) rfl ?_
  intro p e s m args below meth c s₁ B hml hv
  obtain ⟨rfl, hsz, hP, hK, hD0⟩ := hv
  have hx := B.exec
  have hb := B.bytes
  have hr := B.returns
  have hts := atoms_spec (ws := ws_MO_hit) B.pre
  have hg : ∀ w ∈ gt, w.before _ s = true := fun w h => hts w (List.mem_cons_of_mem _ h)
  have hown : s.vm.findClass R_MO = some m.cls := findClass_of_methodNamed B.named
  have hlocks := B.notSynchronized
  subst hsz
  have hD := hD0.self (sz := s.heap.size)
  have hA : ∀ q : Nat, s.heap.size ≤ q → va_A (mo_w ad cs M) s.heap.size q := fun q h => Or.inr h
  have hS : va_S (va_A (mo_w ad cs M) s.heap.size) s.heap s.heap [] := va_S.rf
  have hl := lv_entry ([.ref (ad (0)), .int (iI (gz)), .int (iI (x)), .int (iI (y))]) (n := 7) (Nat.le_of_ble_eq_true rfl)
  rw [lg_entry_eq]
  generalize (lg_sl ([.ref (ad (0)), .int (iI (gz)), .int (iI (x)), .int (iI (y))]) ++ List.replicate (7 - (lg_sl ([.ref (ad (0)), .int (iI (gz)), .int (iI (x)), .int (iI (y))])).length) Slot.unset).toArray = ls at hl ⊢
  have hl : lv_has ls 7 [(0, .ref (ad (0))), (1, .int (iI (gz))), (2, .int (iI (x))), (3, .int (iI (y)))] := hl
  have hg1 := hG.1
  have hg3 := hG.2.2.1
  have hg2 := hG.2.1
  refine lv_aload_n hx hb d_MO_hit_0 rfl (lv_at hl 0 rfl) ?_
  refine lv_aload_n hx hb d_MO_hit_1 rfl (lv_at hl 0 rfl) ?_
  refine lv_iload_n hx hb d_MO_hit_2 rfl (lv_at hl 1 rfl) ?_
  refine ro_V (As := [.int (iI (gz))]) (rest := [.ref (ad (0))]) (z := bz (r_isp M gz) inferInstance) ⟨hx, hb, hml, hown, hg⟩ (r_isPage l gz hg0 hG) (cwV 1 hg (gt_V (List.mem_append_right _ (List.mem_append_right _ (List.mem_append_right _ (List.mem_append_right _ (List.mem_append_right _ (List.mem_append_right _ (List.mem_append_right _ (List.mem_append_right _ (List.mem_append_right _ (List.mem_append_right _ (List.mem_append_right _ (List.mem_append_right _ (List.mem_append_right _ (List.mem_append_right _ (List.mem_append_right _ (List.mem_append_right _ (List.mem_append_right _ (List.mem_of_getElem? (i := 18) rfl)))))))))))))))))) (List.mem_append_right _ (List.mem_append_right _ (List.mem_append_right _ (List.mem_append_right _ (List.mem_append_right _ (List.mem_append_right _ (List.mem_append_right _ (List.mem_append_right _ (List.mem_append_right _ (List.mem_append_right _ (List.mem_append_right _ (List.mem_append_right _ (List.mem_append_right _ (List.mem_append_right _ (List.mem_append_right _ (List.mem_append_right _ (List.mem_append_right _ (List.mem_of_getElem? (i := 19) rfl)))))))))))))))))) (List.mem_append_right _ (List.mem_append_left _ (List.mem_of_getElem? (i := 0) rfl))) (List.mem_append_right _ (List.mem_append_left _ (List.mem_of_getElem? (i := 9) rfl))) (List.mem_append_right _ (List.mem_append_right _ (List.mem_append_right _ (List.mem_append_right _ (List.mem_append_right _ (List.mem_append_right _ (List.mem_append_right _ (List.mem_append_right _ (List.mem_append_right _ (List.mem_append_right _ (List.mem_append_right _ (List.mem_append_right _ (List.mem_append_right _ (List.mem_append_right _ (List.mem_append_right _ (List.mem_append_right _ (List.mem_append_right _ (List.mem_of_getElem? (i := 20) rfl))))))))))))))))))) rfl rfl rfl (by decide +kernel) ⟨Nat.le_of_ble_eq_true rfl, Nat.le_of_ble_eq_true rfl⟩) hK hP (va_recv hK hP (ci := 7) (q0 := 0) rfl (wl_atE (by decide) rfl)) rfl hl.1 rfl (Nat.le_of_ble_eq_true rfl) d_MO_hit_3 ⟨Nat.zero_le _, Nat.zero_le _⟩ ?_
  refine z_ifb_eq hx hb (tgt := 13) d_MO_hit_6 (by decide) (fun c_6 => ?_) (fun c_6 => ?_)
  · refine z_iconst hx hb (z := 1) d_MO_hit_13 ?_
    have hcd : r_htc M gz = 1 := by unfold r_htc; rw [if_neg c_6]
    refine z_put (ci := 7) (C := R_MO) (T := T_MO) (N := 32) (v := .int (iI (1))) (ty := .int) (ce' := (mo_ce ad cs)) (r := va_up (M (0)) 0 (1)) hx hb hg in_MO ty_MO tk_MO nm_MO hown hK hP hD hS (0) (by decide) rfl rfl 0 (by decide) (hg _ (List.mem_append_right _ (List.mem_append_right _ (List.mem_append_right _ (List.mem_append_right _ (List.mem_append_right _ (List.mem_append_right _ (List.mem_append_right _ (List.mem_append_right _ (List.mem_append_right _ (List.mem_append_right _ (List.mem_append_right _ (List.mem_append_right _ (List.mem_append_right _ (List.mem_append_left _ (List.mem_of_getElem? (i := 3) rfl)))))))))))))))) (fun _ h9 => h9) rfl (by decide +kernel) rfl rfl (Nat.le_of_ble_eq_true rfl) (fun _ _ => rfl) rfl d_MO_hit_14 (fun H locs hP hD hS => ?_)
    obtain ⟨M_1, eM_1⟩ : ∃ q_, q_ = mset M (0) (0) (1) := ⟨_, rfl⟩
    have hP : va_P D vwCl (mo_w ad cs M_1) H := by rw [eM_1]; exact hP
    have hD : va_D (va_A (mo_w ad cs M) s.heap.size) (mo_w ad cs M_1) := by rw [eM_1]; exact hD
    have g0 : M_1 0 0 = 1 := by rw [eM_1]; exact mset_same _ _ _ _
    refine lv_aload_n hx hb d_MO_hit_17 rfl (lv_at hl 0 rfl) ?_
    refine z_get (ci := 7) (C := R_MO) (T := T_MO) (N := 32) (v := .int (iI (M_1 (0) 0))) hx hb hg in_MO hown hK hP (0) (by decide) rfl rfl 0 (by decide) (hg _ (List.mem_append_right _ (List.mem_append_right _ (List.mem_append_right _ (List.mem_append_right _ (List.mem_append_right _ (List.mem_append_right _ (List.mem_append_right _ (List.mem_append_right _ (List.mem_append_right _ (List.mem_append_right _ (List.mem_append_right _ (List.mem_append_right _ (List.mem_append_right _ (List.mem_append_left _ (List.mem_of_getElem? (i := 3) rfl)))))))))))))))) (fun _ h9 => h9) rfl d_MO_hit_18 ?_
    refine z_if_le hx hb (tgt := 26) d_MO_hit_21 (by decide) ⟨by omega, by omega⟩ (fun c_21 => ?_) (fun c_21 => ?_)
    · exact absurd c_21 (by omega)
    · refine z_iconst hx hb (z := 0) d_MO_hit_24 ?_
      have hM : M_1 = mset M 0 0 (r_htc M gz) := by rw [eM_1, hcd]
      have eW : mo_w ad cs (M_1) = mo_w ad cs (mset M 0 0 (r_htc M gz)) := by rw [hM]
      have hP := Eq.mp (congrArg (fun q => va_P D vwCl q _) eW) hP
      have hD := Eq.mp (congrArg (va_D _) eW) hD
      exact W.iret (v := iI (0)) hx hb hr (fun t ht hW => ⟨⟨_, (), rfl, by rw [hcd, if_neg (by omega)], by rw [ht]; exact hP, va_K.moved hW.alike hK, hD⟩, hS.F ht⟩) hS.2.2 d_MO_hit_25
  · refine z_iconst hx hb (z := 0) d_MO_hit_9 ?_
    refine lv_goto (tgt := 14) hx hb d_MO_hit_10 (by decide) ?_
    have hcd : r_htc M gz = 0 := by unfold r_htc; rw [if_pos c_6]
    refine z_put (ci := 7) (C := R_MO) (T := T_MO) (N := 32) (v := .int (iI (0))) (ty := .int) (ce' := (mo_ce ad cs)) (r := va_up (M (0)) 0 (0)) hx hb hg in_MO ty_MO tk_MO nm_MO hown hK hP hD hS (0) (by decide) rfl rfl 0 (by decide) (hg _ (List.mem_append_right _ (List.mem_append_right _ (List.mem_append_right _ (List.mem_append_right _ (List.mem_append_right _ (List.mem_append_right _ (List.mem_append_right _ (List.mem_append_right _ (List.mem_append_right _ (List.mem_append_right _ (List.mem_append_right _ (List.mem_append_right _ (List.mem_append_right _ (List.mem_append_left _ (List.mem_of_getElem? (i := 3) rfl)))))))))))))))) (fun _ h9 => h9) rfl (by decide +kernel) rfl rfl (Nat.le_of_ble_eq_true rfl) (fun _ _ => rfl) rfl d_MO_hit_14 (fun H locs hP hD hS => ?_)
    obtain ⟨M_2, eM_2⟩ : ∃ q_, q_ = mset M (0) (0) (0) := ⟨_, rfl⟩
    have hP : va_P D vwCl (mo_w ad cs M_2) H := by rw [eM_2]; exact hP
    have hD : va_D (va_A (mo_w ad cs M) s.heap.size) (mo_w ad cs M_2) := by rw [eM_2]; exact hD
    have g0 : M_2 0 0 = 0 := by rw [eM_2]; exact mset_same _ _ _ _
    refine lv_aload_n hx hb d_MO_hit_17 rfl (lv_at hl 0 rfl) ?_
    refine z_get (ci := 7) (C := R_MO) (T := T_MO) (N := 32) (v := .int (iI (M_2 (0) 0))) hx hb hg in_MO hown hK hP (0) (by decide) rfl rfl 0 (by decide) (hg _ (List.mem_append_right _ (List.mem_append_right _ (List.mem_append_right _ (List.mem_append_right _ (List.mem_append_right _ (List.mem_append_right _ (List.mem_append_right _ (List.mem_append_right _ (List.mem_append_right _ (List.mem_append_right _ (List.mem_append_right _ (List.mem_append_right _ (List.mem_append_right _ (List.mem_append_left _ (List.mem_of_getElem? (i := 3) rfl)))))))))))))))) (fun _ h9 => h9) rfl d_MO_hit_18 ?_
    refine z_if_le hx hb (tgt := 26) d_MO_hit_21 (by decide) ⟨by omega, by omega⟩ (fun c_21 => ?_) (fun c_21 => ?_)
    · obtain ⟨g, eg⟩ : ∃ q_, q_ = gz.toNat := ⟨_, rfl⟩
      have hxg : gz = ((g : Nat) : Int) := by omega
      have hgF := hF (by omega) g (by omega)
      have k24 : M_2 24 = M 24 := by rw [eM_2, mset_ne (by omega)]
      have k18 : M_2 18 = M 18 := by rw [eM_2, mset_ne (by omega)]
      have k12 : M_2 12 = M 12 := by rw [eM_2, mset_ne (by omega)]
      have k13 : M_2 13 = M 13 := by rw [eM_2, mset_ne (by omega)]
      have k6 : M_2 6 = M 6 := by rw [eM_2, mset_ne (by omega)]
      have k22 : M_2 22 = M 22 := by rw [eM_2, mset_ne (by omega)]
      have k23 : M_2 23 = M 23 := by rw [eM_2, mset_ne (by omega)]
      obtain ⟨aa, eaa⟩ : ∃ q_, q_ = (M 24 g).toNat := ⟨_, rfl⟩
      obtain ⟨ee, eee⟩ : ∃ q_, q_ = (M 24 (g + 1)).toNat := ⟨_, rfl⟩
      have haa : M 24 g = ((aa : Nat) : Int) := by omega
      have hee : M 24 (g + 1) = ((ee : Nat) : Int) := by omega
      have hlb := r_hl_b (M 18) y (ee - 1 - aa) aa
      obtain ⟨t, et⟩ : ∃ q_, q_ = r_hl (M 18) y (ee - 1 - aa) aa := ⟨_, rfl⟩
      rw [← et] at hlb
      have hfk := rL_f hL t
      have hkb := r_hk_b (M 6) (M 22) (M 23) x (rk M t) (rf M t)
      obtain ⟨rr, err⟩ : ∃ q_, q_ = r_hk (M 6) (M 22) (M 23) x (rk M t) (rf M t) := ⟨_, rfl⟩
      rw [← err] at hkb
      have hln : r_hln M g y = t := by rw [et, eee, eaa]; rfl
      have hht : r_hit M g x y = rr := by unfold r_hit; rw [hln, err]
      refine lv_aload_n hx hb d_MO_hit_26 rfl (lv_at hl 0 rfl) ?_
      refine z_get (ci := 7) (C := R_MO) (T := T_MO) (N := 32) (v := .ref (ad (24))) hx hb hg in_MO hown hK hP (0) (by decide) rfl rfl 31 (by decide) (hg _ (List.mem_append_right _ (List.mem_append_right _ (List.mem_append_right _ (List.mem_append_right _ (List.mem_append_right _ (List.mem_append_right _ (List.mem_append_right _ (List.mem_append_right _ (List.mem_append_right _ (List.mem_append_right _ (List.mem_append_right _ (List.mem_append_right _ (List.mem_append_right _ (List.mem_append_left _ (List.mem_of_getElem? (i := 34) rfl)))))))))))))))) (fun _ h9 => h9) rfl d_MO_hit_27 ?_
      refine lv_iload_n hx hb d_MO_hit_30 rfl (lv_at hl 1 rfl) ?_
      refine z_iald hx hb hK hP (24) 0 (by decide) (fun _ => rfl) rfl (g) hxg (by omega) (by decide) d_MO_hit_31 ?_
      have ha2 : M_2 (24) (g) = ((aa : Nat) : Int) := by rw [k24]; exact haa
      refine lv_topi (fun y_ ey => ?_)
      have ey := ey.trans (congrArg iI ha2)
      subst ey
      refine lv_istore (lv' := [(4, .int (iI (((aa : Nat) : Int)))), (0, .ref (ad (0))), (1, .int (iI (gz))), (2, .int (iI (x))), (3, .int (iI (y)))]) hx hb d_MO_hit_32 hl (by decide) rfl (fun ls hl => ?_)
      rw [hxg] at hl
      refine lr_hit1 hx hb hml hg hown hK hP g ee t x y hy0 (by omega) (by omega) (by rw [k24]; exact hee) (by rw [k18]; exact fun j => (hG.2.2.2 j).2.2.2.1) (fun ls hl => ?_) (ee - 1 - aa) aa ls (by omega) (by rw [k18]; exact et.symm) (lv_sub hl [0, 1, 2, 3, 4] rfl)
      refine lv_aload_n hx hb d_MO_hit_68 rfl (lv_at hl 1 rfl) ?_
      refine z_get (ci := 7) (C := R_MO) (T := T_MO) (N := 32) (v := .ref (ad (12))) hx hb hg in_MO hown hK hP (0) (by decide) rfl rfl 18 (by decide) (hg _ (List.mem_append_right _ (List.mem_append_right _ (List.mem_append_right _ (List.mem_append_right _ (List.mem_append_right _ (List.mem_append_right _ (List.mem_append_right _ (List.mem_append_right _ (List.mem_append_right _ (List.mem_append_right _ (List.mem_append_right _ (List.mem_append_right _ (List.mem_append_right _ (List.mem_append_left _ (List.mem_of_getElem? (i := 21) rfl)))))))))))))))) (fun _ h9 => h9) rfl d_MO_hit_69 ?_
      refine lv_iload hx hb d_MO_hit_72 (lv_at hl 0 rfl) ?_
      refine z_iald hx hb hK hP (12) 0 (by decide) (fun _ => rfl) rfl (t) rfl (by omega) (by decide) d_MO_hit_74 ?_
      have hf2 : M_2 (12) (t) = ((rf M t : Nat) : Int) := by rw [k12]; exact hfk.1
      refine lv_topi (fun y_ ey => ?_)
      have ey := ey.trans (congrArg iI hf2)
      subst ey
      refine lv_istore (lv' := [(5, .int (iI (((rf M t : Nat) : Int)))), (4, .int (iI (((t : Nat) : Int)))), (0, .ref (ad (0))), (2, .int (iI (x)))]) hx hb d_MO_hit_75 hl (by decide) rfl (fun ls hl => ?_)
      refine lv_iload hx hb d_MO_hit_77 (lv_at hl 0 rfl) ?_
      refine lv_aload_n hx hb d_MO_hit_79 rfl (lv_at hl 2 rfl) ?_
      refine z_get (ci := 7) (C := R_MO) (T := T_MO) (N := 32) (v := .ref (ad (13))) hx hb hg in_MO hown hK hP (0) (by decide) rfl rfl 19 (by decide) (hg _ (List.mem_append_right _ (List.mem_append_right _ (List.mem_append_right _ (List.mem_append_right _ (List.mem_append_right _ (List.mem_append_right _ (List.mem_append_right _ (List.mem_append_right _ (List.mem_append_right _ (List.mem_append_right _ (List.mem_append_right _ (List.mem_append_right _ (List.mem_append_right _ (List.mem_append_left _ (List.mem_of_getElem? (i := 22) rfl)))))))))))))))) (fun _ h9 => h9) rfl d_MO_hit_80 ?_
      refine lv_iload hx hb d_MO_hit_83 (lv_at hl 1 rfl) ?_
      refine z_iald hx hb hK hP (13) 0 (by decide) (fun _ => rfl) rfl (t) rfl (by omega) (by decide) d_MO_hit_85 ?_
      have hk2 : M_2 (13) (t) = ((rk M t : Nat) : Int) := by rw [k13]; exact hfk.2.1
      refine lv_topi (fun y_ ey => ?_)
      have ey := ey.trans (congrArg iI hk2)
      subst ey
      refine z_iadd hx hb d_MO_hit_86 (v := ((rf M t + rk M t : Nat) : Int)) (by omega) ?_
      refine lv_istore (lv' := [(6, .int (iI (((rf M t + rk M t : Nat) : Int)))), (5, .int (iI (((rf M t : Nat) : Int)))), (4, .int (iI (((t : Nat) : Int)))), (0, .ref (ad (0))), (2, .int (iI (x)))]) hx hb d_MO_hit_87 hl (by decide) rfl (fun ls hl => ?_)
      refine lr_hit2 hx hb hml hg hown hK hP (rf M t + rk M t) rr x hx0 (by omega) (by rw [k6]; exact hz6) (by rw [k22]; exact fun j => (hG.2.2.2 j).2.2.2.2.2.2.2.1) (by rw [k23]; exact fun j => (hG.2.2.2 j).2.2.2.2.2.2.2.2) (fun ls hl => ?_) (rk M t) (rf M t) ls rfl (by rw [k6, k22, k23]; exact err.symm) (lv_sub hl [1, 0, 3, 4] rfl)
      refine lv_iload hx hb d_MO_hit_132 (lv_at hl 0 rfl) ?_
      have hM : M_2 = mset M 0 0 (r_htc M gz) := by rw [eM_2, hcd]
      have eW : mo_w ad cs (M_2) = mo_w ad cs (mset M 0 0 (r_htc M gz)) := by rw [hM]
      have hP := Eq.mp (congrArg (fun q => va_P D vwCl q _) eW) hP
      have hD := Eq.mp (congrArg (va_D _) eW) hD
      exact W.iret (v := iI (((rr : Nat) : Int))) hx hb hr (fun t ht hW => ⟨⟨_, (), rfl, by rw [hcd, if_pos rfl, ← eg, hht], by rw [ht]; exact hP, va_K.moved hW.alike hK, hD⟩, hS.F ht⟩) hS.2.2 d_MO_hit_134
    · exact absurd c_21 (by omega)
