set_option maxHeartbeats 4000000 in
set_option maxRecDepth 100000 in
/-- Pages.bottomOf -/
theorem c_bottomOf (l : Launch) {D : va_G} {ad : Nat → Nat} {cs : pg_C} {rp : Option Nat} {M : Nat → Nat → Int} (w : Nat) (hw : w < 630) : Met l y_PG_bottomOf ws_PG_bottomOf ({ frames := 0, cells := 0, slots := 0, locals := 0 } : Room) (va_Pc [.ref (ad (5)), .int (iI (((w : Nat) : Int)))] (ro_B D vwCl (pg_tys cs) (pg_w ad cs rp M))) (vp_Si (fun r => r = iI (M 20 w + M 18 w))) 0 0 (fun _ => False) := by
  refine Met.ofW (cc := b_PG_bottomOf) (maxL := 2) (ret := (some .int)) (by decide) rfl ?_
  intro p e s m args below meth c s₁ B hml hv
  obtain ⟨rfl, hP, hK⟩ := hv
  have hx := B.exec
  have hb := B.bytes
  have hr := B.returns
  have hts := atoms_spec (ws := ws_PG_bottomOf) B.pre
  have hg : ∀ w ∈ gt, w.before _ s = true := fun w h => hts w (List.mem_cons_of_mem _ h)
  have hown : s.vm.findClass R_PG = some m.cls := findClass_of_methodNamed B.named
  have hlocks := B.notSynchronized
  have hl := lv_entry ([.ref (ad (5)), .int (iI (((w : Nat) : Int)))]) (n := 2) (Nat.le_of_ble_eq_true rfl)
  rw [lg_entry_eq]
  generalize (lg_sl ([.ref (ad (5)), .int (iI (((w : Nat) : Int)))]) ++ List.replicate (2 - (lg_sl ([.ref (ad (5)), .int (iI (((w : Nat) : Int)))])).length) Slot.unset).toArray = ls at hl ⊢
  have hl : lv_has ls 2 [(0, .ref (ad (5))), (1, .int (iI (((w : Nat) : Int))))] := hl
  refine lv_aload_n hx hb d_PG_bottomOf_0 rfl (lv_at hl 0 rfl) ?_
  refine z_get (ci := 5) (C := R_PG) (T := T_PG) (N := 5) (v := .ref (ad (3))) hx hb hg in_PG hown hK hP (5) (by decide) rfl rfl 4 (by decide) (hg _ (List.mem_append_right _ (List.mem_append_right _ (List.mem_append_right _ (List.mem_append_right _ (List.mem_append_left _ (List.mem_of_getElem? (i := 33) rfl))))))) (fun _ h9 => h9) rfl d_PG_bottomOf_1 ?_
  refine z_get (ci := 3) (C := R_LN) (T := T_LN) (N := 6) (v := .ref (ad (10))) hx hb hg in_LN hown hK hP (3) (by decide) rfl rfl 0 (by decide) (hg _ (List.mem_append_right _ (List.mem_append_right _ (List.mem_append_right _ (List.mem_append_right _ (List.mem_append_left _ (List.mem_of_getElem? (i := 4) rfl))))))) (fun _ h9 => h9) rfl d_PG_bottomOf_4 ?_
  refine z_bipush hx hb (z := 7) d_PG_bottomOf_7 (by decide) ?_
  refine z_aald hx hb hK hP (10) 1 (by decide) (fun _ => rfl) rfl rfl (7) rfl (by decide) (by decide) d_PG_bottomOf_9 ?_
  refine lv_iload_n hx hb d_PG_bottomOf_10 rfl (lv_at hl 1 rfl) ?_
  refine z_iald hx hb hK hP (20) 0 (by decide) (fun _ => rfl) rfl (w) rfl (by omega) (by decide) d_PG_bottomOf_11 ?_
  refine lv_aload_n hx hb d_PG_bottomOf_12 rfl (lv_at hl 0 rfl) ?_
  refine z_get (ci := 5) (C := R_PG) (T := T_PG) (N := 5) (v := .ref (ad (3))) hx hb hg in_PG hown hK hP (5) (by decide) rfl rfl 4 (by decide) (hg _ (List.mem_append_right _ (List.mem_append_right _ (List.mem_append_right _ (List.mem_append_right _ (List.mem_append_left _ (List.mem_of_getElem? (i := 33) rfl))))))) (fun _ h9 => h9) rfl d_PG_bottomOf_13 ?_
  refine z_get (ci := 3) (C := R_LN) (T := T_LN) (N := 6) (v := .ref (ad (10))) hx hb hg in_LN hown hK hP (3) (by decide) rfl rfl 0 (by decide) (hg _ (List.mem_append_right _ (List.mem_append_right _ (List.mem_append_right _ (List.mem_append_right _ (List.mem_append_left _ (List.mem_of_getElem? (i := 4) rfl))))))) (fun _ h9 => h9) rfl d_PG_bottomOf_16 ?_
  refine z_iconst hx hb (z := 5) d_PG_bottomOf_19 ?_
  refine z_aald hx hb hK hP (10) 1 (by decide) (fun _ => rfl) rfl rfl (5) rfl (by decide) (by decide) d_PG_bottomOf_20 ?_
  refine lv_iload_n hx hb d_PG_bottomOf_21 rfl (lv_at hl 1 rfl) ?_
  refine z_iald hx hb hK hP (18) 0 (by decide) (fun _ => rfl) rfl (w) rfl (by omega) (by decide) d_PG_bottomOf_22 ?_
  refine z_iadd hx hb d_PG_bottomOf_23 (v := (M (20) (w) + M (18) (w))) rfl ?_
  exact W.iret (v := iI ((M (20) (w) + M (18) (w)))) hx hb hr (fun t ht hW => ⟨_, rfl, rfl, ht⟩) (fun q h => by cases h) d_PG_bottomOf_24
set_option maxHeartbeats 4000000 in
set_option maxRecDepth 100000 in
/-- Pages.paragraphOf -/
theorem c_paragraphOf (l : Launch) {D : va_G} {ad : Nat → Nat} {cs : pg_C} {rp : Option Nat} {M : Nat → Nat → Int} (w q : Nat) (hw : w < 630) (hq : q < 30) (h13 : M 13 w = ((q : Nat) : Int)) : Met l y_PG_paragraphOf ws_PG_paragraphOf ({ frames := 0, cells := 0, slots := 0, locals := 0 } : Room) (va_Pc [.ref (ad (5)), .int (iI (((w : Nat) : Int)))] (ro_B D vwCl (pg_tys cs) (pg_w ad cs rp M))) (va_Sr (fun k => k = ad (29 + 4 * q)) (fun k => .ref k)) 0 0 (fun _ => False) := by
  refine Met.ofW (cc := b_PG_paragraphOf) (maxL := 2) (ret := (some (.object "PageLayout$Paragraph"))) (by decide) rfl ?_
  intro p e s m args below meth c s₁ B hml hv
  obtain ⟨rfl, hP, hK⟩ := hv
  have hx := B.exec
  have hb := B.bytes
  have hr := B.returns
  have hts := atoms_spec (ws := ws_PG_paragraphOf) B.pre
  have hg : ∀ w ∈ gt, w.before _ s = true := fun w h => hts w (List.mem_cons_of_mem _ h)
  have hown : s.vm.findClass R_PG = some m.cls := findClass_of_methodNamed B.named
  have hlocks := B.notSynchronized
  have hl := lv_entry ([.ref (ad (5)), .int (iI (((w : Nat) : Int)))]) (n := 2) (Nat.le_of_ble_eq_true rfl)
  rw [lg_entry_eq]
  generalize (lg_sl ([.ref (ad (5)), .int (iI (((w : Nat) : Int)))]) ++ List.replicate (2 - (lg_sl ([.ref (ad (5)), .int (iI (((w : Nat) : Int)))])).length) Slot.unset).toArray = ls at hl ⊢
  have hl : lv_has ls 2 [(0, .ref (ad (5))), (1, .int (iI (((w : Nat) : Int))))] := hl
  refine lv_aload_n hx hb d_PG_paragraphOf_0 rfl (lv_at hl 0 rfl) ?_
  refine z_get (ci := 5) (C := R_PG) (T := T_PG) (N := 5) (v := .ref (ad (1))) hx hb hg in_PG hown hK hP (5) (by decide) rfl rfl 2 (by decide) (hg _ (List.mem_append_right _ (List.mem_append_right _ (List.mem_append_right _ (List.mem_append_right _ (List.mem_append_left _ (List.mem_of_getElem? (i := 31) rfl))))))) (fun _ h9 => h9) rfl d_PG_paragraphOf_1 ?_
  refine z_get (ci := 1) (C := R_TX) (T := T_TX) (N := 6) (v := .ref (ad (6))) hx hb hg in_TX hown hK hP (1) (by decide) rfl rfl 0 (by decide) (hg _ (List.mem_append_right _ (List.mem_append_right _ (List.mem_append_left _ (List.mem_of_getElem? (i := 19) rfl))))) (fun _ h9 => h9) rfl d_PG_paragraphOf_4 ?_
  refine lv_aload_n hx hb d_PG_paragraphOf_7 rfl (lv_at hl 0 rfl) ?_
  refine z_get (ci := 5) (C := R_PG) (T := T_PG) (N := 5) (v := .ref (ad (3))) hx hb hg in_PG hown hK hP (5) (by decide) rfl rfl 4 (by decide) (hg _ (List.mem_append_right _ (List.mem_append_right _ (List.mem_append_right _ (List.mem_append_right _ (List.mem_append_left _ (List.mem_of_getElem? (i := 33) rfl))))))) (fun _ h9 => h9) rfl d_PG_paragraphOf_8 ?_
  refine z_get (ci := 3) (C := R_LN) (T := T_LN) (N := 6) (v := .ref (ad (10))) hx hb hg in_LN hown hK hP (3) (by decide) rfl rfl 0 (by decide) (hg _ (List.mem_append_right _ (List.mem_append_right _ (List.mem_append_right _ (List.mem_append_right _ (List.mem_append_left _ (List.mem_of_getElem? (i := 4) rfl))))))) (fun _ h9 => h9) rfl d_PG_paragraphOf_11 ?_
  refine z_iconst hx hb (z := 0) d_PG_paragraphOf_14 ?_
  refine z_aald hx hb hK hP (10) 1 (by decide) (fun _ => rfl) rfl rfl (0) rfl (by decide) (by decide) d_PG_paragraphOf_15 ?_
  refine lv_iload_n hx hb d_PG_paragraphOf_16 rfl (lv_at hl 1 rfl) ?_
  refine z_iald hx hb hK hP (13) 0 (by decide) (fun _ => rfl) rfl (w) rfl (by omega) (by decide) d_PG_paragraphOf_17 ?_
  refine z_aald hx hb hK hP (6) 2 (by decide) (fun _ => rfl) rfl rfl (q) h13 (by omega) (by decide) d_PG_paragraphOf_18 ?_
  exact W.aret (v := .ref (ad (29 + 4 * q))) hx hb hr (Or.inl ⟨_, rfl⟩) (Or.inr ⟨_, rfl⟩) (fun t ht hW => ⟨_, rfl, rfl, ht⟩) (fun q h => by cases h) d_PG_paragraphOf_19
set_option maxHeartbeats 4000000 in
set_option maxRecDepth 100000 in
/-- Pages.spaceAhead -/
theorem c_spaceAhead (l : Launch) {D : va_G} {ad : Nat → Nat} {cs : pg_C} {rp : Option Nat} {M : Nat → Nat → Int} (w q1 q2 : Nat) (hw1 : 1 ≤ w) (hw : w < 630) (hq1 : q1 < 30) (hq2 : q2 < 30) (h13q1 : M 13 (w - 1) = ((q1 : Nat) : Int)) (h13q2 : M 13 w = ((q2 : Nat) : Int)) (hz : ∀ j, zb (M 13 j)) : Met l y_PG_spaceAhead ws_PG_spaceAhead ({ frames := 1, cells := 0, slots := 0, locals := 21 } : Room) (va_Pc [.ref (ad (5)), .int (iI (((w : Nat) : Int)))] (ro_B D vwCl (pg_tys cs) (pg_w ad cs rp M))) (vp_Si (fun r => r = iI (if p_first (M 13) w then M (30 + 4 * q1) 4 + M (30 + 4 * q2) 3 else 0))) 0 0 (fun _ => False) := by
  refine Met.ofW (cc := b_PG_spaceAhead) (maxL := 2) (ret := (some .int)) (by decide) rfl ?_
  intro p e s m args below meth c s₁ B hml hv
  obtain ⟨rfl, hP, hK⟩ := hv
  have hx := B.exec
  have hb := B.bytes
  have hr := B.returns
  have hts := atoms_spec (ws := ws_PG_spaceAhead) B.pre
  have hg : ∀ w ∈ gt, w.before _ s = true := fun w h => hts w (List.mem_cons_of_mem _ h)
  have hown : s.vm.findClass R_PG = some m.cls := findClass_of_methodNamed B.named
  have hlocks := B.notSynchronized
  have hl := lv_entry ([.ref (ad (5)), .int (iI (((w : Nat) : Int)))]) (n := 2) (Nat.le_of_ble_eq_true rfl)
  rw [lg_entry_eq]
  generalize (lg_sl ([.ref (ad (5)), .int (iI (((w : Nat) : Int)))]) ++ List.replicate (2 - (lg_sl ([.ref (ad (5)), .int (iI (((w : Nat) : Int)))])).length) Slot.unset).toArray = ls at hl ⊢
  have hl : lv_has ls 2 [(0, .ref (ad (5))), (1, .int (iI (((w : Nat) : Int))))] := hl
  refine lv_aload_n hx hb d_PG_spaceAhead_0 rfl (lv_at hl 0 rfl) ?_
  refine z_get (ci := 5) (C := R_PG) (T := T_PG) (N := 5) (v := .ref (ad (3))) hx hb hg in_PG hown hK hP (5) (by decide) rfl rfl 4 (by decide) (hg _ (List.mem_append_right _ (List.mem_append_right _ (List.mem_append_right _ (List.mem_append_right _ (List.mem_append_left _ (List.mem_of_getElem? (i := 33) rfl))))))) (fun _ h9 => h9) rfl d_PG_spaceAhead_1 ?_
  refine lv_iload_n hx hb d_PG_spaceAhead_4 rfl (lv_at hl 1 rfl) ?_
  refine ro_V (As := [.int (iI (((w : Nat) : Int)))]) (rest := []) (z := bz (p_first (M 13) (w)) inferInstance) ⟨hx, hb, hml, hown, hg⟩ (c_isFirst l (w) (by omega) hz) (cwV 1 hg (gt_V (List.mem_append_right _ (List.mem_append_right _ (List.mem_append_right _ (List.mem_append_right _ (List.mem_append_right _ (List.mem_append_right _ (List.mem_append_right _ (List.mem_append_right _ (List.mem_append_left _ (List.mem_of_getElem? (i := 8) rfl)))))))))) (List.mem_append_right _ (List.mem_append_right _ (List.mem_append_right _ (List.mem_append_right _ (List.mem_append_right _ (List.mem_append_right _ (List.mem_append_right _ (List.mem_append_right _ (List.mem_append_left _ (List.mem_of_getElem? (i := 9) rfl)))))))))) (List.mem_append_right _ (List.mem_append_right _ (List.mem_append_right _ (List.mem_append_right _ (List.mem_append_right _ (List.mem_append_right _ (List.mem_append_right _ (List.mem_append_right _ (List.mem_append_left _ (List.mem_of_getElem? (i := 10) rfl)))))))))) (List.mem_append_right _ (List.mem_append_left _ (List.mem_of_getElem? (i := 6) rfl))) (List.mem_append_right _ (List.mem_append_right _ (List.mem_append_right _ (List.mem_append_right _ (List.mem_append_right _ (List.mem_append_right _ (List.mem_append_right _ (List.mem_append_right _ (List.mem_append_left _ (List.mem_of_getElem? (i := 11) rfl))))))))))) rfl rfl rfl (by decide +kernel) ⟨Nat.le_of_ble_eq_true rfl, Nat.le_of_ble_eq_true rfl⟩) hK hP (va_recv hK hP (ci := 3) (q0 := 3) rfl (wl_atE (by decide) rfl)) rfl hl.1 rfl (Nat.le_of_ble_eq_true rfl) d_PG_spaceAhead_5 ⟨Nat.zero_le _, Nat.zero_le _⟩ ?_
  refine z_ifb_ne hx hb (tgt := 13) d_PG_spaceAhead_8 (by decide) (fun c_8 => ?_) (fun c_8 => ?_)
  · refine lv_aload_n hx hb d_PG_spaceAhead_13 rfl (lv_at hl 0 rfl) ?_
    refine lv_iload_n hx hb d_PG_spaceAhead_14 rfl (lv_at hl 1 rfl) ?_
    refine z_iconst hx hb (z := 1) d_PG_spaceAhead_15 ?_
    refine z_isub hx hb d_PG_spaceAhead_16 (v := ((w - 1 : Nat) : Int)) (by omega) ?_
    refine ro_Vr (As := [.int (iI (((w - 1 : Nat) : Int)))]) (rest := []) (x := (ad (29 + 4 * q1))) ⟨hx, hb, hml, hown, hg⟩ (c_paragraphOf l (w - 1) q1 (by omega) hq1 h13q1) (cwV 1 hg (gt_V (List.mem_append_right _ (List.mem_append_right _ (List.mem_append_right _ (List.mem_append_right _ (List.mem_append_right _ (List.mem_append_right _ (List.mem_append_right _ (List.mem_append_right _ (List.mem_append_left _ (List.mem_of_getElem? (i := 12) rfl)))))))))) (List.mem_append_right _ (List.mem_append_right _ (List.mem_append_right _ (List.mem_append_right _ (List.mem_append_right _ (List.mem_append_right _ (List.mem_append_right _ (List.mem_append_right _ (List.mem_append_left _ (List.mem_of_getElem? (i := 13) rfl)))))))))) (List.mem_append_left _ (List.mem_of_getElem? (i := 16) rfl)) (List.mem_append_right _ (List.mem_append_left _ (List.mem_of_getElem? (i := 8) rfl))) (List.mem_append_right _ (List.mem_append_right _ (List.mem_append_right _ (List.mem_append_right _ (List.mem_append_right _ (List.mem_append_right _ (List.mem_append_right _ (List.mem_append_right _ (List.mem_append_left _ (List.mem_of_getElem? (i := 14) rfl))))))))))) rfl rfl rfl (by decide +kernel) ⟨Nat.le_of_ble_eq_true rfl, Nat.le_of_ble_eq_true rfl⟩) hK hP (va_recv hK hP (ci := 5) (q0 := 5) rfl (wl_atE (by decide) rfl)) rfl hl.1 rfl (Nat.le_of_ble_eq_true rfl) d_PG_spaceAhead_17 ⟨Nat.zero_le _, Nat.zero_le _⟩ ?_
    refine z_get (ci := 6) (C := R_PA) (T := T_PA) (N := 6) (v := .ref (ad (30 + 4 * q1))) hx hb hg in_PA hown hK hP (29 + 4 * q1) (by omega) (pg_par _ _ _ _ _) rfl 0 (by decide) (hg _ (List.mem_append_right _ (List.mem_append_right _ (List.mem_append_left _ (List.mem_of_getElem? (i := 0) rfl))))) (fun _ h9 => h9) rfl d_PG_spaceAhead_20 ?_
    refine z_iconst hx hb (z := 4) d_PG_spaceAhead_23 ?_
    refine z_iald hx hb hK hP (30 + 4 * q1) 0 (by omega) (fun r => pg_shp _ _ _ _ r) rfl (4) rfl (by decide) (by decide) d_PG_spaceAhead_24 ?_
    refine lv_aload_n hx hb d_PG_spaceAhead_25 rfl (lv_at hl 0 rfl) ?_
    refine lv_iload_n hx hb d_PG_spaceAhead_26 rfl (lv_at hl 1 rfl) ?_
    refine ro_Vr (As := [.int (iI (((w : Nat) : Int)))]) (rest := [.int (iI (M (30 + 4 * q1) (4)))]) (x := (ad (29 + 4 * q2))) ⟨hx, hb, hml, hown, hg⟩ (c_paragraphOf l (w) q2 (by omega) hq2 h13q2) (cwV 1 hg (gt_V (List.mem_append_right _ (List.mem_append_right _ (List.mem_append_right _ (List.mem_append_right _ (List.mem_append_right _ (List.mem_append_right _ (List.mem_append_right _ (List.mem_append_right _ (List.mem_append_left _ (List.mem_of_getElem? (i := 12) rfl)))))))))) (List.mem_append_right _ (List.mem_append_right _ (List.mem_append_right _ (List.mem_append_right _ (List.mem_append_right _ (List.mem_append_right _ (List.mem_append_right _ (List.mem_append_right _ (List.mem_append_left _ (List.mem_of_getElem? (i := 13) rfl)))))))))) (List.mem_append_left _ (List.mem_of_getElem? (i := 16) rfl)) (List.mem_append_right _ (List.mem_append_left _ (List.mem_of_getElem? (i := 8) rfl))) (List.mem_append_right _ (List.mem_append_right _ (List.mem_append_right _ (List.mem_append_right _ (List.mem_append_right _ (List.mem_append_right _ (List.mem_append_right _ (List.mem_append_right _ (List.mem_append_left _ (List.mem_of_getElem? (i := 14) rfl))))))))))) rfl rfl rfl (by decide +kernel) ⟨Nat.le_of_ble_eq_true rfl, Nat.le_of_ble_eq_true rfl⟩) hK hP (va_recv hK hP (ci := 5) (q0 := 5) rfl (wl_atE (by decide) rfl)) rfl hl.1 rfl (Nat.le_of_ble_eq_true rfl) d_PG_spaceAhead_27 ⟨Nat.zero_le _, Nat.zero_le _⟩ ?_
    refine z_get (ci := 6) (C := R_PA) (T := T_PA) (N := 6) (v := .ref (ad (30 + 4 * q2))) hx hb hg in_PA hown hK hP (29 + 4 * q2) (by omega) (pg_par _ _ _ _ _) rfl 0 (by decide) (hg _ (List.mem_append_right _ (List.mem_append_right _ (List.mem_append_left _ (List.mem_of_getElem? (i := 0) rfl))))) (fun _ h9 => h9) rfl d_PG_spaceAhead_30 ?_
    refine z_iconst hx hb (z := 3) d_PG_spaceAhead_33 ?_
    refine z_iald hx hb hK hP (30 + 4 * q2) 0 (by omega) (fun r => pg_shp _ _ _ _ r) rfl (3) rfl (by decide) (by decide) d_PG_spaceAhead_34 ?_
    refine z_iadd hx hb d_PG_spaceAhead_35 (v := (M (30 + 4 * q1) (4) + M (30 + 4 * q2) (3))) rfl ?_
    exact W.iret (v := iI ((M (30 + 4 * q1) (4) + M (30 + 4 * q2) (3)))) hx hb hr (fun t ht hW => ⟨_, rfl, by first | rw [if_pos c_8] | rw [if_neg c_8], ht⟩) (fun q h => by cases h) d_PG_spaceAhead_36
  · refine z_iconst hx hb (z := 0) d_PG_spaceAhead_11 ?_
    exact W.iret (v := iI (0)) hx hb hr (fun t ht hW => ⟨_, rfl, by first | rw [if_pos c_8] | rw [if_neg c_8], ht⟩) (fun q h => by cases h) d_PG_spaceAhead_12
set_option maxHeartbeats 4000000 in
set_option maxRecDepth 100000 in
/-- Pages.mustEndAhead -/
theorem c_mustEndAhead (l : Launch) {D : va_G} {ad : Nat → Nat} {cs : pg_C} {rp : Option Nat} {M : Nat → Nat → Int} (w q2 : Nat) (hw1 : 1 ≤ w) (hw : w < 630) (hq2 : q2 < 30) (h13q2 : M 13 w = ((q2 : Nat) : Int)) (hz : ∀ j, zb (M 13 j)) (f k : Nat) (hf : M 14 (w - 1) = ((f : Nat) : Int)) (hk : M 15 (w - 1) = ((k : Nat) : Int)) (hfk : f + k ≤ 600) (hz7 : ∀ j, zb (M 7 j)) (hsh : zb (M (30 + 4 * q2) 6) ∧ zb (M (30 + 4 * q2) 7) ∧ zb (M (30 + 4 * q2) 8) ∧ zb (M (30 + 4 * q2) 9)) : Met l y_PG_mustEndAhead ws_PG_mustEndAhead ({ frames := 1, cells := 0, slots := 0, locals := 22 } : Room) (va_Pc [.ref (ad (5)), .int (iI (((w : Nat) : Int)))] (ro_B D vwCl (pg_tys cs) (pg_w ad cs rp M))) (vp_Si (fun r => r = iI (bz (p_endp (M 7) f k ∨ (p_first (M 13) w ∧ M (30 + 4 * q2) 9 = 1)) inferInstance))) 0 0 (fun _ => False) := by
  refine Met.ofW (cc := b_PG_mustEndAhead) (maxL := 2) (ret := (some .boolean)) (by decide) rfl ?_
  intro p e s m args below meth c s₁ B hml hv
  obtain ⟨rfl, hP, hK⟩ := hv
  have hx := B.exec
  have hb := B.bytes
  have hr := B.returns
  have hts := atoms_spec (ws := ws_PG_mustEndAhead) B.pre
  have hg : ∀ w ∈ gt, w.before _ s = true := fun w h => hts w (List.mem_cons_of_mem _ h)
  have hown : s.vm.findClass R_PG = some m.cls := findClass_of_methodNamed B.named
  have hlocks := B.notSynchronized
  have hl := lv_entry ([.ref (ad (5)), .int (iI (((w : Nat) : Int)))]) (n := 2) (Nat.le_of_ble_eq_true rfl)
  rw [lg_entry_eq]
  generalize (lg_sl ([.ref (ad (5)), .int (iI (((w : Nat) : Int)))]) ++ List.replicate (2 - (lg_sl ([.ref (ad (5)), .int (iI (((w : Nat) : Int)))])).length) Slot.unset).toArray = ls at hl ⊢
  have hl : lv_has ls 2 [(0, .ref (ad (5))), (1, .int (iI (((w : Nat) : Int))))] := hl
  refine lv_aload_n hx hb d_PG_mustEndAhead_0 rfl (lv_at hl 0 rfl) ?_
  refine z_get (ci := 5) (C := R_PG) (T := T_PG) (N := 5) (v := .ref (ad (3))) hx hb hg in_PG hown hK hP (5) (by decide) rfl rfl 4 (by decide) (hg _ (List.mem_append_right _ (List.mem_append_right _ (List.mem_append_right _ (List.mem_append_right _ (List.mem_append_left _ (List.mem_of_getElem? (i := 33) rfl))))))) (fun _ h9 => h9) rfl d_PG_mustEndAhead_1 ?_
  refine lv_iload_n hx hb d_PG_mustEndAhead_4 rfl (lv_at hl 1 rfl) ?_
  refine z_iconst hx hb (z := 1) d_PG_mustEndAhead_5 ?_
  refine z_isub hx hb d_PG_mustEndAhead_6 (v := ((w - 1 : Nat) : Int)) (by omega) ?_
  refine ro_V (As := [.int (iI (((w - 1 : Nat) : Int)))]) (rest := []) (z := bz (p_endp (M 7) f k) inferInstance) ⟨hx, hb, hml, hown, hg⟩ (c_endsPage l (w - 1) f k (by omega) hf hk hfk hz7) (cwV 1 hg (gt_V (List.mem_append_right _ (List.mem_append_right _ (List.mem_append_right _ (List.mem_append_right _ (List.mem_append_right _ (List.mem_append_right _ (List.mem_append_right _ (List.mem_append_right _ (List.mem_append_left _ (List.mem_of_getElem? (i := 4) rfl)))))))))) (List.mem_append_right _ (List.mem_append_right _ (List.mem_append_right _ (List.mem_append_right _ (List.mem_append_right _ (List.mem_append_right _ (List.mem_append_right _ (List.mem_append_right _ (List.mem_append_left _ (List.mem_of_getElem? (i := 5) rfl)))))))))) (List.mem_append_right _ (List.mem_append_right _ (List.mem_append_right _ (List.mem_append_right _ (List.mem_append_right _ (List.mem_append_right _ (List.mem_append_right _ (List.mem_append_right _ (List.mem_append_left _ (List.mem_of_getElem? (i := 6) rfl)))))))))) (List.mem_append_right _ (List.mem_append_left _ (List.mem_of_getElem? (i := 6) rfl))) (List.mem_append_right _ (List.mem_append_right _ (List.mem_append_right _ (List.mem_append_right _ (List.mem_append_right _ (List.mem_append_right _ (List.mem_append_right _ (List.mem_append_right _ (List.mem_append_left _ (List.mem_of_getElem? (i := 7) rfl))))))))))) rfl rfl rfl (by decide +kernel) ⟨Nat.le_of_ble_eq_true rfl, Nat.le_of_ble_eq_true rfl⟩) hK hP (va_recv hK hP (ci := 3) (q0 := 3) rfl (wl_atE (by decide) rfl)) rfl hl.1 rfl (Nat.le_of_ble_eq_true rfl) d_PG_mustEndAhead_7 ⟨Nat.zero_le _, Nat.zero_le _⟩ ?_
  refine z_ifb_ne hx hb (tgt := 39) d_PG_mustEndAhead_10 (by decide) (fun c_10 => ?_) (fun c_10 => ?_)
  · refine z_iconst hx hb (z := 1) d_PG_mustEndAhead_39 ?_
    refine lv_goto (tgt := 44) hx hb d_PG_mustEndAhead_40 (by decide) ?_
    exact W.zret (v := iI (1)) hx hb hr (by first | rfl | decide) (fun t ht hW => ⟨_, rfl, by first | (rw [bz_t (by first | exact Or.inl c_10 | exact Or.inr ⟨c_21, c_36⟩)]; done) | (rw [bz_f (by rintro (h | ⟨h1, h2⟩) <;> first | exact c_10 h | exact c_21 h1 | exact c_36 h2)]; done), ht⟩) (fun q h => by cases h) d_PG_mustEndAhead_44
  · refine lv_aload_n hx hb d_PG_mustEndAhead_13 rfl (lv_at hl 0 rfl) ?_
    refine z_get (ci := 5) (C := R_PG) (T := T_PG) (N := 5) (v := .ref (ad (3))) hx hb hg in_PG hown hK hP (5) (by decide) rfl rfl 4 (by decide) (hg _ (List.mem_append_right _ (List.mem_append_right _ (List.mem_append_right _ (List.mem_append_right _ (List.mem_append_left _ (List.mem_of_getElem? (i := 33) rfl))))))) (fun _ h9 => h9) rfl d_PG_mustEndAhead_14 ?_
    refine lv_iload_n hx hb d_PG_mustEndAhead_17 rfl (lv_at hl 1 rfl) ?_
    refine ro_V (As := [.int (iI (((w : Nat) : Int)))]) (rest := []) (z := bz (p_first (M 13) (w)) inferInstance) ⟨hx, hb, hml, hown, hg⟩ (c_isFirst l (w) (by omega) hz) (cwV 1 hg (gt_V (List.mem_append_right _ (List.mem_append_right _ (List.mem_append_right _ (List.mem_append_right _ (List.mem_append_right _ (List.mem_append_right _ (List.mem_append_right _ (List.mem_append_right _ (List.mem_append_left _ (List.mem_of_getElem? (i := 8) rfl)))))))))) (List.mem_append_right _ (List.mem_append_right _ (List.mem_append_right _ (List.mem_append_right _ (List.mem_append_right _ (List.mem_append_right _ (List.mem_append_right _ (List.mem_append_right _ (List.mem_append_left _ (List.mem_of_getElem? (i := 9) rfl)))))))))) (List.mem_append_right _ (List.mem_append_right _ (List.mem_append_right _ (List.mem_append_right _ (List.mem_append_right _ (List.mem_append_right _ (List.mem_append_right _ (List.mem_append_right _ (List.mem_append_left _ (List.mem_of_getElem? (i := 10) rfl)))))))))) (List.mem_append_right _ (List.mem_append_left _ (List.mem_of_getElem? (i := 6) rfl))) (List.mem_append_right _ (List.mem_append_right _ (List.mem_append_right _ (List.mem_append_right _ (List.mem_append_right _ (List.mem_append_right _ (List.mem_append_right _ (List.mem_append_right _ (List.mem_append_left _ (List.mem_of_getElem? (i := 11) rfl))))))))))) rfl rfl rfl (by decide +kernel) ⟨Nat.le_of_ble_eq_true rfl, Nat.le_of_ble_eq_true rfl⟩) hK hP (va_recv hK hP (ci := 3) (q0 := 3) rfl (wl_atE (by decide) rfl)) rfl hl.1 rfl (Nat.le_of_ble_eq_true rfl) d_PG_mustEndAhead_18 ⟨Nat.zero_le _, Nat.zero_le _⟩ ?_
    refine z_ifb_eq hx hb (tgt := 43) d_PG_mustEndAhead_21 (by decide) (fun c_21 => ?_) (fun c_21 => ?_)
    · refine z_iconst hx hb (z := 0) d_PG_mustEndAhead_43 ?_
      exact W.zret (v := iI (0)) hx hb hr (by first | rfl | decide) (fun t ht hW => ⟨_, rfl, by first | (rw [bz_t (by first | exact Or.inl c_10 | exact Or.inr ⟨c_21, c_36⟩)]; done) | (rw [bz_f (by rintro (h | ⟨h1, h2⟩) <;> first | exact c_10 h | exact c_21 h1 | exact c_36 h2)]; done), ht⟩) (fun q h => by cases h) d_PG_mustEndAhead_44
    · refine lv_aload_n hx hb d_PG_mustEndAhead_24 rfl (lv_at hl 0 rfl) ?_
      refine lv_iload_n hx hb d_PG_mustEndAhead_25 rfl (lv_at hl 1 rfl) ?_
      refine ro_Vr (As := [.int (iI (((w : Nat) : Int)))]) (rest := []) (x := (ad (29 + 4 * q2))) ⟨hx, hb, hml, hown, hg⟩ (c_paragraphOf l (w) q2 (by omega) hq2 h13q2) (cwV 1 hg (gt_V (List.mem_append_right _ (List.mem_append_right _ (List.mem_append_right _ (List.mem_append_right _ (List.mem_append_right _ (List.mem_append_right _ (List.mem_append_right _ (List.mem_append_right _ (List.mem_append_left _ (List.mem_of_getElem? (i := 12) rfl)))))))))) (List.mem_append_right _ (List.mem_append_right _ (List.mem_append_right _ (List.mem_append_right _ (List.mem_append_right _ (List.mem_append_right _ (List.mem_append_right _ (List.mem_append_right _ (List.mem_append_left _ (List.mem_of_getElem? (i := 13) rfl)))))))))) (List.mem_append_left _ (List.mem_of_getElem? (i := 16) rfl)) (List.mem_append_right _ (List.mem_append_left _ (List.mem_of_getElem? (i := 8) rfl))) (List.mem_append_right _ (List.mem_append_right _ (List.mem_append_right _ (List.mem_append_right _ (List.mem_append_right _ (List.mem_append_right _ (List.mem_append_right _ (List.mem_append_right _ (List.mem_append_left _ (List.mem_of_getElem? (i := 14) rfl))))))))))) rfl rfl rfl (by decide +kernel) ⟨Nat.le_of_ble_eq_true rfl, Nat.le_of_ble_eq_true rfl⟩) hK hP (va_recv hK hP (ci := 5) (q0 := 5) rfl (wl_atE (by decide) rfl)) rfl hl.1 rfl (Nat.le_of_ble_eq_true rfl) d_PG_mustEndAhead_26 ⟨Nat.zero_le _, Nat.zero_le _⟩ ?_
      refine z_get (ci := 6) (C := R_PA) (T := T_PA) (N := 6) (v := .ref (ad (30 + 4 * q2))) hx hb hg in_PA hown hK hP (29 + 4 * q2) (by omega) (pg_par _ _ _ _ _) rfl 0 (by decide) (hg _ (List.mem_append_right _ (List.mem_append_right _ (List.mem_append_left _ (List.mem_of_getElem? (i := 0) rfl))))) (fun _ h9 => h9) rfl d_PG_mustEndAhead_29 ?_
      refine z_bipush hx hb (z := 9) d_PG_mustEndAhead_32 (by decide) ?_
      refine z_iald hx hb hK hP (30 + 4 * q2) 0 (by omega) (fun r => pg_shp _ _ _ _ r) rfl (9) rfl (by decide) (by decide) d_PG_mustEndAhead_34 ?_
      refine z_iconst hx hb (z := 1) d_PG_mustEndAhead_35 ?_
      refine z_icmp_ne hx hb (tgt := 43) d_PG_mustEndAhead_36 (by decide) hsh.2.2.2 ⟨by decide, by decide⟩ (fun c_36 => ?_) (fun c_36 => ?_)
      · refine z_iconst hx hb (z := 0) d_PG_mustEndAhead_43 ?_
        exact W.zret (v := iI (0)) hx hb hr (by first | rfl | decide) (fun t ht hW => ⟨_, rfl, by first | (rw [bz_t (by first | exact Or.inl c_10 | exact Or.inr ⟨c_21, c_36⟩)]; done) | (rw [bz_f (by rintro (h | ⟨h1, h2⟩) <;> first | exact c_10 h | exact c_21 h1 | exact c_36 h2)]; done), ht⟩) (fun q h => by cases h) d_PG_mustEndAhead_44
      · refine z_iconst hx hb (z := 1) d_PG_mustEndAhead_39 ?_
        refine lv_goto (tgt := 44) hx hb d_PG_mustEndAhead_40 (by decide) ?_
        exact W.zret (v := iI (1)) hx hb hr (by first | rfl | decide) (fun t ht hW => ⟨_, rfl, by first | (rw [bz_t (by first | exact Or.inl c_10 | exact Or.inr ⟨c_21, c_36⟩)]; done) | (rw [bz_f (by rintro (h | ⟨h1, h2⟩) <;> first | exact c_10 h | exact c_21 h1 | exact c_36 h2)]; done), ht⟩) (fun q h => by cases h) d_PG_mustEndAhead_44
set_option maxHeartbeats 4000000 in
set_option maxRecDepth 100000 in
/-- Pages.mayEndAhead -/
theorem c_mayEndAhead (l : Launch) {D : va_G} {ad : Nat → Nat} {cs : pg_C} {rp : Option Nat} {M : Nat → Nat → Int} (w q1 nl : Nat) (hw1 : 1 ≤ w) (hw : w < 630) (hq1 : q1 < 30) (h13q1 : M 13 (w - 1) = ((q1 : Nat) : Int)) (hl6 : nl ≤ 630) (hn : M 3 2 = ((nl : Nat) : Int)) (hz : ∀ j, zb (M 13 j)) (hsh : zb (M (30 + 4 * q1) 6) ∧ zb (M (30 + 4 * q1) 7) ∧ zb (M (30 + 4 * q1) 8) ∧ zb (M (30 + 4 * q1) 9)) : Met l y_PG_mayEndAhead ws_PG_mayEndAhead ({ frames := 1, cells := 0, slots := 0, locals := 21 } : Room) (va_Pc [.ref (ad (5)), .int (iI (((w : Nat) : Int)))] (ro_B D vwCl (pg_tys cs) (pg_w ad cs rp M))) (vp_Si (fun r => r = iI (bz (p_may (M 13) (M (30 + 4 * q1)) nl w) inferInstance))) 0 0 (fun _ => False) := by
  refine Met.ofW (cc := b_PG_mayEndAhead) (maxL := 4) (ret := (some .boolean)) (by decide) rfl ?_
  intro p e s m args below meth c s₁ B hml hv
  obtain ⟨rfl, hP, hK⟩ := hv
  have hx := B.exec
  have hb := B.bytes
  have hr := B.returns
  have hts := atoms_spec (ws := ws_PG_mayEndAhead) B.pre
  have hg : ∀ w ∈ gt, w.before _ s = true := fun w h => hts w (List.mem_cons_of_mem _ h)
  have hown : s.vm.findClass R_PG = some m.cls := findClass_of_methodNamed B.named
  have hlocks := B.notSynchronized
  have hl := lv_entry ([.ref (ad (5)), .int (iI (((w : Nat) : Int)))]) (n := 4) (Nat.le_of_ble_eq_true rfl)
  rw [lg_entry_eq]
  generalize (lg_sl ([.ref (ad (5)), .int (iI (((w : Nat) : Int)))]) ++ List.replicate (4 - (lg_sl ([.ref (ad (5)), .int (iI (((w : Nat) : Int)))])).length) Slot.unset).toArray = ls at hl ⊢
  have hl : lv_has ls 4 [(0, .ref (ad (5))), (1, .int (iI (((w : Nat) : Int))))] := hl
  refine lv_aload_n hx hb d_PG_mayEndAhead_0 rfl (lv_at hl 0 rfl) ?_
  refine lv_iload_n hx hb d_PG_mayEndAhead_1 rfl (lv_at hl 1 rfl) ?_
  refine z_iconst hx hb (z := 1) d_PG_mayEndAhead_2 ?_
  refine z_isub hx hb d_PG_mayEndAhead_3 (v := ((w - 1 : Nat) : Int)) (by omega) ?_
  refine ro_Vr (As := [.int (iI (((w - 1 : Nat) : Int)))]) (rest := []) (x := (ad (29 + 4 * q1))) ⟨hx, hb, hml, hown, hg⟩ (c_paragraphOf l (w - 1) q1 (by omega) hq1 h13q1) (cwV 1 hg (gt_V (List.mem_append_right _ (List.mem_append_right _ (List.mem_append_right _ (List.mem_append_right _ (List.mem_append_right _ (List.mem_append_right _ (List.mem_append_right _ (List.mem_append_right _ (List.mem_append_left _ (List.mem_of_getElem? (i := 12) rfl)))))))))) (List.mem_append_right _ (List.mem_append_right _ (List.mem_append_right _ (List.mem_append_right _ (List.mem_append_right _ (List.mem_append_right _ (List.mem_append_right _ (List.mem_append_right _ (List.mem_append_left _ (List.mem_of_getElem? (i := 13) rfl)))))))))) (List.mem_append_left _ (List.mem_of_getElem? (i := 16) rfl)) (List.mem_append_right _ (List.mem_append_left _ (List.mem_of_getElem? (i := 8) rfl))) (List.mem_append_right _ (List.mem_append_right _ (List.mem_append_right _ (List.mem_append_right _ (List.mem_append_right _ (List.mem_append_right _ (List.mem_append_right _ (List.mem_append_right _ (List.mem_append_left _ (List.mem_of_getElem? (i := 14) rfl))))))))))) rfl rfl rfl (by decide +kernel) ⟨Nat.le_of_ble_eq_true rfl, Nat.le_of_ble_eq_true rfl⟩) hK hP (va_recv hK hP (ci := 5) (q0 := 5) rfl (wl_atE (by decide) rfl)) rfl hl.1 rfl (Nat.le_of_ble_eq_true rfl) d_PG_mayEndAhead_4 ⟨Nat.zero_le _, Nat.zero_le _⟩ ?_
  refine z_get (ci := 6) (C := R_PA) (T := T_PA) (N := 6) (v := .ref (ad (30 + 4 * q1))) hx hb hg in_PA hown hK hP (29 + 4 * q1) (by omega) (pg_par _ _ _ _ _) rfl 0 (by decide) (hg _ (List.mem_append_right _ (List.mem_append_right _ (List.mem_append_left _ (List.mem_of_getElem? (i := 0) rfl))))) (fun _ h9 => h9) rfl d_PG_mayEndAhead_7 ?_
  refine lv_astore_n (lv' := [(2, .ref (ad (30 + 4 * q1))), (0, .ref (ad (5))), (1, .int (iI (((w : Nat) : Int))))]) hx hb d_PG_mayEndAhead_10 rfl hl (by decide) rfl (fun ls hl => ?_)
  refine lv_aload_n hx hb d_PG_mayEndAhead_11 rfl (lv_at hl 1 rfl) ?_
  refine z_get (ci := 5) (C := R_PG) (T := T_PG) (N := 5) (v := .ref (ad (3))) hx hb hg in_PG hown hK hP (5) (by decide) rfl rfl 4 (by decide) (hg _ (List.mem_append_right _ (List.mem_append_right _ (List.mem_append_right _ (List.mem_append_right _ (List.mem_append_left _ (List.mem_of_getElem? (i := 33) rfl))))))) (fun _ h9 => h9) rfl d_PG_mayEndAhead_12 ?_
  refine lv_iload_n hx hb d_PG_mayEndAhead_15 rfl (lv_at hl 2 rfl) ?_
  refine ro_V (As := [.int (iI (((w : Nat) : Int)))]) (rest := []) (z := bz (p_first (M 13) (w)) inferInstance) ⟨hx, hb, hml, hown, hg⟩ (c_isFirst l (w) (by omega) hz) (cwV 1 hg (gt_V (List.mem_append_right _ (List.mem_append_right _ (List.mem_append_right _ (List.mem_append_right _ (List.mem_append_right _ (List.mem_append_right _ (List.mem_append_right _ (List.mem_append_right _ (List.mem_append_left _ (List.mem_of_getElem? (i := 8) rfl)))))))))) (List.mem_append_right _ (List.mem_append_right _ (List.mem_append_right _ (List.mem_append_right _ (List.mem_append_right _ (List.mem_append_right _ (List.mem_append_right _ (List.mem_append_right _ (List.mem_append_left _ (List.mem_of_getElem? (i := 9) rfl)))))))))) (List.mem_append_right _ (List.mem_append_right _ (List.mem_append_right _ (List.mem_append_right _ (List.mem_append_right _ (List.mem_append_right _ (List.mem_append_right _ (List.mem_append_right _ (List.mem_append_left _ (List.mem_of_getElem? (i := 10) rfl)))))))))) (List.mem_append_right _ (List.mem_append_left _ (List.mem_of_getElem? (i := 6) rfl))) (List.mem_append_right _ (List.mem_append_right _ (List.mem_append_right _ (List.mem_append_right _ (List.mem_append_right _ (List.mem_append_right _ (List.mem_append_right _ (List.mem_append_right _ (List.mem_append_left _ (List.mem_of_getElem? (i := 11) rfl))))))))))) rfl rfl rfl (by decide +kernel) ⟨Nat.le_of_ble_eq_true rfl, Nat.le_of_ble_eq_true rfl⟩) hK hP (va_recv hK hP (ci := 3) (q0 := 3) rfl (wl_atE (by decide) rfl)) rfl hl.1 rfl (Nat.le_of_ble_eq_true rfl) d_PG_mayEndAhead_16 ⟨Nat.zero_le _, Nat.zero_le _⟩ ?_
  refine z_ifb_eq hx hb (tgt := 35) d_PG_mayEndAhead_19 (by decide) (fun c_19 => ?_) (fun c_19 => ?_)
  · refine lv_aload_n hx hb d_PG_mayEndAhead_35 rfl (lv_at hl 1 rfl) ?_
    refine z_get (ci := 5) (C := R_PG) (T := T_PG) (N := 5) (v := .ref (ad (3))) hx hb hg in_PG hown hK hP (5) (by decide) rfl rfl 4 (by decide) (hg _ (List.mem_append_right _ (List.mem_append_right _ (List.mem_append_right _ (List.mem_append_right _ (List.mem_append_left _ (List.mem_of_getElem? (i := 33) rfl))))))) (fun _ h9 => h9) rfl d_PG_mayEndAhead_36 ?_
    refine lv_iload_n hx hb d_PG_mayEndAhead_39 rfl (lv_at hl 2 rfl) ?_
    refine z_iconst hx hb (z := 1) d_PG_mayEndAhead_40 ?_
    refine z_isub hx hb d_PG_mayEndAhead_41 (v := ((w - 1 : Nat) : Int)) (by omega) ?_
    refine ro_V (As := [.int (iI (((w - 1 : Nat) : Int)))]) (rest := []) (z := bz (p_first (M 13) (w - 1)) inferInstance) ⟨hx, hb, hml, hown, hg⟩ (c_isFirst l (w - 1) (by omega) hz) (cwV 1 hg (gt_V (List.mem_append_right _ (List.mem_append_right _ (List.mem_append_right _ (List.mem_append_right _ (List.mem_append_right _ (List.mem_append_right _ (List.mem_append_right _ (List.mem_append_right _ (List.mem_append_left _ (List.mem_of_getElem? (i := 8) rfl)))))))))) (List.mem_append_right _ (List.mem_append_right _ (List.mem_append_right _ (List.mem_append_right _ (List.mem_append_right _ (List.mem_append_right _ (List.mem_append_right _ (List.mem_append_right _ (List.mem_append_left _ (List.mem_of_getElem? (i := 9) rfl)))))))))) (List.mem_append_right _ (List.mem_append_right _ (List.mem_append_right _ (List.mem_append_right _ (List.mem_append_right _ (List.mem_append_right _ (List.mem_append_right _ (List.mem_append_right _ (List.mem_append_left _ (List.mem_of_getElem? (i := 10) rfl)))))))))) (List.mem_append_right _ (List.mem_append_left _ (List.mem_of_getElem? (i := 6) rfl))) (List.mem_append_right _ (List.mem_append_right _ (List.mem_append_right _ (List.mem_append_right _ (List.mem_append_right _ (List.mem_append_right _ (List.mem_append_right _ (List.mem_append_right _ (List.mem_append_left _ (List.mem_of_getElem? (i := 11) rfl))))))))))) rfl rfl rfl (by decide +kernel) ⟨Nat.le_of_ble_eq_true rfl, Nat.le_of_ble_eq_true rfl⟩) hK hP (va_recv hK hP (ci := 3) (q0 := 3) rfl (wl_atE (by decide) rfl)) rfl hl.1 rfl (Nat.le_of_ble_eq_true rfl) d_PG_mayEndAhead_42 ⟨Nat.zero_le _, Nat.zero_le _⟩ ?_
    refine z_ifb_ne hx hb (tgt := 59) d_PG_mayEndAhead_45 (by decide) (fun c_45 => ?_) (fun c_45 => ?_)
    · refine z_iconst hx hb (z := 1) d_PG_mayEndAhead_59 ?_
      refine lv_goto (tgt := 64) hx hb d_PG_mayEndAhead_60 (by decide) ?_
      refine lv_istore_n (lv' := [(3, .int (iI (1))), (2, .ref (ad (30 + 4 * q1))), (0, .ref (ad (5))), (1, .int (iI (((w : Nat) : Int))))]) hx hb d_PG_mayEndAhead_64 rfl hl (by decide) rfl (fun ls hl => ?_)
      refine lv_aload_n hx hb d_PG_mayEndAhead_65 rfl (lv_at hl 1 rfl) ?_
      refine z_bipush hx hb (z := 7) d_PG_mayEndAhead_66 (by decide) ?_
      refine z_iald hx hb hK hP (30 + 4 * q1) 0 (by omega) (fun r => pg_shp _ _ _ _ r) rfl (7) rfl (by decide) (by decide) d_PG_mayEndAhead_68 ?_
      refine z_if_ne hx hb (tgt := 87) d_PG_mayEndAhead_69 (by decide) hsh.2.1 (fun c_69 => ?_) (fun c_69 => ?_)
      · refine z_iconst hx hb (z := 0) d_PG_mayEndAhead_87 ?_
        exact W.zret (v := iI (0)) hx hb hr (by first | rfl | decide) (fun t ht hW => ⟨_, rfl, by first | (rw [bz_t (by omega)]; done) | (rw [bz_f (by omega)]; done), ht⟩) (fun q h => by cases h) d_PG_mayEndAhead_88
      · refine lv_aload_n hx hb d_PG_mayEndAhead_72 rfl (lv_at hl 1 rfl) ?_
        refine z_bipush hx hb (z := 8) d_PG_mayEndAhead_73 (by decide) ?_
        refine z_iald hx hb hK hP (30 + 4 * q1) 0 (by omega) (fun r => pg_shp _ _ _ _ r) rfl (8) rfl (by decide) (by decide) d_PG_mayEndAhead_75 ?_
        refine z_if_eq hx hb (tgt := 83) d_PG_mayEndAhead_76 (by decide) hsh.2.2.1 (fun c_76 => ?_) (fun c_76 => ?_)
        · refine z_iconst hx hb (z := 1) d_PG_mayEndAhead_83 ?_
          refine lv_goto (tgt := 88) hx hb d_PG_mayEndAhead_84 (by decide) ?_
          exact W.zret (v := iI (1)) hx hb hr (by first | rfl | decide) (fun t ht hW => ⟨_, rfl, by first | (rw [bz_t (by omega)]; done) | (rw [bz_f (by omega)]; done), ht⟩) (fun q h => by cases h) d_PG_mayEndAhead_88
        · refine lv_iload_n hx hb d_PG_mayEndAhead_79 rfl (lv_at hl 0 rfl) ?_
          refine z_if_ne hx hb (tgt := 87) d_PG_mayEndAhead_80 (by decide) ⟨by decide, by decide⟩ (fun c_80 => ?_) (fun c_80 => ?_)
          · refine z_iconst hx hb (z := 0) d_PG_mayEndAhead_87 ?_
            exact W.zret (v := iI (0)) hx hb hr (by first | rfl | decide) (fun t ht hW => ⟨_, rfl, by first | (rw [bz_t (by omega)]; done) | (rw [bz_f (by omega)]; done), ht⟩) (fun q h => by cases h) d_PG_mayEndAhead_88
          · exact absurd c_80 (by decide)
    · refine lv_aload_n hx hb d_PG_mayEndAhead_48 rfl (lv_at hl 1 rfl) ?_
      refine z_get (ci := 5) (C := R_PG) (T := T_PG) (N := 5) (v := .ref (ad (3))) hx hb hg in_PG hown hK hP (5) (by decide) rfl rfl 4 (by decide) (hg _ (List.mem_append_right _ (List.mem_append_right _ (List.mem_append_right _ (List.mem_append_right _ (List.mem_append_left _ (List.mem_of_getElem? (i := 33) rfl))))))) (fun _ h9 => h9) rfl d_PG_mayEndAhead_49 ?_
      refine lv_iload_n hx hb d_PG_mayEndAhead_52 rfl (lv_at hl 2 rfl) ?_
      refine ro_V (As := [.int (iI (((w : Nat) : Int)))]) (rest := []) (z := bz (p_lastl (M 13) nl w) inferInstance) ⟨hx, hb, hml, hown, hg⟩ (c_isLast l w nl (by omega) hl6 hn hz) (cwV 1 hg (gt_V (List.mem_append_right _ (List.mem_append_right _ (List.mem_append_right _ (List.mem_append_right _ (List.mem_append_right _ (List.mem_append_right _ (List.mem_append_right _ (List.mem_append_right _ (List.mem_append_left _ (List.mem_of_getElem? (i := 24) rfl)))))))))) (List.mem_append_right _ (List.mem_append_right _ (List.mem_append_right _ (List.mem_append_right _ (List.mem_append_right _ (List.mem_append_right _ (List.mem_append_right _ (List.mem_append_right _ (List.mem_append_left _ (List.mem_of_getElem? (i := 25) rfl)))))))))) (List.mem_append_right _ (List.mem_append_right _ (List.mem_append_right _ (List.mem_append_right _ (List.mem_append_right _ (List.mem_append_right _ (List.mem_append_right _ (List.mem_append_right _ (List.mem_append_left _ (List.mem_of_getElem? (i := 26) rfl)))))))))) (List.mem_append_right _ (List.mem_append_left _ (List.mem_of_getElem? (i := 6) rfl))) (List.mem_append_right _ (List.mem_append_right _ (List.mem_append_right _ (List.mem_append_right _ (List.mem_append_right _ (List.mem_append_right _ (List.mem_append_right _ (List.mem_append_right _ (List.mem_append_left _ (List.mem_of_getElem? (i := 27) rfl))))))))))) rfl rfl rfl (by decide +kernel) ⟨Nat.le_of_ble_eq_true rfl, Nat.le_of_ble_eq_true rfl⟩) hK hP (va_recv hK hP (ci := 3) (q0 := 3) rfl (wl_atE (by decide) rfl)) rfl hl.1 rfl (Nat.le_of_ble_eq_true rfl) d_PG_mayEndAhead_53 ⟨Nat.zero_le _, Nat.zero_le _⟩ ?_
      refine z_ifb_eq hx hb (tgt := 63) d_PG_mayEndAhead_56 (by decide) (fun c_56 => ?_) (fun c_56 => ?_)
      · refine z_iconst hx hb (z := 0) d_PG_mayEndAhead_63 ?_
        refine lv_istore_n (lv' := [(3, .int (iI (0))), (2, .ref (ad (30 + 4 * q1))), (0, .ref (ad (5))), (1, .int (iI (((w : Nat) : Int))))]) hx hb d_PG_mayEndAhead_64 rfl hl (by decide) rfl (fun ls hl => ?_)
        refine lv_aload_n hx hb d_PG_mayEndAhead_65 rfl (lv_at hl 1 rfl) ?_
        refine z_bipush hx hb (z := 7) d_PG_mayEndAhead_66 (by decide) ?_
        refine z_iald hx hb hK hP (30 + 4 * q1) 0 (by omega) (fun r => pg_shp _ _ _ _ r) rfl (7) rfl (by decide) (by decide) d_PG_mayEndAhead_68 ?_
        refine z_if_ne hx hb (tgt := 87) d_PG_mayEndAhead_69 (by decide) hsh.2.1 (fun c_69 => ?_) (fun c_69 => ?_)
        · refine z_iconst hx hb (z := 0) d_PG_mayEndAhead_87 ?_
          exact W.zret (v := iI (0)) hx hb hr (by first | rfl | decide) (fun t ht hW => ⟨_, rfl, by first | (rw [bz_t (by omega)]; done) | (rw [bz_f (by omega)]; done), ht⟩) (fun q h => by cases h) d_PG_mayEndAhead_88
        · refine lv_aload_n hx hb d_PG_mayEndAhead_72 rfl (lv_at hl 1 rfl) ?_
          refine z_bipush hx hb (z := 8) d_PG_mayEndAhead_73 (by decide) ?_
          refine z_iald hx hb hK hP (30 + 4 * q1) 0 (by omega) (fun r => pg_shp _ _ _ _ r) rfl (8) rfl (by decide) (by decide) d_PG_mayEndAhead_75 ?_
          refine z_if_eq hx hb (tgt := 83) d_PG_mayEndAhead_76 (by decide) hsh.2.2.1 (fun c_76 => ?_) (fun c_76 => ?_)
          · refine z_iconst hx hb (z := 1) d_PG_mayEndAhead_83 ?_
            refine lv_goto (tgt := 88) hx hb d_PG_mayEndAhead_84 (by decide) ?_
            exact W.zret (v := iI (1)) hx hb hr (by first | rfl | decide) (fun t ht hW => ⟨_, rfl, by first | (rw [bz_t (by omega)]; done) | (rw [bz_f (by omega)]; done), ht⟩) (fun q h => by cases h) d_PG_mayEndAhead_88
          · refine lv_iload_n hx hb d_PG_mayEndAhead_79 rfl (lv_at hl 0 rfl) ?_
            refine z_if_ne hx hb (tgt := 87) d_PG_mayEndAhead_80 (by decide) ⟨by decide, by decide⟩ (fun c_80 => ?_) (fun c_80 => ?_)
            · exact absurd c_80 (by decide)
            · refine z_iconst hx hb (z := 1) d_PG_mayEndAhead_83 ?_
              refine lv_goto (tgt := 88) hx hb d_PG_mayEndAhead_84 (by decide) ?_
              exact W.zret (v := iI (1)) hx hb hr (by first | rfl | decide) (fun t ht hW => ⟨_, rfl, by first | (rw [bz_t (by omega)]; done) | (rw [bz_f (by omega)]; done), ht⟩) (fun q h => by cases h) d_PG_mayEndAhead_88
      · refine z_iconst hx hb (z := 1) d_PG_mayEndAhead_59 ?_
        refine lv_goto (tgt := 64) hx hb d_PG_mayEndAhead_60 (by decide) ?_
        refine lv_istore_n (lv' := [(3, .int (iI (1))), (2, .ref (ad (30 + 4 * q1))), (0, .ref (ad (5))), (1, .int (iI (((w : Nat) : Int))))]) hx hb d_PG_mayEndAhead_64 rfl hl (by decide) rfl (fun ls hl => ?_)
        refine lv_aload_n hx hb d_PG_mayEndAhead_65 rfl (lv_at hl 1 rfl) ?_
        refine z_bipush hx hb (z := 7) d_PG_mayEndAhead_66 (by decide) ?_
        refine z_iald hx hb hK hP (30 + 4 * q1) 0 (by omega) (fun r => pg_shp _ _ _ _ r) rfl (7) rfl (by decide) (by decide) d_PG_mayEndAhead_68 ?_
        refine z_if_ne hx hb (tgt := 87) d_PG_mayEndAhead_69 (by decide) hsh.2.1 (fun c_69 => ?_) (fun c_69 => ?_)
        · refine z_iconst hx hb (z := 0) d_PG_mayEndAhead_87 ?_
          exact W.zret (v := iI (0)) hx hb hr (by first | rfl | decide) (fun t ht hW => ⟨_, rfl, by first | (rw [bz_t (by omega)]; done) | (rw [bz_f (by omega)]; done), ht⟩) (fun q h => by cases h) d_PG_mayEndAhead_88
        · refine lv_aload_n hx hb d_PG_mayEndAhead_72 rfl (lv_at hl 1 rfl) ?_
          refine z_bipush hx hb (z := 8) d_PG_mayEndAhead_73 (by decide) ?_
          refine z_iald hx hb hK hP (30 + 4 * q1) 0 (by omega) (fun r => pg_shp _ _ _ _ r) rfl (8) rfl (by decide) (by decide) d_PG_mayEndAhead_75 ?_
          refine z_if_eq hx hb (tgt := 83) d_PG_mayEndAhead_76 (by decide) hsh.2.2.1 (fun c_76 => ?_) (fun c_76 => ?_)
          · refine z_iconst hx hb (z := 1) d_PG_mayEndAhead_83 ?_
            refine lv_goto (tgt := 88) hx hb d_PG_mayEndAhead_84 (by decide) ?_
            exact W.zret (v := iI (1)) hx hb hr (by first | rfl | decide) (fun t ht hW => ⟨_, rfl, by first | (rw [bz_t (by omega)]; done) | (rw [bz_f (by omega)]; done), ht⟩) (fun q h => by cases h) d_PG_mayEndAhead_88
          · refine lv_iload_n hx hb d_PG_mayEndAhead_79 rfl (lv_at hl 0 rfl) ?_
            refine z_if_ne hx hb (tgt := 87) d_PG_mayEndAhead_80 (by decide) ⟨by decide, by decide⟩ (fun c_80 => ?_) (fun c_80 => ?_)
            · refine z_iconst hx hb (z := 0) d_PG_mayEndAhead_87 ?_
              exact W.zret (v := iI (0)) hx hb hr (by first | rfl | decide) (fun t ht hW => ⟨_, rfl, by first | (rw [bz_t (by omega)]; done) | (rw [bz_f (by omega)]; done), ht⟩) (fun q h => by cases h) d_PG_mayEndAhead_88
            · exact absurd c_80 (by decide)
  · refine lv_aload_n hx hb d_PG_mayEndAhead_22 rfl (lv_at hl 0 rfl) ?_
    refine z_bipush hx hb (z := 6) d_PG_mayEndAhead_23 (by decide) ?_
    refine z_iald hx hb hK hP (30 + 4 * q1) 0 (by omega) (fun r => pg_shp _ _ _ _ r) rfl (6) rfl (by decide) (by decide) d_PG_mayEndAhead_25 ?_
    refine z_if_ne hx hb (tgt := 33) d_PG_mayEndAhead_26 (by decide) hsh.1 (fun c_26 => ?_) (fun c_26 => ?_)
    · refine z_iconst hx hb (z := 0) d_PG_mayEndAhead_33 ?_
      exact W.zret (v := iI (0)) hx hb hr (by first | rfl | decide) (fun t ht hW => ⟨_, rfl, by first | (rw [bz_t (by omega)]; done) | (rw [bz_f (by omega)]; done), ht⟩) (fun q h => by cases h) d_PG_mayEndAhead_34
    · refine z_iconst hx hb (z := 1) d_PG_mayEndAhead_29 ?_
      refine lv_goto (tgt := 34) hx hb d_PG_mayEndAhead_30 (by decide) ?_
      exact W.zret (v := iI (1)) hx hb hr (by first | rfl | decide) (fun t ht hW => ⟨_, rfl, by first | (rw [bz_t (by omega)]; done) | (rw [bz_f (by omega)]; done), ht⟩) (fun q h => by cases h) d_PG_mayEndAhead_34
set_option maxHeartbeats 4000000 in
set_option maxRecDepth 100000 in
theorem lp_lineAt {p : Program} {l : Launch} {e : Env} {s : State} {m : MethodId} {args : Array Value} {below : List Frame} {meth : Method} {c : Code} {H : Heap} {locs : List Loc} {Q : State → Prop} {D : va_G} {ad : Nat → Nat} {cs : pg_C} {rp : Option Nat} {M : Nat → Nat → Int} (hx : p.tables.exec = Jvm.exec) (hb : c.code = b_PG_lineAt) (hml : c.maxLocals = 5) (hg : ∀ w ∈ gt, w.before args s = true) (hown : s.vm.findClass R_PG = some m.cls) (hK : va_K D vwCl (pg_tys cs) s) (hP : va_P D vwCl (pg_w ad cs rp M) H) (g a k t : Nat) (y : Int) (hyb : zb y) (ha : M 26 g = ((a : Nat) : Int)) (ha6 : a ≤ 630) (hz : ∀ j, zb (M 20 j)) (kk : ∀ ls : Array Slot, lv_has ls 5 [(4, .int (iI ((t : Nat) : Int)))] → W p l e ({ frames := 0, cells := 0, slots := 0, locals := 0 } : Room) s m args below meth c H locs 0 0 Q (F0 m 52 ls [])) : ∀ (f : Nat) (ls : Array Slot), f < 630 → p_lat (M 20) y a f = t → lv_has ls 5 [(4, .int (iI (((f : Nat) : Int)))), (3, .int (iI (M 26 g))), (0, .ref (ad (5))), (1, .int (iI (((g : Nat) : Int)))), (2, .int (iI (y)))] → W p l e ({ frames := 0, cells := 0, slots := 0, locals := 0 } : Room) s m args below meth c H locs 0 0 Q (F0 m 23 ls []) := by
  intro f
  induction f with
  | zero =>
    intro ls hf he hl
    refine lv_iload hx hb d_PG_lineAt_23 (lv_at hl 0 rfl) ?_
    refine lv_iload_n hx hb d_PG_lineAt_25 rfl (lv_at hl 1 rfl) ?_
    refine z_icmp_le hx hb (tgt := 52) d_PG_lineAt_26 (by decide) ⟨by omega, by omega⟩ ⟨by omega, by omega⟩ (fun c_26 => ?_) (fun c_26 => ?_)
    · have he : 0 = t := he
      subst he
      exact kk ls (lv_sub hl [0] rfl)
    · exact absurd c_26 (by omega)
  | succ f ih =>
    intro ls hf he hl
    refine lv_iload hx hb d_PG_lineAt_23 (lv_at hl 0 rfl) ?_
    refine lv_iload_n hx hb d_PG_lineAt_25 rfl (lv_at hl 1 rfl) ?_
    refine z_icmp_le hx hb (tgt := 52) d_PG_lineAt_26 (by decide) ⟨by omega, by omega⟩ ⟨by omega, by omega⟩ (fun c_26 => ?_) (fun c_26 => ?_)
    · have he : f + 1 = t := by rw [← he]; unfold p_lat; rw [if_neg (by omega)]
      subst he
      exact kk ls (lv_sub hl [0] rfl)
    · refine lv_aload_n hx hb d_PG_lineAt_29 rfl (lv_at hl 2 rfl) ?_
      refine z_get (ci := 5) (C := R_PG) (T := T_PG) (N := 5) (v := .ref (ad (3))) hx hb hg in_PG hown hK hP (5) (by decide) rfl rfl 4 (by decide) (hg _ (List.mem_append_right _ (List.mem_append_right _ (List.mem_append_right _ (List.mem_append_right _ (List.mem_append_left _ (List.mem_of_getElem? (i := 33) rfl))))))) (fun _ h9 => h9) rfl d_PG_lineAt_30 ?_
      refine z_get (ci := 3) (C := R_LN) (T := T_LN) (N := 6) (v := .ref (ad (10))) hx hb hg in_LN hown hK hP (3) (by decide) rfl rfl 0 (by decide) (hg _ (List.mem_append_right _ (List.mem_append_right _ (List.mem_append_right _ (List.mem_append_right _ (List.mem_append_left _ (List.mem_of_getElem? (i := 4) rfl))))))) (fun _ h9 => h9) rfl d_PG_lineAt_33 ?_
      refine z_bipush hx hb (z := 7) d_PG_lineAt_36 (by decide) ?_
      refine z_aald hx hb hK hP (10) 1 (by decide) (fun _ => rfl) rfl rfl (7) rfl (by decide) (by decide) d_PG_lineAt_38 ?_
      refine lv_iload hx hb d_PG_lineAt_39 (lv_at hl 0 rfl) ?_
      refine z_iald hx hb hK hP (20) 0 (by decide) (fun _ => rfl) rfl (f + 1) rfl (by omega) (by decide) d_PG_lineAt_41 ?_
      refine lv_iload_n hx hb d_PG_lineAt_42 rfl (lv_at hl 4 rfl) ?_
      refine z_icmp_le hx hb (tgt := 52) d_PG_lineAt_43 (by decide) (hz _) hyb (fun c_43 => ?_) (fun c_43 => ?_)
      · have he : f + 1 = t := by rw [← he]; unfold p_lat; rw [if_neg (by omega)]
        subst he
        exact kk ls (lv_sub hl [0] rfl)
      · refine z_iinc (v := ((f : Nat) : Int)) (lv' := [(4, .int (iI (((f : Nat) : Int)))), (3, .int (iI (M 26 g))), (0, .ref (ad (5))), (1, .int (iI (((g : Nat) : Int)))), (2, .int (iI (y)))]) hx hb d_PG_lineAt_46 hl (k := 0) rfl (by omega) (by decide) rfl (fun ls hl => ?_)
        refine lv_goto (tgt := 23) hx hb d_PG_lineAt_49 (by decide) ?_
        exact ih ls (by omega) (by rw [← he]; conv => rhs; unfold p_lat; rw [if_pos ⟨by omega, by omega⟩]) hl
set_option maxHeartbeats 4000000 in
set_option maxRecDepth 100000 in
/-- Pages.lineAt -/
theorem c_lineAt (l : Launch) {D : va_G} {ad : Nat → Nat} {cs : pg_C} {rp : Option Nat} {M : Nat → Nat → Int} (g a k : Nat) (y : Int) (hg6 : g < 630) (hyb : zb y) (ha : M 26 g = ((a : Nat) : Int)) (hk : M 27 g = ((k : Nat) : Int)) (hk1 : 1 ≤ k) (hak : a + k ≤ 630) (hz : ∀ j, zb (M 20 j)) : Met l y_PG_lineAt ws_PG_lineAt ({ frames := 0, cells := 0, slots := 0, locals := 0 } : Room) (va_Pc [.ref (ad (5)), .int (iI (((g : Nat) : Int))), .int (iI (y))] (ro_B D vwCl (pg_tys cs) (pg_w ad cs rp M))) (vp_Si (fun r => r = iI (((p_lat (M 20) y a (a + k - 1) : Nat) : Int)))) 0 0 (fun _ => False) := by
  refine Met.ofW (cc := b_PG_lineAt) (maxL := 5) (ret := (some .int)) (by decide) rfl ?_
  intro p e s m args below meth c s₁ B hml hv
  obtain ⟨rfl, hP, hK⟩ := hv
  have hx := B.exec
  have hb := B.bytes
  have hr := B.returns
  have hts := atoms_spec (ws := ws_PG_lineAt) B.pre
  have hg : ∀ w ∈ gt, w.before _ s = true := fun w h => hts w (List.mem_cons_of_mem _ h)
  have hown : s.vm.findClass R_PG = some m.cls := findClass_of_methodNamed B.named
  have hlocks := B.notSynchronized
  have hl := lv_entry ([.ref (ad (5)), .int (iI (((g : Nat) : Int))), .int (iI (y))]) (n := 5) (Nat.le_of_ble_eq_true rfl)
  rw [lg_entry_eq]
  generalize (lg_sl ([.ref (ad (5)), .int (iI (((g : Nat) : Int))), .int (iI (y))]) ++ List.replicate (5 - (lg_sl ([.ref (ad (5)), .int (iI (((g : Nat) : Int))), .int (iI (y))])).length) Slot.unset).toArray = ls at hl ⊢
  have hl : lv_has ls 5 [(0, .ref (ad (5))), (1, .int (iI (((g : Nat) : Int)))), (2, .int (iI (y)))] := hl
  refine lv_aload_n hx hb d_PG_lineAt_0 rfl (lv_at hl 0 rfl) ?_
  refine z_get (ci := 5) (C := R_PG) (T := T_PG) (N := 5) (v := .ref (ad (12))) hx hb hg in_PG hown hK hP (5) (by decide) rfl rfl 0 (by decide) (hg _ (List.mem_append_right _ (List.mem_append_right _ (List.mem_append_right _ (List.mem_append_right _ (List.mem_append_left _ (List.mem_of_getElem? (i := 27) rfl))))))) (fun _ h9 => h9) rfl d_PG_lineAt_1 ?_
  refine z_iconst hx hb (z := 0) d_PG_lineAt_4 ?_
  refine z_aald hx hb hK hP (12) 1 (by decide) (fun _ => rfl) rfl rfl (0) rfl (by decide) (by decide) d_PG_lineAt_5 ?_
  refine lv_iload_n hx hb d_PG_lineAt_6 rfl (lv_at hl 1 rfl) ?_
  refine z_iald hx hb hK hP (26) 0 (by decide) (fun _ => rfl) rfl (g) rfl (by omega) (by decide) d_PG_lineAt_7 ?_
  refine lv_istore_n (lv' := [(3, .int (iI (M (26) (g)))), (0, .ref (ad (5))), (1, .int (iI (((g : Nat) : Int)))), (2, .int (iI (y)))]) hx hb d_PG_lineAt_8 rfl hl (by decide) rfl (fun ls hl => ?_)
  refine lv_iload_n hx hb d_PG_lineAt_9 rfl (lv_at hl 0 rfl) ?_
  refine lv_aload_n hx hb d_PG_lineAt_10 rfl (lv_at hl 1 rfl) ?_
  refine z_get (ci := 5) (C := R_PG) (T := T_PG) (N := 5) (v := .ref (ad (12))) hx hb hg in_PG hown hK hP (5) (by decide) rfl rfl 0 (by decide) (hg _ (List.mem_append_right _ (List.mem_append_right _ (List.mem_append_right _ (List.mem_append_right _ (List.mem_append_left _ (List.mem_of_getElem? (i := 27) rfl))))))) (fun _ h9 => h9) rfl d_PG_lineAt_11 ?_
  refine z_iconst hx hb (z := 1) d_PG_lineAt_14 ?_
  refine z_aald hx hb hK hP (12) 1 (by decide) (fun _ => rfl) rfl rfl (1) rfl (by decide) (by decide) d_PG_lineAt_15 ?_
  refine lv_iload_n hx hb d_PG_lineAt_16 rfl (lv_at hl 2 rfl) ?_
  refine z_iald hx hb hK hP (27) 0 (by decide) (fun _ => rfl) rfl (g) rfl (by omega) (by decide) d_PG_lineAt_17 ?_
  refine z_iadd hx hb d_PG_lineAt_18 (v := (M (26) (g) + M (27) (g))) rfl ?_
  refine z_iconst hx hb (z := 1) d_PG_lineAt_19 ?_
  refine z_isub hx hb d_PG_lineAt_20 (v := ((a + k - 1 : Nat) : Int)) (by omega) ?_
  refine lv_istore (lv' := [(4, .int (iI (((a + k - 1 : Nat) : Int)))), (3, .int (iI (M (26) (g)))), (0, .ref (ad (5))), (1, .int (iI (((g : Nat) : Int)))), (2, .int (iI (y)))]) hx hb d_PG_lineAt_21 hl (by decide) rfl (fun ls hl => ?_)
  refine lp_lineAt hx hb hml hg hown hK hP g a k _ y hyb ha (by omega) hz (fun ls hl => ?_) (a + k - 1) ls (by omega) rfl hl
  refine lv_iload hx hb d_PG_lineAt_52 (lv_at hl 0 rfl) ?_
  exact W.iret (v := iI (((p_lat (M 20) y a (a + k - 1) : Nat) : Int))) hx hb hr (fun t ht hW => ⟨_, rfl, rfl, ht⟩) (fun q h => by cases h) d_PG_lineAt_54
set_option maxHeartbeats 4000000 in
set_option maxRecDepth 100000 in
/-- PageLayout.isOutside -/
theorem c_isOutside (l : Launch) {D : va_G} {ad : Nat → Nat} {cs : pg_C} {rp : Option Nat} {M : Nat → Nat → Int} (v lo hi : Int) (h1 : zb v) (h2 : zb lo) (h3 : zb hi) : Met l y_PL_isOutside ws_PL_isOutside ({ frames := 0, cells := 0, slots := 0, locals := 0 } : Room) (va_Pc [.int (iI (v)), .int (iI (lo)), .int (iI (hi))] (ro_B D vwCl (pg_tys cs) (pg_w ad cs rp M))) (vp_Si (fun r => r = iI (bz (v < lo ∨ hi < v) inferInstance))) 0 0 (fun _ => False) := by
  refine Met.ofW (cc := b_PL_isOutside) (maxL := 3) (ret := (some .boolean)) (by decide) rfl ?_
  intro p e s m args below meth c s₁ B hml hv
  obtain ⟨rfl, hP, hK⟩ := hv
  have hx := B.exec
  have hb := B.bytes
  have hr := B.returns
  have hts := atoms_spec (ws := ws_PL_isOutside) B.pre
  have hg : ∀ w ∈ gt, w.before _ s = true := fun w h => hts w (List.mem_cons_of_mem _ h)
  have hown : s.vm.findClass R_PL = some m.cls := findClass_of_methodNamed B.named
  have hlocks := B.notSynchronized
  have hl := lv_entry ([.int (iI (v)), .int (iI (lo)), .int (iI (hi))]) (n := 3) (Nat.le_of_ble_eq_true rfl)
  rw [lg_entry_eq]
  generalize (lg_sl ([.int (iI (v)), .int (iI (lo)), .int (iI (hi))]) ++ List.replicate (3 - (lg_sl ([.int (iI (v)), .int (iI (lo)), .int (iI (hi))])).length) Slot.unset).toArray = ls at hl ⊢
  have hl : lv_has ls 3 [(0, .int (iI (v))), (1, .int (iI (lo))), (2, .int (iI (hi)))] := hl
  refine lv_iload_n hx hb d_PL_isOutside_0 rfl (lv_at hl 0 rfl) ?_
  refine lv_iload_n hx hb d_PL_isOutside_1 rfl (lv_at hl 1 rfl) ?_
  refine z_icmp_lt hx hb (tgt := 10) d_PL_isOutside_2 (by decide) h1 h2 (fun c_2 => ?_) (fun c_2 => ?_)
  · refine z_iconst hx hb (z := 1) d_PL_isOutside_10 ?_
    refine lv_goto (tgt := 15) hx hb d_PL_isOutside_11 (by decide) ?_
    exact W.zret (v := iI (1)) hx hb hr (by first | rfl | decide) (fun t ht hW => ⟨_, rfl, by first | (rw [bz_t (by omega)]; done) | (rw [bz_f (by omega)]; done), ht⟩) (fun q h => by cases h) d_PL_isOutside_15
  · refine lv_iload_n hx hb d_PL_isOutside_5 rfl (lv_at hl 0 rfl) ?_
    refine lv_iload_n hx hb d_PL_isOutside_6 rfl (lv_at hl 2 rfl) ?_
    refine z_icmp_le hx hb (tgt := 14) d_PL_isOutside_7 (by decide) h1 h3 (fun c_7 => ?_) (fun c_7 => ?_)
    · refine z_iconst hx hb (z := 0) d_PL_isOutside_14 ?_
      exact W.zret (v := iI (0)) hx hb hr (by first | rfl | decide) (fun t ht hW => ⟨_, rfl, by first | (rw [bz_t (by omega)]; done) | (rw [bz_f (by omega)]; done), ht⟩) (fun q h => by cases h) d_PL_isOutside_15
    · refine z_iconst hx hb (z := 1) d_PL_isOutside_10 ?_
      refine lv_goto (tgt := 15) hx hb d_PL_isOutside_11 (by decide) ?_
      exact W.zret (v := iI (1)) hx hb hr (by first | rfl | decide) (fun t ht hW => ⟨_, rfl, by first | (rw [bz_t (by omega)]; done) | (rw [bz_f (by omega)]; done), ht⟩) (fun q h => by cases h) d_PL_isOutside_15
set_option maxHeartbeats 4000000 in
set_option maxRecDepth 100000 in
/-- PageLayout.count -/
theorem c_count (l : Launch) {D : va_G} {ad : Nat → Nat} {cs : pg_C} {rp : Option Nat} {M : Nat → Nat → Int} (wh : Int) (h1 : zb wh) : Met l y_PL_count ws_PL_count ({ frames := 0, cells := 0, slots := 0, locals := 0 } : Room) (va_Pc [.ref (ad (0)), .int (iI (wh))] (ro_B D vwCl (pg_tys cs) (pg_w ad cs rp M))) (vp_Si (fun r => r = iI (if wh = 0 then M 1 4 else if wh = 1 then M 1 5 else if wh = 2 then M 3 2 else if wh = 3 then M 5 1 else -1))) 0 0 (fun _ => False) := by
  refine Met.ofW (cc := b_PL_count) (maxL := 2) (ret := (some .int)) (by decide) rfl ?_
  intro p e s m args below meth c s₁ B hml hv
  obtain ⟨rfl, hP, hK⟩ := hv
  have hx := B.exec
  have hb := B.bytes
  have hr := B.returns
  have hts := atoms_spec (ws := ws_PL_count) B.pre
  have hg : ∀ w ∈ gt, w.before _ s = true := fun w h => hts w (List.mem_cons_of_mem _ h)
  have hown : s.vm.findClass R_PL = some m.cls := findClass_of_methodNamed B.named
  have hlocks := B.notSynchronized
  have hl := lv_entry ([.ref (ad (0)), .int (iI (wh))]) (n := 2) (Nat.le_of_ble_eq_true rfl)
  rw [lg_entry_eq]
  generalize (lg_sl ([.ref (ad (0)), .int (iI (wh))]) ++ List.replicate (2 - (lg_sl ([.ref (ad (0)), .int (iI (wh))])).length) Slot.unset).toArray = ls at hl ⊢
  have hl : lv_has ls 2 [(0, .ref (ad (0))), (1, .int (iI (wh)))] := hl
  refine lv_iload_n hx hb d_PL_count_0 rfl (lv_at hl 1 rfl) ?_
  rcases (show (wh < 0 ∨ 3 < wh) ∨ wh = 0 ∨ wh = 1 ∨ wh = 2 ∨ wh = 3 by omega) with c_1 | c_1 | c_1 | c_1 | c_1
  · refine z_tabOut hx hb (tgt := 64) d_PL_count_1 h1 c_1 (by decide) ?_
    refine z_iconst hx hb (z := (-1)) d_PL_count_64 ?_
    exact W.iret (v := iI ((-1))) hx hb hr (fun t ht hW => ⟨_, rfl, by repeat' (first | rfl | (exfalso; omega) | split), ht⟩) (fun q h => by cases h) d_PL_count_65
  · refine z_tabIn hx hb (tgt := 32) d_PL_count_1 h1 0 (by omega) (by omega) rfl (by decide) ?_
    refine lv_aload_n hx hb d_PL_count_32 rfl (lv_at hl 0 rfl) ?_
    refine z_get (ci := 0) (C := R_PL) (T := T_PL) (N := 5) (v := .ref (ad (1))) hx hb hg in_PL hown hK hP (0) (by decide) rfl rfl 0 (by decide) (hg _ (List.mem_append_right _ (List.mem_append_right _ (List.mem_append_right _ (List.mem_append_right _ (List.mem_append_left _ (List.mem_of_getElem? (i := 39) rfl))))))) (fun _ h9 => h9) rfl d_PL_count_33 ?_
    refine z_get (ci := 1) (C := R_TX) (T := T_TX) (N := 6) (v := .int (iI (M (1) 4))) hx hb hg in_TX hown hK hP (1) (by decide) rfl rfl 4 (by decide) (hg _ (List.mem_append_right _ (List.mem_append_right _ (List.mem_append_left _ (List.mem_of_getElem? (i := 27) rfl))))) (fun _ h9 => h9) rfl d_PL_count_36 ?_
    exact W.iret (v := iI (M (1) 4)) hx hb hr (fun t ht hW => ⟨_, rfl, by repeat' (first | rfl | (exfalso; omega) | split), ht⟩) (fun q h => by cases h) d_PL_count_39
  · refine z_tabIn hx hb (tgt := 40) d_PL_count_1 h1 1 (by omega) (by omega) rfl (by decide) ?_
    refine lv_aload_n hx hb d_PL_count_40 rfl (lv_at hl 0 rfl) ?_
    refine z_get (ci := 0) (C := R_PL) (T := T_PL) (N := 5) (v := .ref (ad (1))) hx hb hg in_PL hown hK hP (0) (by decide) rfl rfl 0 (by decide) (hg _ (List.mem_append_right _ (List.mem_append_right _ (List.mem_append_right _ (List.mem_append_right _ (List.mem_append_left _ (List.mem_of_getElem? (i := 39) rfl))))))) (fun _ h9 => h9) rfl d_PL_count_41 ?_
    refine z_get (ci := 1) (C := R_TX) (T := T_TX) (N := 6) (v := .int (iI (M (1) 5))) hx hb hg in_TX hown hK hP (1) (by decide) rfl rfl 5 (by decide) (hg _ (List.mem_append_right _ (List.mem_append_right _ (List.mem_append_left _ (List.mem_of_getElem? (i := 31) rfl))))) (fun _ h9 => h9) rfl d_PL_count_44 ?_
    exact W.iret (v := iI (M (1) 5)) hx hb hr (fun t ht hW => ⟨_, rfl, by repeat' (first | rfl | (exfalso; omega) | split), ht⟩) (fun q h => by cases h) d_PL_count_47
  · refine z_tabIn hx hb (tgt := 48) d_PL_count_1 h1 2 (by omega) (by omega) rfl (by decide) ?_
    refine lv_aload_n hx hb d_PL_count_48 rfl (lv_at hl 0 rfl) ?_
    refine z_get (ci := 0) (C := R_PL) (T := T_PL) (N := 5) (v := .ref (ad (3))) hx hb hg in_PL hown hK hP (0) (by decide) rfl rfl 2 (by decide) (hg _ (List.mem_append_right _ (List.mem_append_right _ (List.mem_append_right _ (List.mem_append_right _ (List.mem_append_right _ (List.mem_append_left _ (List.mem_of_getElem? (i := 1) rfl)))))))) (fun _ h9 => h9) rfl d_PL_count_49 ?_
    refine z_get (ci := 3) (C := R_LN) (T := T_LN) (N := 6) (v := .int (iI (M (3) 2))) hx hb hg in_LN hown hK hP (3) (by decide) rfl rfl 2 (by decide) (hg _ (List.mem_append_right _ (List.mem_append_right _ (List.mem_append_right _ (List.mem_append_right _ (List.mem_append_left _ (List.mem_of_getElem? (i := 10) rfl))))))) (fun _ h9 => h9) rfl d_PL_count_52 ?_
    exact W.iret (v := iI (M (3) 2)) hx hb hr (fun t ht hW => ⟨_, rfl, by repeat' (first | rfl | (exfalso; omega) | split), ht⟩) (fun q h => by cases h) d_PL_count_55
  · refine z_tabIn hx hb (tgt := 56) d_PL_count_1 h1 3 (by omega) (by omega) rfl (by decide) ?_
    refine lv_aload_n hx hb d_PL_count_56 rfl (lv_at hl 0 rfl) ?_
    refine z_get (ci := 0) (C := R_PL) (T := T_PL) (N := 5) (v := .ref (ad (5))) hx hb hg in_PL hown hK hP (0) (by decide) rfl rfl 3 (by decide) (hg _ (List.mem_append_right _ (List.mem_append_right _ (List.mem_append_right _ (List.mem_append_right _ (List.mem_append_right _ (List.mem_append_left _ (List.mem_of_getElem? (i := 2) rfl)))))))) (fun _ h9 => h9) rfl d_PL_count_57 ?_
    refine z_get (ci := 5) (C := R_PG) (T := T_PG) (N := 5) (v := .int (iI (M (5) 1))) hx hb hg in_PG hown hK hP (5) (by decide) rfl rfl 1 (by decide) (hg _ (List.mem_append_right _ (List.mem_append_right _ (List.mem_append_right _ (List.mem_append_right _ (List.mem_append_left _ (List.mem_of_getElem? (i := 30) rfl))))))) (fun _ h9 => h9) rfl d_PL_count_60 ?_
    exact W.iret (v := iI (M (5) 1)) hx hb hr (fun t ht hW => ⟨_, rfl, by repeat' (first | rfl | (exfalso; omega) | split), ht⟩) (fun q h => by cases h) d_PL_count_63
