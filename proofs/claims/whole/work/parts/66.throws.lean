set_option maxHeartbeats 4000000 in
set_option maxRecDepth 100000 in
/-- paragraph: it throws z_ISE -/
theorem t_paragraph_I (l : Launch) (hfl : l.flags = flags0) {D : va_G} {ad : Nat → Nat} {cs : pg_C} {rp : Option Nat} {M : Nat → Nat → Int} (np : Nat) (hnp : M 1 4 = ((np : Nat) : Int)) (h : 30 ≤ np) (hn6 : np ≤ 1000) : MetT l y_PL_paragraph (.code y_PL_paragraph b_PL_paragraph 1 (some .int) :: gx) ({ frames := 6, cells := 1, slots := 6, locals := 82 } : Room) (va_Pc [.ref (ad (0))] (rt_B D vwCl (pg_tys cs) (pg_w ad cs rp M))) (q_thr z_ISE) 1 6 := by
  refine MetT.ofW (cc := b_PL_paragraph) (maxL := 1) (ret := (some .int)) (by decide) rfl ?_
  intro p e s m args below meth c s₁ B hml hno hv
  obtain ⟨rfl, ⟨hP, hK⟩, hT⟩ := hv
  have hx := B.exec
  have hb := B.bytes
  have hts := atoms_spec (ws := (.code y_PL_paragraph b_PL_paragraph 1 (some .int) :: gx)) B.pre
  have hgx : ∀ w ∈ gx, w.before _ s = true := fun w h => hts w (List.mem_cons_of_mem _ h)
  have hg : ∀ w ∈ gt, w.before _ s = true := fun w h => hgx w (gx_gt h)
  have htx : ∀ w ∈ tx, w.before _ s = true := fun w h => hgx w (List.mem_append_right _ h)
  have hown : s.vm.findClass R_PL = some m.cls := findClass_of_methodNamed B.named
  have hlocks := B.notSynchronized
  have hl := lv_entry ([.ref (ad (0))]) (n := 1) (Nat.le_of_ble_eq_true rfl)
  rw [lg_entry_eq]
  generalize (lg_sl ([.ref (ad (0))]) ++ List.replicate (1 - (lg_sl ([.ref (ad (0))])).length) Slot.unset).toArray = ls at hl ⊢
  have hl : lv_has ls 1 [(0, .ref (ad (0)))] := hl
  refine lv_aload_n hx hb d_PL_paragraph_0 rfl (lv_at hl 0 rfl) ?_
  refine z_get (ci := 0) (C := R_PL) (T := T_PL) (N := 5) (v := .ref (ad (1))) hx hb hg in_PL hown hK hP (0) (by decide) rfl rfl 0 (by decide) (hg _ (List.mem_append_right _ (List.mem_append_right _ (List.mem_append_right _ (List.mem_append_right _ (List.mem_append_left _ (List.mem_of_getElem? (i := 39) rfl))))))) (fun _ h9 => h9) rfl d_PL_paragraph_1 ?_
  refine z_get (ci := 1) (C := R_TX) (T := T_TX) (N := 6) (v := .int (iI (M (1) 4))) hx hb hg in_TX hown hK hP (1) (by decide) rfl rfl 4 (by decide) (hg _ (List.mem_append_right _ (List.mem_append_right _ (List.mem_append_left _ (List.mem_of_getElem? (i := 27) rfl))))) (fun _ h9 => h9) rfl d_PL_paragraph_4 ?_
  refine z_bipush hx hb (z := 30) d_PL_paragraph_7 (by decide) ?_
  refine z_icmp_lt hx hb (tgt := 22) d_PL_paragraph_9 (by decide) ⟨by omega, by omega⟩ ⟨by decide, by decide⟩ (fun c_9 => ?_) (fun c_9 => ?_)
  · exfalso; omega
  · exact z_thI hx hb (hml.trans hl.1.symm) hno hfl hown htx hT (istr := 57) (by decide) d_PL_paragraph_12 d_PL_paragraph_15 d_PL_paragraph_16 d_PL_paragraph_18 d_PL_paragraph_21 hlocks ⟨by decide, by decide, by decide, by decide⟩
set_option maxHeartbeats 4000000 in
set_option maxRecDepth 100000 in
/-- sign: it throws z_NSE -/
theorem t_sign_N (l : Launch) (hfl : l.flags = flags0) {D : va_G} {ad : Nat → Nat} {cs : pg_C} {rp : Option Nat} {M : Nat → Nat → Int} (np n : Nat) (k wd h : Int) (hk : zb k) (hw : zb wd) (hh : zb h) (hnp : M 1 4 = ((np : Nat) : Int)) (hn : np ≤ 30) (hs : M 1 5 = ((n : Nat) : Int)) (hn6 : n ≤ 600) (h0 : np = 0) : MetT l y_PL_sign (.code y_PL_sign b_PL_sign 4 (some .int) :: gx) ({ frames := 6, cells := 1, slots := 6, locals := 82 } : Room) (va_Pc [.ref (ad (0)), .int (iI (k)), .int (iI (wd)), .int (iI (h))] (rt_B D vwCl (pg_tys cs) (pg_w ad cs rp M))) (q_thr z_NSE) 1 6 := by
  refine MetT.ofW (cc := b_PL_sign) (maxL := 4) (ret := (some .int)) (by decide) rfl ?_
  intro p e s m args below meth c s₁ B hml hno hv
  obtain ⟨rfl, ⟨hP, hK⟩, hT⟩ := hv
  have hx := B.exec
  have hb := B.bytes
  have hts := atoms_spec (ws := (.code y_PL_sign b_PL_sign 4 (some .int) :: gx)) B.pre
  have hgx : ∀ w ∈ gx, w.before _ s = true := fun w h => hts w (List.mem_cons_of_mem _ h)
  have hg : ∀ w ∈ gt, w.before _ s = true := fun w h => hgx w (gx_gt h)
  have htx : ∀ w ∈ tx, w.before _ s = true := fun w h => hgx w (List.mem_append_right _ h)
  have hown : s.vm.findClass R_PL = some m.cls := findClass_of_methodNamed B.named
  have hlocks := B.notSynchronized
  have hl := lv_entry ([.ref (ad (0)), .int (iI (k)), .int (iI (wd)), .int (iI (h))]) (n := 4) (Nat.le_of_ble_eq_true rfl)
  rw [lg_entry_eq]
  generalize (lg_sl ([.ref (ad (0)), .int (iI (k)), .int (iI (wd)), .int (iI (h))]) ++ List.replicate (4 - (lg_sl ([.ref (ad (0)), .int (iI (k)), .int (iI (wd)), .int (iI (h))])).length) Slot.unset).toArray = ls at hl ⊢
  have hl : lv_has ls 4 [(0, .ref (ad (0))), (1, .int (iI (k))), (2, .int (iI (wd))), (3, .int (iI (h)))] := hl
  obtain ⟨hk1, hk2⟩ := hk
  obtain ⟨hw1, hw2⟩ := hw
  obtain ⟨hh1, hh2⟩ := hh
  refine lv_aload_n hx hb d_PL_sign_0 rfl (lv_at hl 0 rfl) ?_
  refine z_get (ci := 0) (C := R_PL) (T := T_PL) (N := 5) (v := .ref (ad (1))) hx hb hg in_PL hown hK hP (0) (by decide) rfl rfl 0 (by decide) (hg _ (List.mem_append_right _ (List.mem_append_right _ (List.mem_append_right _ (List.mem_append_right _ (List.mem_append_left _ (List.mem_of_getElem? (i := 39) rfl))))))) (fun _ h9 => h9) rfl d_PL_sign_1 ?_
  refine z_get (ci := 1) (C := R_TX) (T := T_TX) (N := 6) (v := .int (iI (M (1) 4))) hx hb hg in_TX hown hK hP (1) (by decide) rfl rfl 4 (by decide) (hg _ (List.mem_append_right _ (List.mem_append_right _ (List.mem_append_left _ (List.mem_of_getElem? (i := 27) rfl))))) (fun _ h9 => h9) rfl d_PL_sign_4 ?_
  refine z_iconst hx hb (z := 1) d_PL_sign_7 ?_
  refine z_icmp_ge hx hb (tgt := 21) d_PL_sign_8 (by decide) ⟨by omega, by omega⟩ ⟨by decide, by decide⟩ (fun c_8 => ?_) (fun c_8 => ?_)
  · refine lv_iload_n hx hb d_PL_sign_21 rfl (lv_at hl 1 rfl) ?_
    refine z_iconst hx hb (z := 0) d_PL_sign_22 ?_
    refine z_bipush hx hb (z := 6) d_PL_sign_23 (by decide) ?_
    refine ro_S (As := [.int (iI (k)), .int (iI (0)), .int (iI (6))]) (rest := []) (z := bz (k < 0 ∨ 6 < k) inferInstance) ⟨hx, hb, hml, hown, hg⟩ (c_isOutside l (k) (0) (6) ⟨by omega, by omega⟩ ⟨by decide, by decide⟩ ⟨by decide, by decide⟩) (cwS 3 hg (gt_S (List.mem_append_right _ (List.mem_append_right _ (List.mem_append_right _ (List.mem_append_right _ (List.mem_append_right _ (List.mem_append_right _ (List.mem_append_right _ (List.mem_append_right _ (List.mem_append_right _ (List.mem_append_right _ (List.mem_append_right _ (List.mem_append_left _ (List.mem_of_getElem? (i := 0) rfl))))))))))))) (List.mem_append_right _ (List.mem_append_right _ (List.mem_append_right _ (List.mem_append_right _ (List.mem_append_right _ (List.mem_append_right _ (List.mem_append_right _ (List.mem_append_right _ (List.mem_append_right _ (List.mem_append_right _ (List.mem_append_right _ (List.mem_append_left _ (List.mem_of_getElem? (i := 1) rfl))))))))))))) (List.mem_append_right _ (List.mem_append_left _ (List.mem_of_getElem? (i := 2) rfl))) (List.mem_append_right _ (List.mem_append_right _ (List.mem_append_right _ (List.mem_append_right _ (List.mem_append_right _ (List.mem_append_right _ (List.mem_append_right _ (List.mem_append_right _ (List.mem_append_right _ (List.mem_append_right _ (List.mem_append_right _ (List.mem_append_left _ (List.mem_of_getElem? (i := 2) rfl)))))))))))))) rfl rfl rfl (by decide +kernel) ⟨Nat.le_of_ble_eq_true rfl, Nat.le_of_ble_eq_true rfl⟩) hK hP rfl hl.1 rfl (Nat.le_of_ble_eq_true rfl) d_PL_sign_25 ⟨Nat.zero_le _, Nat.zero_le _⟩ ?_
    refine z_ifb_ne hx hb (tgt := 53) d_PL_sign_28 (by decide) (fun c_28 => ?_) (fun c_28 => ?_)
    · exfalso; omega
    · refine lv_iload_n hx hb d_PL_sign_31 rfl (lv_at hl 2 rfl) ?_
      refine z_iconst hx hb (z := 0) d_PL_sign_32 ?_
      refine z_sipush hx hb (z := 4000) d_PL_sign_33 (by decide) ?_
      refine ro_S (As := [.int (iI (wd)), .int (iI (0)), .int (iI (4000))]) (rest := []) (z := bz (wd < 0 ∨ 4000 < wd) inferInstance) ⟨hx, hb, hml, hown, hg⟩ (c_isOutside l (wd) (0) (4000) ⟨by omega, by omega⟩ ⟨by decide, by decide⟩ ⟨by decide, by decide⟩) (cwS 3 hg (gt_S (List.mem_append_right _ (List.mem_append_right _ (List.mem_append_right _ (List.mem_append_right _ (List.mem_append_right _ (List.mem_append_right _ (List.mem_append_right _ (List.mem_append_right _ (List.mem_append_right _ (List.mem_append_right _ (List.mem_append_right _ (List.mem_append_left _ (List.mem_of_getElem? (i := 0) rfl))))))))))))) (List.mem_append_right _ (List.mem_append_right _ (List.mem_append_right _ (List.mem_append_right _ (List.mem_append_right _ (List.mem_append_right _ (List.mem_append_right _ (List.mem_append_right _ (List.mem_append_right _ (List.mem_append_right _ (List.mem_append_right _ (List.mem_append_left _ (List.mem_of_getElem? (i := 1) rfl))))))))))))) (List.mem_append_right _ (List.mem_append_left _ (List.mem_of_getElem? (i := 2) rfl))) (List.mem_append_right _ (List.mem_append_right _ (List.mem_append_right _ (List.mem_append_right _ (List.mem_append_right _ (List.mem_append_right _ (List.mem_append_right _ (List.mem_append_right _ (List.mem_append_right _ (List.mem_append_right _ (List.mem_append_right _ (List.mem_append_left _ (List.mem_of_getElem? (i := 2) rfl)))))))))))))) rfl rfl rfl (by decide +kernel) ⟨Nat.le_of_ble_eq_true rfl, Nat.le_of_ble_eq_true rfl⟩) hK hP rfl hl.1 rfl (Nat.le_of_ble_eq_true rfl) d_PL_sign_36 ⟨Nat.zero_le _, Nat.zero_le _⟩ ?_
      refine z_ifb_ne hx hb (tgt := 53) d_PL_sign_39 (by decide) (fun c_39 => ?_) (fun c_39 => ?_)
      · exfalso; omega
      · refine lv_iload_n hx hb d_PL_sign_42 rfl (lv_at hl 3 rfl) ?_
        refine z_iconst hx hb (z := 0) d_PL_sign_43 ?_
        refine z_sipush hx hb (z := 2000) d_PL_sign_44 (by decide) ?_
        refine ro_S (As := [.int (iI (h)), .int (iI (0)), .int (iI (2000))]) (rest := []) (z := bz (h < 0 ∨ 2000 < h) inferInstance) ⟨hx, hb, hml, hown, hg⟩ (c_isOutside l (h) (0) (2000) ⟨by omega, by omega⟩ ⟨by decide, by decide⟩ ⟨by decide, by decide⟩) (cwS 3 hg (gt_S (List.mem_append_right _ (List.mem_append_right _ (List.mem_append_right _ (List.mem_append_right _ (List.mem_append_right _ (List.mem_append_right _ (List.mem_append_right _ (List.mem_append_right _ (List.mem_append_right _ (List.mem_append_right _ (List.mem_append_right _ (List.mem_append_left _ (List.mem_of_getElem? (i := 0) rfl))))))))))))) (List.mem_append_right _ (List.mem_append_right _ (List.mem_append_right _ (List.mem_append_right _ (List.mem_append_right _ (List.mem_append_right _ (List.mem_append_right _ (List.mem_append_right _ (List.mem_append_right _ (List.mem_append_right _ (List.mem_append_right _ (List.mem_append_left _ (List.mem_of_getElem? (i := 1) rfl))))))))))))) (List.mem_append_right _ (List.mem_append_left _ (List.mem_of_getElem? (i := 2) rfl))) (List.mem_append_right _ (List.mem_append_right _ (List.mem_append_right _ (List.mem_append_right _ (List.mem_append_right _ (List.mem_append_right _ (List.mem_append_right _ (List.mem_append_right _ (List.mem_append_right _ (List.mem_append_right _ (List.mem_append_right _ (List.mem_append_left _ (List.mem_of_getElem? (i := 2) rfl)))))))))))))) rfl rfl rfl (by decide +kernel) ⟨Nat.le_of_ble_eq_true rfl, Nat.le_of_ble_eq_true rfl⟩) hK hP rfl hl.1 rfl (Nat.le_of_ble_eq_true rfl) d_PL_sign_47 ⟨Nat.zero_le _, Nat.zero_le _⟩ ?_
        refine z_ifb_eq hx hb (tgt := 63) d_PL_sign_50 (by decide) (fun c_50 => ?_) (fun c_50 => ?_)
        · refine lv_aload_n hx hb d_PL_sign_63 rfl (lv_at hl 0 rfl) ?_
          refine z_get (ci := 0) (C := R_PL) (T := T_PL) (N := 5) (v := .ref (ad (1))) hx hb hg in_PL hown hK hP (0) (by decide) rfl rfl 0 (by decide) (hg _ (List.mem_append_right _ (List.mem_append_right _ (List.mem_append_right _ (List.mem_append_right _ (List.mem_append_left _ (List.mem_of_getElem? (i := 39) rfl))))))) (fun _ h9 => h9) rfl d_PL_sign_64 ?_
          refine z_get (ci := 1) (C := R_TX) (T := T_TX) (N := 6) (v := .int (iI (M (1) 5))) hx hb hg in_TX hown hK hP (1) (by decide) rfl rfl 5 (by decide) (hg _ (List.mem_append_right _ (List.mem_append_right _ (List.mem_append_left _ (List.mem_of_getElem? (i := 31) rfl))))) (fun _ h9 => h9) rfl d_PL_sign_67 ?_
          refine z_sipush hx hb (z := 600) d_PL_sign_70 (by decide) ?_
          refine z_icmp_lt hx hb (tgt := 86) d_PL_sign_73 (by decide) ⟨by omega, by omega⟩ ⟨by decide, by decide⟩ (fun c_73 => ?_) (fun c_73 => ?_)
          · exfalso; omega
          · exfalso; omega
        · exfalso; omega
  · exact z_thN hx hb (hml.trans hl.1.symm) hno hfl hown htx hT (istr := 68) (by decide) d_PL_sign_11 d_PL_sign_14 d_PL_sign_15 d_PL_sign_17 d_PL_sign_20 hlocks ⟨by decide, by decide, by decide, by decide⟩
set_option maxHeartbeats 4000000 in
set_option maxRecDepth 100000 in
/-- sign: it throws z_IAE -/
theorem t_sign_A (l : Launch) (hfl : l.flags = flags0) {D : va_G} {ad : Nat → Nat} {cs : pg_C} {rp : Option Nat} {M : Nat → Nat → Int} (np n : Nat) (k wd h : Int) (hk : zb k) (hw : zb wd) (hh : zb h) (hnp : M 1 4 = ((np : Nat) : Int)) (hn : np ≤ 30) (hs : M 1 5 = ((n : Nat) : Int)) (hn6 : n ≤ 600) (h0 : 1 ≤ np) (h1 : ¬ (inn k 0 6 ∧ inn wd 0 4000 ∧ inn h 0 2000)) : MetT l y_PL_sign (.code y_PL_sign b_PL_sign 4 (some .int) :: gx) ({ frames := 6, cells := 1, slots := 6, locals := 82 } : Room) (va_Pc [.ref (ad (0)), .int (iI (k)), .int (iI (wd)), .int (iI (h))] (rt_B D vwCl (pg_tys cs) (pg_w ad cs rp M))) (q_thr z_IAE) 1 6 := by
  refine MetT.ofW (cc := b_PL_sign) (maxL := 4) (ret := (some .int)) (by decide) rfl ?_
  intro p e s m args below meth c s₁ B hml hno hv
  obtain ⟨rfl, ⟨hP, hK⟩, hT⟩ := hv
  have hx := B.exec
  have hb := B.bytes
  have hts := atoms_spec (ws := (.code y_PL_sign b_PL_sign 4 (some .int) :: gx)) B.pre
  have hgx : ∀ w ∈ gx, w.before _ s = true := fun w h => hts w (List.mem_cons_of_mem _ h)
  have hg : ∀ w ∈ gt, w.before _ s = true := fun w h => hgx w (gx_gt h)
  have htx : ∀ w ∈ tx, w.before _ s = true := fun w h => hgx w (List.mem_append_right _ h)
  have hown : s.vm.findClass R_PL = some m.cls := findClass_of_methodNamed B.named
  have hlocks := B.notSynchronized
  have hl := lv_entry ([.ref (ad (0)), .int (iI (k)), .int (iI (wd)), .int (iI (h))]) (n := 4) (Nat.le_of_ble_eq_true rfl)
  rw [lg_entry_eq]
  generalize (lg_sl ([.ref (ad (0)), .int (iI (k)), .int (iI (wd)), .int (iI (h))]) ++ List.replicate (4 - (lg_sl ([.ref (ad (0)), .int (iI (k)), .int (iI (wd)), .int (iI (h))])).length) Slot.unset).toArray = ls at hl ⊢
  have hl : lv_has ls 4 [(0, .ref (ad (0))), (1, .int (iI (k))), (2, .int (iI (wd))), (3, .int (iI (h)))] := hl
  obtain ⟨hk1, hk2⟩ := hk
  obtain ⟨hw1, hw2⟩ := hw
  obtain ⟨hh1, hh2⟩ := hh
  refine lv_aload_n hx hb d_PL_sign_0 rfl (lv_at hl 0 rfl) ?_
  refine z_get (ci := 0) (C := R_PL) (T := T_PL) (N := 5) (v := .ref (ad (1))) hx hb hg in_PL hown hK hP (0) (by decide) rfl rfl 0 (by decide) (hg _ (List.mem_append_right _ (List.mem_append_right _ (List.mem_append_right _ (List.mem_append_right _ (List.mem_append_left _ (List.mem_of_getElem? (i := 39) rfl))))))) (fun _ h9 => h9) rfl d_PL_sign_1 ?_
  refine z_get (ci := 1) (C := R_TX) (T := T_TX) (N := 6) (v := .int (iI (M (1) 4))) hx hb hg in_TX hown hK hP (1) (by decide) rfl rfl 4 (by decide) (hg _ (List.mem_append_right _ (List.mem_append_right _ (List.mem_append_left _ (List.mem_of_getElem? (i := 27) rfl))))) (fun _ h9 => h9) rfl d_PL_sign_4 ?_
  refine z_iconst hx hb (z := 1) d_PL_sign_7 ?_
  refine z_icmp_ge hx hb (tgt := 21) d_PL_sign_8 (by decide) ⟨by omega, by omega⟩ ⟨by decide, by decide⟩ (fun c_8 => ?_) (fun c_8 => ?_)
  · refine lv_iload_n hx hb d_PL_sign_21 rfl (lv_at hl 1 rfl) ?_
    refine z_iconst hx hb (z := 0) d_PL_sign_22 ?_
    refine z_bipush hx hb (z := 6) d_PL_sign_23 (by decide) ?_
    refine ro_S (As := [.int (iI (k)), .int (iI (0)), .int (iI (6))]) (rest := []) (z := bz (k < 0 ∨ 6 < k) inferInstance) ⟨hx, hb, hml, hown, hg⟩ (c_isOutside l (k) (0) (6) ⟨by omega, by omega⟩ ⟨by decide, by decide⟩ ⟨by decide, by decide⟩) (cwS 3 hg (gt_S (List.mem_append_right _ (List.mem_append_right _ (List.mem_append_right _ (List.mem_append_right _ (List.mem_append_right _ (List.mem_append_right _ (List.mem_append_right _ (List.mem_append_right _ (List.mem_append_right _ (List.mem_append_right _ (List.mem_append_right _ (List.mem_append_left _ (List.mem_of_getElem? (i := 0) rfl))))))))))))) (List.mem_append_right _ (List.mem_append_right _ (List.mem_append_right _ (List.mem_append_right _ (List.mem_append_right _ (List.mem_append_right _ (List.mem_append_right _ (List.mem_append_right _ (List.mem_append_right _ (List.mem_append_right _ (List.mem_append_right _ (List.mem_append_left _ (List.mem_of_getElem? (i := 1) rfl))))))))))))) (List.mem_append_right _ (List.mem_append_left _ (List.mem_of_getElem? (i := 2) rfl))) (List.mem_append_right _ (List.mem_append_right _ (List.mem_append_right _ (List.mem_append_right _ (List.mem_append_right _ (List.mem_append_right _ (List.mem_append_right _ (List.mem_append_right _ (List.mem_append_right _ (List.mem_append_right _ (List.mem_append_right _ (List.mem_append_left _ (List.mem_of_getElem? (i := 2) rfl)))))))))))))) rfl rfl rfl (by decide +kernel) ⟨Nat.le_of_ble_eq_true rfl, Nat.le_of_ble_eq_true rfl⟩) hK hP rfl hl.1 rfl (Nat.le_of_ble_eq_true rfl) d_PL_sign_25 ⟨Nat.zero_le _, Nat.zero_le _⟩ ?_
    refine z_ifb_ne hx hb (tgt := 53) d_PL_sign_28 (by decide) (fun c_28 => ?_) (fun c_28 => ?_)
    · exact z_thA hx hb (hml.trans hl.1.symm) hno hfl hown htx hT (istr := 77) (by decide) d_PL_sign_53 d_PL_sign_56 d_PL_sign_57 d_PL_sign_59 d_PL_sign_62 hlocks ⟨by decide, by decide, by decide, by decide⟩
    · refine lv_iload_n hx hb d_PL_sign_31 rfl (lv_at hl 2 rfl) ?_
      refine z_iconst hx hb (z := 0) d_PL_sign_32 ?_
      refine z_sipush hx hb (z := 4000) d_PL_sign_33 (by decide) ?_
      refine ro_S (As := [.int (iI (wd)), .int (iI (0)), .int (iI (4000))]) (rest := []) (z := bz (wd < 0 ∨ 4000 < wd) inferInstance) ⟨hx, hb, hml, hown, hg⟩ (c_isOutside l (wd) (0) (4000) ⟨by omega, by omega⟩ ⟨by decide, by decide⟩ ⟨by decide, by decide⟩) (cwS 3 hg (gt_S (List.mem_append_right _ (List.mem_append_right _ (List.mem_append_right _ (List.mem_append_right _ (List.mem_append_right _ (List.mem_append_right _ (List.mem_append_right _ (List.mem_append_right _ (List.mem_append_right _ (List.mem_append_right _ (List.mem_append_right _ (List.mem_append_left _ (List.mem_of_getElem? (i := 0) rfl))))))))))))) (List.mem_append_right _ (List.mem_append_right _ (List.mem_append_right _ (List.mem_append_right _ (List.mem_append_right _ (List.mem_append_right _ (List.mem_append_right _ (List.mem_append_right _ (List.mem_append_right _ (List.mem_append_right _ (List.mem_append_right _ (List.mem_append_left _ (List.mem_of_getElem? (i := 1) rfl))))))))))))) (List.mem_append_right _ (List.mem_append_left _ (List.mem_of_getElem? (i := 2) rfl))) (List.mem_append_right _ (List.mem_append_right _ (List.mem_append_right _ (List.mem_append_right _ (List.mem_append_right _ (List.mem_append_right _ (List.mem_append_right _ (List.mem_append_right _ (List.mem_append_right _ (List.mem_append_right _ (List.mem_append_right _ (List.mem_append_left _ (List.mem_of_getElem? (i := 2) rfl)))))))))))))) rfl rfl rfl (by decide +kernel) ⟨Nat.le_of_ble_eq_true rfl, Nat.le_of_ble_eq_true rfl⟩) hK hP rfl hl.1 rfl (Nat.le_of_ble_eq_true rfl) d_PL_sign_36 ⟨Nat.zero_le _, Nat.zero_le _⟩ ?_
      refine z_ifb_ne hx hb (tgt := 53) d_PL_sign_39 (by decide) (fun c_39 => ?_) (fun c_39 => ?_)
      · exact z_thA hx hb (hml.trans hl.1.symm) hno hfl hown htx hT (istr := 77) (by decide) d_PL_sign_53 d_PL_sign_56 d_PL_sign_57 d_PL_sign_59 d_PL_sign_62 hlocks ⟨by decide, by decide, by decide, by decide⟩
      · refine lv_iload_n hx hb d_PL_sign_42 rfl (lv_at hl 3 rfl) ?_
        refine z_iconst hx hb (z := 0) d_PL_sign_43 ?_
        refine z_sipush hx hb (z := 2000) d_PL_sign_44 (by decide) ?_
        refine ro_S (As := [.int (iI (h)), .int (iI (0)), .int (iI (2000))]) (rest := []) (z := bz (h < 0 ∨ 2000 < h) inferInstance) ⟨hx, hb, hml, hown, hg⟩ (c_isOutside l (h) (0) (2000) ⟨by omega, by omega⟩ ⟨by decide, by decide⟩ ⟨by decide, by decide⟩) (cwS 3 hg (gt_S (List.mem_append_right _ (List.mem_append_right _ (List.mem_append_right _ (List.mem_append_right _ (List.mem_append_right _ (List.mem_append_right _ (List.mem_append_right _ (List.mem_append_right _ (List.mem_append_right _ (List.mem_append_right _ (List.mem_append_right _ (List.mem_append_left _ (List.mem_of_getElem? (i := 0) rfl))))))))))))) (List.mem_append_right _ (List.mem_append_right _ (List.mem_append_right _ (List.mem_append_right _ (List.mem_append_right _ (List.mem_append_right _ (List.mem_append_right _ (List.mem_append_right _ (List.mem_append_right _ (List.mem_append_right _ (List.mem_append_right _ (List.mem_append_left _ (List.mem_of_getElem? (i := 1) rfl))))))))))))) (List.mem_append_right _ (List.mem_append_left _ (List.mem_of_getElem? (i := 2) rfl))) (List.mem_append_right _ (List.mem_append_right _ (List.mem_append_right _ (List.mem_append_right _ (List.mem_append_right _ (List.mem_append_right _ (List.mem_append_right _ (List.mem_append_right _ (List.mem_append_right _ (List.mem_append_right _ (List.mem_append_right _ (List.mem_append_left _ (List.mem_of_getElem? (i := 2) rfl)))))))))))))) rfl rfl rfl (by decide +kernel) ⟨Nat.le_of_ble_eq_true rfl, Nat.le_of_ble_eq_true rfl⟩) hK hP rfl hl.1 rfl (Nat.le_of_ble_eq_true rfl) d_PL_sign_47 ⟨Nat.zero_le _, Nat.zero_le _⟩ ?_
        refine z_ifb_eq hx hb (tgt := 63) d_PL_sign_50 (by decide) (fun c_50 => ?_) (fun c_50 => ?_)
        · refine lv_aload_n hx hb d_PL_sign_63 rfl (lv_at hl 0 rfl) ?_
          refine z_get (ci := 0) (C := R_PL) (T := T_PL) (N := 5) (v := .ref (ad (1))) hx hb hg in_PL hown hK hP (0) (by decide) rfl rfl 0 (by decide) (hg _ (List.mem_append_right _ (List.mem_append_right _ (List.mem_append_right _ (List.mem_append_right _ (List.mem_append_left _ (List.mem_of_getElem? (i := 39) rfl))))))) (fun _ h9 => h9) rfl d_PL_sign_64 ?_
          refine z_get (ci := 1) (C := R_TX) (T := T_TX) (N := 6) (v := .int (iI (M (1) 5))) hx hb hg in_TX hown hK hP (1) (by decide) rfl rfl 5 (by decide) (hg _ (List.mem_append_right _ (List.mem_append_right _ (List.mem_append_left _ (List.mem_of_getElem? (i := 31) rfl))))) (fun _ h9 => h9) rfl d_PL_sign_67 ?_
          refine z_sipush hx hb (z := 600) d_PL_sign_70 (by decide) ?_
          refine z_icmp_lt hx hb (tgt := 86) d_PL_sign_73 (by decide) ⟨by omega, by omega⟩ ⟨by decide, by decide⟩ (fun c_73 => ?_) (fun c_73 => ?_)
          · exfalso; unfold inn at h1; omega
          · exfalso; unfold inn at h1; omega
        · exact z_thA hx hb (hml.trans hl.1.symm) hno hfl hown htx hT (istr := 77) (by decide) d_PL_sign_53 d_PL_sign_56 d_PL_sign_57 d_PL_sign_59 d_PL_sign_62 hlocks ⟨by decide, by decide, by decide, by decide⟩
  · exfalso; unfold inn at h1; omega
set_option maxHeartbeats 4000000 in
set_option maxRecDepth 100000 in
/-- sign: it throws z_ISE -/
theorem t_sign_I (l : Launch) (hfl : l.flags = flags0) {D : va_G} {ad : Nat → Nat} {cs : pg_C} {rp : Option Nat} {M : Nat → Nat → Int} (np n : Nat) (k wd h : Int) (hk : zb k) (hw : zb wd) (hh : zb h) (hnp : M 1 4 = ((np : Nat) : Int)) (hn : np ≤ 30) (hs : M 1 5 = ((n : Nat) : Int)) (hn6 : n ≤ 600) (h0 : 1 ≤ np) (h1 : inn k 0 6 ∧ inn wd 0 4000 ∧ inn h 0 2000) (h2 : n = 600) : MetT l y_PL_sign (.code y_PL_sign b_PL_sign 4 (some .int) :: gx) ({ frames := 6, cells := 1, slots := 6, locals := 82 } : Room) (va_Pc [.ref (ad (0)), .int (iI (k)), .int (iI (wd)), .int (iI (h))] (rt_B D vwCl (pg_tys cs) (pg_w ad cs rp M))) (q_thr z_ISE) 1 6 := by
  refine MetT.ofW (cc := b_PL_sign) (maxL := 4) (ret := (some .int)) (by decide) rfl ?_
  intro p e s m args below meth c s₁ B hml hno hv
  obtain ⟨rfl, ⟨hP, hK⟩, hT⟩ := hv
  have hx := B.exec
  have hb := B.bytes
  have hts := atoms_spec (ws := (.code y_PL_sign b_PL_sign 4 (some .int) :: gx)) B.pre
  have hgx : ∀ w ∈ gx, w.before _ s = true := fun w h => hts w (List.mem_cons_of_mem _ h)
  have hg : ∀ w ∈ gt, w.before _ s = true := fun w h => hgx w (gx_gt h)
  have htx : ∀ w ∈ tx, w.before _ s = true := fun w h => hgx w (List.mem_append_right _ h)
  have hown : s.vm.findClass R_PL = some m.cls := findClass_of_methodNamed B.named
  have hlocks := B.notSynchronized
  have hl := lv_entry ([.ref (ad (0)), .int (iI (k)), .int (iI (wd)), .int (iI (h))]) (n := 4) (Nat.le_of_ble_eq_true rfl)
  rw [lg_entry_eq]
  generalize (lg_sl ([.ref (ad (0)), .int (iI (k)), .int (iI (wd)), .int (iI (h))]) ++ List.replicate (4 - (lg_sl ([.ref (ad (0)), .int (iI (k)), .int (iI (wd)), .int (iI (h))])).length) Slot.unset).toArray = ls at hl ⊢
  have hl : lv_has ls 4 [(0, .ref (ad (0))), (1, .int (iI (k))), (2, .int (iI (wd))), (3, .int (iI (h)))] := hl
  obtain ⟨hk1, hk2⟩ := hk
  obtain ⟨hw1, hw2⟩ := hw
  obtain ⟨hh1, hh2⟩ := hh
  refine lv_aload_n hx hb d_PL_sign_0 rfl (lv_at hl 0 rfl) ?_
  refine z_get (ci := 0) (C := R_PL) (T := T_PL) (N := 5) (v := .ref (ad (1))) hx hb hg in_PL hown hK hP (0) (by decide) rfl rfl 0 (by decide) (hg _ (List.mem_append_right _ (List.mem_append_right _ (List.mem_append_right _ (List.mem_append_right _ (List.mem_append_left _ (List.mem_of_getElem? (i := 39) rfl))))))) (fun _ h9 => h9) rfl d_PL_sign_1 ?_
  refine z_get (ci := 1) (C := R_TX) (T := T_TX) (N := 6) (v := .int (iI (M (1) 4))) hx hb hg in_TX hown hK hP (1) (by decide) rfl rfl 4 (by decide) (hg _ (List.mem_append_right _ (List.mem_append_right _ (List.mem_append_left _ (List.mem_of_getElem? (i := 27) rfl))))) (fun _ h9 => h9) rfl d_PL_sign_4 ?_
  refine z_iconst hx hb (z := 1) d_PL_sign_7 ?_
  refine z_icmp_ge hx hb (tgt := 21) d_PL_sign_8 (by decide) ⟨by omega, by omega⟩ ⟨by decide, by decide⟩ (fun c_8 => ?_) (fun c_8 => ?_)
  · refine lv_iload_n hx hb d_PL_sign_21 rfl (lv_at hl 1 rfl) ?_
    refine z_iconst hx hb (z := 0) d_PL_sign_22 ?_
    refine z_bipush hx hb (z := 6) d_PL_sign_23 (by decide) ?_
    refine ro_S (As := [.int (iI (k)), .int (iI (0)), .int (iI (6))]) (rest := []) (z := bz (k < 0 ∨ 6 < k) inferInstance) ⟨hx, hb, hml, hown, hg⟩ (c_isOutside l (k) (0) (6) ⟨by omega, by omega⟩ ⟨by decide, by decide⟩ ⟨by decide, by decide⟩) (cwS 3 hg (gt_S (List.mem_append_right _ (List.mem_append_right _ (List.mem_append_right _ (List.mem_append_right _ (List.mem_append_right _ (List.mem_append_right _ (List.mem_append_right _ (List.mem_append_right _ (List.mem_append_right _ (List.mem_append_right _ (List.mem_append_right _ (List.mem_append_left _ (List.mem_of_getElem? (i := 0) rfl))))))))))))) (List.mem_append_right _ (List.mem_append_right _ (List.mem_append_right _ (List.mem_append_right _ (List.mem_append_right _ (List.mem_append_right _ (List.mem_append_right _ (List.mem_append_right _ (List.mem_append_right _ (List.mem_append_right _ (List.mem_append_right _ (List.mem_append_left _ (List.mem_of_getElem? (i := 1) rfl))))))))))))) (List.mem_append_right _ (List.mem_append_left _ (List.mem_of_getElem? (i := 2) rfl))) (List.mem_append_right _ (List.mem_append_right _ (List.mem_append_right _ (List.mem_append_right _ (List.mem_append_right _ (List.mem_append_right _ (List.mem_append_right _ (List.mem_append_right _ (List.mem_append_right _ (List.mem_append_right _ (List.mem_append_right _ (List.mem_append_left _ (List.mem_of_getElem? (i := 2) rfl)))))))))))))) rfl rfl rfl (by decide +kernel) ⟨Nat.le_of_ble_eq_true rfl, Nat.le_of_ble_eq_true rfl⟩) hK hP rfl hl.1 rfl (Nat.le_of_ble_eq_true rfl) d_PL_sign_25 ⟨Nat.zero_le _, Nat.zero_le _⟩ ?_
    refine z_ifb_ne hx hb (tgt := 53) d_PL_sign_28 (by decide) (fun c_28 => ?_) (fun c_28 => ?_)
    · exfalso; unfold inn at h1; omega
    · refine lv_iload_n hx hb d_PL_sign_31 rfl (lv_at hl 2 rfl) ?_
      refine z_iconst hx hb (z := 0) d_PL_sign_32 ?_
      refine z_sipush hx hb (z := 4000) d_PL_sign_33 (by decide) ?_
      refine ro_S (As := [.int (iI (wd)), .int (iI (0)), .int (iI (4000))]) (rest := []) (z := bz (wd < 0 ∨ 4000 < wd) inferInstance) ⟨hx, hb, hml, hown, hg⟩ (c_isOutside l (wd) (0) (4000) ⟨by omega, by omega⟩ ⟨by decide, by decide⟩ ⟨by decide, by decide⟩) (cwS 3 hg (gt_S (List.mem_append_right _ (List.mem_append_right _ (List.mem_append_right _ (List.mem_append_right _ (List.mem_append_right _ (List.mem_append_right _ (List.mem_append_right _ (List.mem_append_right _ (List.mem_append_right _ (List.mem_append_right _ (List.mem_append_right _ (List.mem_append_left _ (List.mem_of_getElem? (i := 0) rfl))))))))))))) (List.mem_append_right _ (List.mem_append_right _ (List.mem_append_right _ (List.mem_append_right _ (List.mem_append_right _ (List.mem_append_right _ (List.mem_append_right _ (List.mem_append_right _ (List.mem_append_right _ (List.mem_append_right _ (List.mem_append_right _ (List.mem_append_left _ (List.mem_of_getElem? (i := 1) rfl))))))))))))) (List.mem_append_right _ (List.mem_append_left _ (List.mem_of_getElem? (i := 2) rfl))) (List.mem_append_right _ (List.mem_append_right _ (List.mem_append_right _ (List.mem_append_right _ (List.mem_append_right _ (List.mem_append_right _ (List.mem_append_right _ (List.mem_append_right _ (List.mem_append_right _ (List.mem_append_right _ (List.mem_append_right _ (List.mem_append_left _ (List.mem_of_getElem? (i := 2) rfl)))))))))))))) rfl rfl rfl (by decide +kernel) ⟨Nat.le_of_ble_eq_true rfl, Nat.le_of_ble_eq_true rfl⟩) hK hP rfl hl.1 rfl (Nat.le_of_ble_eq_true rfl) d_PL_sign_36 ⟨Nat.zero_le _, Nat.zero_le _⟩ ?_
      refine z_ifb_ne hx hb (tgt := 53) d_PL_sign_39 (by decide) (fun c_39 => ?_) (fun c_39 => ?_)
      · exfalso; unfold inn at h1; omega
      · refine lv_iload_n hx hb d_PL_sign_42 rfl (lv_at hl 3 rfl) ?_
        refine z_iconst hx hb (z := 0) d_PL_sign_43 ?_
        refine z_sipush hx hb (z := 2000) d_PL_sign_44 (by decide) ?_
        refine ro_S (As := [.int (iI (h)), .int (iI (0)), .int (iI (2000))]) (rest := []) (z := bz (h < 0 ∨ 2000 < h) inferInstance) ⟨hx, hb, hml, hown, hg⟩ (c_isOutside l (h) (0) (2000) ⟨by omega, by omega⟩ ⟨by decide, by decide⟩ ⟨by decide, by decide⟩) (cwS 3 hg (gt_S (List.mem_append_right _ (List.mem_append_right _ (List.mem_append_right _ (List.mem_append_right _ (List.mem_append_right _ (List.mem_append_right _ (List.mem_append_right _ (List.mem_append_right _ (List.mem_append_right _ (List.mem_append_right _ (List.mem_append_right _ (List.mem_append_left _ (List.mem_of_getElem? (i := 0) rfl))))))))))))) (List.mem_append_right _ (List.mem_append_right _ (List.mem_append_right _ (List.mem_append_right _ (List.mem_append_right _ (List.mem_append_right _ (List.mem_append_right _ (List.mem_append_right _ (List.mem_append_right _ (List.mem_append_right _ (List.mem_append_right _ (List.mem_append_left _ (List.mem_of_getElem? (i := 1) rfl))))))))))))) (List.mem_append_right _ (List.mem_append_left _ (List.mem_of_getElem? (i := 2) rfl))) (List.mem_append_right _ (List.mem_append_right _ (List.mem_append_right _ (List.mem_append_right _ (List.mem_append_right _ (List.mem_append_right _ (List.mem_append_right _ (List.mem_append_right _ (List.mem_append_right _ (List.mem_append_right _ (List.mem_append_right _ (List.mem_append_left _ (List.mem_of_getElem? (i := 2) rfl)))))))))))))) rfl rfl rfl (by decide +kernel) ⟨Nat.le_of_ble_eq_true rfl, Nat.le_of_ble_eq_true rfl⟩) hK hP rfl hl.1 rfl (Nat.le_of_ble_eq_true rfl) d_PL_sign_47 ⟨Nat.zero_le _, Nat.zero_le _⟩ ?_
        refine z_ifb_eq hx hb (tgt := 63) d_PL_sign_50 (by decide) (fun c_50 => ?_) (fun c_50 => ?_)
        · refine lv_aload_n hx hb d_PL_sign_63 rfl (lv_at hl 0 rfl) ?_
          refine z_get (ci := 0) (C := R_PL) (T := T_PL) (N := 5) (v := .ref (ad (1))) hx hb hg in_PL hown hK hP (0) (by decide) rfl rfl 0 (by decide) (hg _ (List.mem_append_right _ (List.mem_append_right _ (List.mem_append_right _ (List.mem_append_right _ (List.mem_append_left _ (List.mem_of_getElem? (i := 39) rfl))))))) (fun _ h9 => h9) rfl d_PL_sign_64 ?_
          refine z_get (ci := 1) (C := R_TX) (T := T_TX) (N := 6) (v := .int (iI (M (1) 5))) hx hb hg in_TX hown hK hP (1) (by decide) rfl rfl 5 (by decide) (hg _ (List.mem_append_right _ (List.mem_append_right _ (List.mem_append_left _ (List.mem_of_getElem? (i := 31) rfl))))) (fun _ h9 => h9) rfl d_PL_sign_67 ?_
          refine z_sipush hx hb (z := 600) d_PL_sign_70 (by decide) ?_
          refine z_icmp_lt hx hb (tgt := 86) d_PL_sign_73 (by decide) ⟨by omega, by omega⟩ ⟨by decide, by decide⟩ (fun c_73 => ?_) (fun c_73 => ?_)
          · exfalso; unfold inn at h1; omega
          · exact z_thI hx hb (hml.trans hl.1.symm) hno hfl hown htx hT (istr := 80) (by decide) d_PL_sign_76 d_PL_sign_79 d_PL_sign_80 d_PL_sign_82 d_PL_sign_85 hlocks ⟨by decide, by decide, by decide, by decide⟩
        · exfalso; unfold inn at h1; omega
  · exfalso; unfold inn at h1; omega
set_option maxHeartbeats 4000000 in
set_option maxRecDepth 100000 in
/-- shape: it throws z_NSE -/
theorem t_shape_N (l : Launch) (hfl : l.flags = flags0) {D : va_G} {ad : Nat → Nat} {cs : pg_C} {rp : Option Nat} {M : Nat → Nat → Int} (np : Nat) (x wh v : Int) (hx0 : zb x) (hw : zb wh) (hv : zb v) (hnp : M 1 4 = ((np : Nat) : Int)) (hn : np ≤ 30) (h0 : ¬ inn x 0 (((np : Nat) : Int) - 1)) : MetT l y_PL_shape (.code y_PL_shape b_PL_shape 4 none :: gx) ({ frames := 6, cells := 1, slots := 6, locals := 82 } : Room) (va_Pc [.ref (ad (0)), .int (iI (x)), .int (iI (wh)), .int (iI (v))] (rt_B D vwCl (pg_tys cs) (pg_w ad cs rp M))) (q_thr z_NSE) 1 6 := by
  refine MetT.ofW (cc := b_PL_shape) (maxL := 4) (ret := none) (by decide) rfl ?_
  intro p e s m args below meth c s₁ B hml hno hv
  obtain ⟨rfl, ⟨hP, hK⟩, hT⟩ := hv
  have hx := B.exec
  have hb := B.bytes
  have hts := atoms_spec (ws := (.code y_PL_shape b_PL_shape 4 none :: gx)) B.pre
  have hgx : ∀ w ∈ gx, w.before _ s = true := fun w h => hts w (List.mem_cons_of_mem _ h)
  have hg : ∀ w ∈ gt, w.before _ s = true := fun w h => hgx w (gx_gt h)
  have htx : ∀ w ∈ tx, w.before _ s = true := fun w h => hgx w (List.mem_append_right _ h)
  have hown : s.vm.findClass R_PL = some m.cls := findClass_of_methodNamed B.named
  have hlocks := B.notSynchronized
  have hl := lv_entry ([.ref (ad (0)), .int (iI (x)), .int (iI (wh)), .int (iI (v))]) (n := 4) (Nat.le_of_ble_eq_true rfl)
  rw [lg_entry_eq]
  generalize (lg_sl ([.ref (ad (0)), .int (iI (x)), .int (iI (wh)), .int (iI (v))]) ++ List.replicate (4 - (lg_sl ([.ref (ad (0)), .int (iI (x)), .int (iI (wh)), .int (iI (v))])).length) Slot.unset).toArray = ls at hl ⊢
  have hl : lv_has ls 4 [(0, .ref (ad (0))), (1, .int (iI (x))), (2, .int (iI (wh))), (3, .int (iI (v)))] := hl
  obtain ⟨hx1, hx2⟩ := hx0
  obtain ⟨hw1, hw2⟩ := hw
  obtain ⟨hv1, hv2⟩ := hv
  obtain ⟨tf, tt, f1, f2, f3, f4⟩ := hT.2.2.2
  refine lv_iload_n hx hb d_PL_shape_0 rfl (lv_at hl 1 rfl) ?_
  refine z_iconst hx hb (z := 0) d_PL_shape_1 ?_
  refine lv_aload_n hx hb d_PL_shape_2 rfl (lv_at hl 0 rfl) ?_
  refine z_get (ci := 0) (C := R_PL) (T := T_PL) (N := 5) (v := .ref (ad (1))) hx hb hg in_PL hown hK hP (0) (by decide) rfl rfl 0 (by decide) (hg _ (List.mem_append_right _ (List.mem_append_right _ (List.mem_append_right _ (List.mem_append_right _ (List.mem_append_left _ (List.mem_of_getElem? (i := 39) rfl))))))) (fun _ h9 => h9) rfl d_PL_shape_3 ?_
  refine z_get (ci := 1) (C := R_TX) (T := T_TX) (N := 6) (v := .int (iI (M (1) 4))) hx hb hg in_TX hown hK hP (1) (by decide) rfl rfl 4 (by decide) (hg _ (List.mem_append_right _ (List.mem_append_right _ (List.mem_append_left _ (List.mem_of_getElem? (i := 27) rfl))))) (fun _ h9 => h9) rfl d_PL_shape_6 ?_
  refine z_iconst hx hb (z := 1) d_PL_shape_9 ?_
  refine z_isub hx hb d_PL_shape_10 (v := (M (1) 4 - 1)) rfl ?_
  refine ro_S (As := [.int (iI (x)), .int (iI (0)), .int (iI ((M (1) 4 - 1)))]) (rest := []) (z := bz (x < 0 ∨ (M (1) 4 - 1) < x) inferInstance) ⟨hx, hb, hml, hown, hg⟩ (c_isOutside l (x) (0) ((M (1) 4 - 1)) ⟨by omega, by omega⟩ ⟨by decide, by decide⟩ ⟨by omega, by omega⟩) (cwS 3 hg (gt_S (List.mem_append_right _ (List.mem_append_right _ (List.mem_append_right _ (List.mem_append_right _ (List.mem_append_right _ (List.mem_append_right _ (List.mem_append_right _ (List.mem_append_right _ (List.mem_append_right _ (List.mem_append_right _ (List.mem_append_right _ (List.mem_append_left _ (List.mem_of_getElem? (i := 0) rfl))))))))))))) (List.mem_append_right _ (List.mem_append_right _ (List.mem_append_right _ (List.mem_append_right _ (List.mem_append_right _ (List.mem_append_right _ (List.mem_append_right _ (List.mem_append_right _ (List.mem_append_right _ (List.mem_append_right _ (List.mem_append_right _ (List.mem_append_left _ (List.mem_of_getElem? (i := 1) rfl))))))))))))) (List.mem_append_right _ (List.mem_append_left _ (List.mem_of_getElem? (i := 2) rfl))) (List.mem_append_right _ (List.mem_append_right _ (List.mem_append_right _ (List.mem_append_right _ (List.mem_append_right _ (List.mem_append_right _ (List.mem_append_right _ (List.mem_append_right _ (List.mem_append_right _ (List.mem_append_right _ (List.mem_append_right _ (List.mem_append_left _ (List.mem_of_getElem? (i := 2) rfl)))))))))))))) rfl rfl rfl (by decide +kernel) ⟨Nat.le_of_ble_eq_true rfl, Nat.le_of_ble_eq_true rfl⟩) hK hP rfl hl.1 rfl (Nat.le_of_ble_eq_true rfl) d_PL_shape_11 ⟨Nat.zero_le _, Nat.zero_le _⟩ ?_
  refine z_ifb_eq hx hb (tgt := 27) d_PL_shape_14 (by decide) (fun c_14 => ?_) (fun c_14 => ?_)
  · refine lv_iload_n hx hb d_PL_shape_27 rfl (lv_at hl 2 rfl) ?_
    refine z_iconst hx hb (z := 0) d_PL_shape_28 ?_
    refine z_bipush hx hb (z := 10) d_PL_shape_29 (by decide) ?_
    refine ro_S (As := [.int (iI (wh)), .int (iI (0)), .int (iI (10))]) (rest := []) (z := bz (wh < 0 ∨ 10 < wh) inferInstance) ⟨hx, hb, hml, hown, hg⟩ (c_isOutside l (wh) (0) (10) ⟨by omega, by omega⟩ ⟨by decide, by decide⟩ ⟨by decide, by decide⟩) (cwS 3 hg (gt_S (List.mem_append_right _ (List.mem_append_right _ (List.mem_append_right _ (List.mem_append_right _ (List.mem_append_right _ (List.mem_append_right _ (List.mem_append_right _ (List.mem_append_right _ (List.mem_append_right _ (List.mem_append_right _ (List.mem_append_right _ (List.mem_append_left _ (List.mem_of_getElem? (i := 0) rfl))))))))))))) (List.mem_append_right _ (List.mem_append_right _ (List.mem_append_right _ (List.mem_append_right _ (List.mem_append_right _ (List.mem_append_right _ (List.mem_append_right _ (List.mem_append_right _ (List.mem_append_right _ (List.mem_append_right _ (List.mem_append_right _ (List.mem_append_left _ (List.mem_of_getElem? (i := 1) rfl))))))))))))) (List.mem_append_right _ (List.mem_append_left _ (List.mem_of_getElem? (i := 2) rfl))) (List.mem_append_right _ (List.mem_append_right _ (List.mem_append_right _ (List.mem_append_right _ (List.mem_append_right _ (List.mem_append_right _ (List.mem_append_right _ (List.mem_append_right _ (List.mem_append_right _ (List.mem_append_right _ (List.mem_append_right _ (List.mem_append_left _ (List.mem_of_getElem? (i := 2) rfl)))))))))))))) rfl rfl rfl (by decide +kernel) ⟨Nat.le_of_ble_eq_true rfl, Nat.le_of_ble_eq_true rfl⟩) hK hP rfl hl.1 rfl (Nat.le_of_ble_eq_true rfl) d_PL_shape_31 ⟨Nat.zero_le _, Nat.zero_le _⟩ ?_
    refine z_ifb_ne hx hb (tgt := 54) d_PL_shape_34 (by decide) (fun c_34 => ?_) (fun c_34 => ?_)
    · exfalso; unfold inn at h0; omega
    · refine lv_iload_n hx hb d_PL_shape_37 rfl (lv_at hl 3 rfl) ?_
      refine va_gets hx hb f1 (va_S.rf (A := fun _ => False)) hown (hg _ (List.mem_append_right _ (List.mem_append_right _ (List.mem_append_right _ (List.mem_append_right _ (List.mem_append_right _ (List.mem_append_right _ (List.mem_append_right _ (List.mem_append_right _ (List.mem_append_right _ (List.mem_append_right _ (List.mem_append_right _ (List.mem_append_left _ (List.mem_of_getElem? (i := 26) rfl)))))))))))))) (fun _ h9 => h9) d_PL_shape_38 ?_
      refine lv_iload_n hx hb d_PL_shape_41 rfl (lv_at hl 2 rfl) ?_
      have hwn : 0 ≤ wh ∧ wh ≤ 10 := by omega
      have hwi : wh = ((wh.toNat : Nat) : Int) := by omega
      have hin : vp_in (iI wh) 11 := by rw [hwi]; exact iI_in (by omega) (by decide)
      have hcl : (iI wh).toNatClampNeg = wh.toNat := iI_N ⟨hw1, hw2⟩
      refine va_ti (v := .int (iI (r_least wh))) hx hb f2 (va_S.rf (A := fun _ => False)) hin (show Value.int (iI (z_sf (iI wh).toNatClampNeg)) = .int (iI (r_least wh)) by rw [hcl]; exact congrArg (fun z => Value.int (iI z)) (by unfold z_sf r_least; repeat' (first | (exfalso; omega) | omega | split))) d_PL_shape_42 ?_
      refine va_gets hx hb f3 (va_S.rf (A := fun _ => False)) hown (hg _ (List.mem_append_right _ (List.mem_append_right _ (List.mem_append_right _ (List.mem_append_right _ (List.mem_append_right _ (List.mem_append_right _ (List.mem_append_right _ (List.mem_append_right _ (List.mem_append_right _ (List.mem_append_right _ (List.mem_append_right _ (List.mem_append_left _ (List.mem_of_getElem? (i := 27) rfl)))))))))))))) (fun _ h9 => h9) d_PL_shape_43 ?_
      refine lv_iload_n hx hb d_PL_shape_46 rfl (lv_at hl 2 rfl) ?_
      refine va_ti (v := .int (iI (r_most wh))) hx hb f4 (va_S.rf (A := fun _ => False)) hin (show Value.int (iI (z_st (iI wh).toNatClampNeg)) = .int (iI (r_most wh)) by rw [hcl]; exact congrArg (fun z => Value.int (iI z)) (by unfold z_st r_most; repeat' (first | (exfalso; omega) | omega | split))) d_PL_shape_47 ?_
      have hlb := r_leastb wh
      have hmb := r_mostb wh
      refine ro_S (As := [.int (iI (v)), .int (iI (r_least wh)), .int (iI (r_most wh))]) (rest := []) (z := bz (v < r_least wh ∨ r_most wh < v) inferInstance) ⟨hx, hb, hml, hown, hg⟩ (c_isOutside l (v) (r_least wh) (r_most wh) ⟨by omega, by omega⟩ ⟨by omega, by omega⟩ ⟨by omega, by omega⟩) (cwS 3 hg (gt_S (List.mem_append_right _ (List.mem_append_right _ (List.mem_append_right _ (List.mem_append_right _ (List.mem_append_right _ (List.mem_append_right _ (List.mem_append_right _ (List.mem_append_right _ (List.mem_append_right _ (List.mem_append_right _ (List.mem_append_right _ (List.mem_append_left _ (List.mem_of_getElem? (i := 0) rfl))))))))))))) (List.mem_append_right _ (List.mem_append_right _ (List.mem_append_right _ (List.mem_append_right _ (List.mem_append_right _ (List.mem_append_right _ (List.mem_append_right _ (List.mem_append_right _ (List.mem_append_right _ (List.mem_append_right _ (List.mem_append_right _ (List.mem_append_left _ (List.mem_of_getElem? (i := 1) rfl))))))))))))) (List.mem_append_right _ (List.mem_append_left _ (List.mem_of_getElem? (i := 2) rfl))) (List.mem_append_right _ (List.mem_append_right _ (List.mem_append_right _ (List.mem_append_right _ (List.mem_append_right _ (List.mem_append_right _ (List.mem_append_right _ (List.mem_append_right _ (List.mem_append_right _ (List.mem_append_right _ (List.mem_append_right _ (List.mem_append_left _ (List.mem_of_getElem? (i := 2) rfl)))))))))))))) rfl rfl rfl (by decide +kernel) ⟨Nat.le_of_ble_eq_true rfl, Nat.le_of_ble_eq_true rfl⟩) hK hP rfl hl.1 rfl (Nat.le_of_ble_eq_true rfl) d_PL_shape_48 ⟨Nat.zero_le _, Nat.zero_le _⟩ ?_
      refine z_ifb_eq hx hb (tgt := 64) d_PL_shape_51 (by decide) (fun c_51 => ?_) (fun c_51 => ?_)
      · exfalso; unfold inn at h0; omega
      · exfalso; unfold inn at h0; omega
  · exact z_thN hx hb (hml.trans hl.1.symm) hno hfl hown htx hT (istr := 86) (by decide) d_PL_shape_17 d_PL_shape_20 d_PL_shape_21 d_PL_shape_23 d_PL_shape_26 hlocks ⟨by decide, by decide, by decide, by decide⟩
set_option maxHeartbeats 4000000 in
set_option maxRecDepth 100000 in
/-- shape: it throws z_IAE -/
theorem t_shape_A (l : Launch) (hfl : l.flags = flags0) {D : va_G} {ad : Nat → Nat} {cs : pg_C} {rp : Option Nat} {M : Nat → Nat → Int} (np : Nat) (x wh v : Int) (hx0 : zb x) (hw : zb wh) (hv : zb v) (hnp : M 1 4 = ((np : Nat) : Int)) (hn : np ≤ 30) (h0 : inn x 0 (((np : Nat) : Int) - 1)) (h1 : ¬ (inn wh 0 10 ∧ inn v (r_least wh) (r_most wh))) : MetT l y_PL_shape (.code y_PL_shape b_PL_shape 4 none :: gx) ({ frames := 6, cells := 1, slots := 6, locals := 82 } : Room) (va_Pc [.ref (ad (0)), .int (iI (x)), .int (iI (wh)), .int (iI (v))] (rt_B D vwCl (pg_tys cs) (pg_w ad cs rp M))) (q_thr z_IAE) 1 6 := by
  refine MetT.ofW (cc := b_PL_shape) (maxL := 4) (ret := none) (by decide) rfl ?_
  intro p e s m args below meth c s₁ B hml hno hv
  obtain ⟨rfl, ⟨hP, hK⟩, hT⟩ := hv
  have hx := B.exec
  have hb := B.bytes
  have hts := atoms_spec (ws := (.code y_PL_shape b_PL_shape 4 none :: gx)) B.pre
  have hgx : ∀ w ∈ gx, w.before _ s = true := fun w h => hts w (List.mem_cons_of_mem _ h)
  have hg : ∀ w ∈ gt, w.before _ s = true := fun w h => hgx w (gx_gt h)
  have htx : ∀ w ∈ tx, w.before _ s = true := fun w h => hgx w (List.mem_append_right _ h)
  have hown : s.vm.findClass R_PL = some m.cls := findClass_of_methodNamed B.named
  have hlocks := B.notSynchronized
  have hl := lv_entry ([.ref (ad (0)), .int (iI (x)), .int (iI (wh)), .int (iI (v))]) (n := 4) (Nat.le_of_ble_eq_true rfl)
  rw [lg_entry_eq]
  generalize (lg_sl ([.ref (ad (0)), .int (iI (x)), .int (iI (wh)), .int (iI (v))]) ++ List.replicate (4 - (lg_sl ([.ref (ad (0)), .int (iI (x)), .int (iI (wh)), .int (iI (v))])).length) Slot.unset).toArray = ls at hl ⊢
  have hl : lv_has ls 4 [(0, .ref (ad (0))), (1, .int (iI (x))), (2, .int (iI (wh))), (3, .int (iI (v)))] := hl
  obtain ⟨hx1, hx2⟩ := hx0
  obtain ⟨hw1, hw2⟩ := hw
  obtain ⟨hv1, hv2⟩ := hv
  obtain ⟨tf, tt, f1, f2, f3, f4⟩ := hT.2.2.2
  refine lv_iload_n hx hb d_PL_shape_0 rfl (lv_at hl 1 rfl) ?_
  refine z_iconst hx hb (z := 0) d_PL_shape_1 ?_
  refine lv_aload_n hx hb d_PL_shape_2 rfl (lv_at hl 0 rfl) ?_
  refine z_get (ci := 0) (C := R_PL) (T := T_PL) (N := 5) (v := .ref (ad (1))) hx hb hg in_PL hown hK hP (0) (by decide) rfl rfl 0 (by decide) (hg _ (List.mem_append_right _ (List.mem_append_right _ (List.mem_append_right _ (List.mem_append_right _ (List.mem_append_left _ (List.mem_of_getElem? (i := 39) rfl))))))) (fun _ h9 => h9) rfl d_PL_shape_3 ?_
  refine z_get (ci := 1) (C := R_TX) (T := T_TX) (N := 6) (v := .int (iI (M (1) 4))) hx hb hg in_TX hown hK hP (1) (by decide) rfl rfl 4 (by decide) (hg _ (List.mem_append_right _ (List.mem_append_right _ (List.mem_append_left _ (List.mem_of_getElem? (i := 27) rfl))))) (fun _ h9 => h9) rfl d_PL_shape_6 ?_
  refine z_iconst hx hb (z := 1) d_PL_shape_9 ?_
  refine z_isub hx hb d_PL_shape_10 (v := (M (1) 4 - 1)) rfl ?_
  refine ro_S (As := [.int (iI (x)), .int (iI (0)), .int (iI ((M (1) 4 - 1)))]) (rest := []) (z := bz (x < 0 ∨ (M (1) 4 - 1) < x) inferInstance) ⟨hx, hb, hml, hown, hg⟩ (c_isOutside l (x) (0) ((M (1) 4 - 1)) ⟨by omega, by omega⟩ ⟨by decide, by decide⟩ ⟨by omega, by omega⟩) (cwS 3 hg (gt_S (List.mem_append_right _ (List.mem_append_right _ (List.mem_append_right _ (List.mem_append_right _ (List.mem_append_right _ (List.mem_append_right _ (List.mem_append_right _ (List.mem_append_right _ (List.mem_append_right _ (List.mem_append_right _ (List.mem_append_right _ (List.mem_append_left _ (List.mem_of_getElem? (i := 0) rfl))))))))))))) (List.mem_append_right _ (List.mem_append_right _ (List.mem_append_right _ (List.mem_append_right _ (List.mem_append_right _ (List.mem_append_right _ (List.mem_append_right _ (List.mem_append_right _ (List.mem_append_right _ (List.mem_append_right _ (List.mem_append_right _ (List.mem_append_left _ (List.mem_of_getElem? (i := 1) rfl))))))))))))) (List.mem_append_right _ (List.mem_append_left _ (List.mem_of_getElem? (i := 2) rfl))) (List.mem_append_right _ (List.mem_append_right _ (List.mem_append_right _ (List.mem_append_right _ (List.mem_append_right _ (List.mem_append_right _ (List.mem_append_right _ (List.mem_append_right _ (List.mem_append_right _ (List.mem_append_right _ (List.mem_append_right _ (List.mem_append_left _ (List.mem_of_getElem? (i := 2) rfl)))))))))))))) rfl rfl rfl (by decide +kernel) ⟨Nat.le_of_ble_eq_true rfl, Nat.le_of_ble_eq_true rfl⟩) hK hP rfl hl.1 rfl (Nat.le_of_ble_eq_true rfl) d_PL_shape_11 ⟨Nat.zero_le _, Nat.zero_le _⟩ ?_
  refine z_ifb_eq hx hb (tgt := 27) d_PL_shape_14 (by decide) (fun c_14 => ?_) (fun c_14 => ?_)
  · refine lv_iload_n hx hb d_PL_shape_27 rfl (lv_at hl 2 rfl) ?_
    refine z_iconst hx hb (z := 0) d_PL_shape_28 ?_
    refine z_bipush hx hb (z := 10) d_PL_shape_29 (by decide) ?_
    refine ro_S (As := [.int (iI (wh)), .int (iI (0)), .int (iI (10))]) (rest := []) (z := bz (wh < 0 ∨ 10 < wh) inferInstance) ⟨hx, hb, hml, hown, hg⟩ (c_isOutside l (wh) (0) (10) ⟨by omega, by omega⟩ ⟨by decide, by decide⟩ ⟨by decide, by decide⟩) (cwS 3 hg (gt_S (List.mem_append_right _ (List.mem_append_right _ (List.mem_append_right _ (List.mem_append_right _ (List.mem_append_right _ (List.mem_append_right _ (List.mem_append_right _ (List.mem_append_right _ (List.mem_append_right _ (List.mem_append_right _ (List.mem_append_right _ (List.mem_append_left _ (List.mem_of_getElem? (i := 0) rfl))))))))))))) (List.mem_append_right _ (List.mem_append_right _ (List.mem_append_right _ (List.mem_append_right _ (List.mem_append_right _ (List.mem_append_right _ (List.mem_append_right _ (List.mem_append_right _ (List.mem_append_right _ (List.mem_append_right _ (List.mem_append_right _ (List.mem_append_left _ (List.mem_of_getElem? (i := 1) rfl))))))))))))) (List.mem_append_right _ (List.mem_append_left _ (List.mem_of_getElem? (i := 2) rfl))) (List.mem_append_right _ (List.mem_append_right _ (List.mem_append_right _ (List.mem_append_right _ (List.mem_append_right _ (List.mem_append_right _ (List.mem_append_right _ (List.mem_append_right _ (List.mem_append_right _ (List.mem_append_right _ (List.mem_append_right _ (List.mem_append_left _ (List.mem_of_getElem? (i := 2) rfl)))))))))))))) rfl rfl rfl (by decide +kernel) ⟨Nat.le_of_ble_eq_true rfl, Nat.le_of_ble_eq_true rfl⟩) hK hP rfl hl.1 rfl (Nat.le_of_ble_eq_true rfl) d_PL_shape_31 ⟨Nat.zero_le _, Nat.zero_le _⟩ ?_
    refine z_ifb_ne hx hb (tgt := 54) d_PL_shape_34 (by decide) (fun c_34 => ?_) (fun c_34 => ?_)
    · exact z_thA hx hb (hml.trans hl.1.symm) hno hfl hown htx hT (istr := 95) (by decide) d_PL_shape_54 d_PL_shape_57 d_PL_shape_58 d_PL_shape_60 d_PL_shape_63 hlocks ⟨by decide, by decide, by decide, by decide⟩
    · refine lv_iload_n hx hb d_PL_shape_37 rfl (lv_at hl 3 rfl) ?_
      refine va_gets hx hb f1 (va_S.rf (A := fun _ => False)) hown (hg _ (List.mem_append_right _ (List.mem_append_right _ (List.mem_append_right _ (List.mem_append_right _ (List.mem_append_right _ (List.mem_append_right _ (List.mem_append_right _ (List.mem_append_right _ (List.mem_append_right _ (List.mem_append_right _ (List.mem_append_right _ (List.mem_append_left _ (List.mem_of_getElem? (i := 26) rfl)))))))))))))) (fun _ h9 => h9) d_PL_shape_38 ?_
      refine lv_iload_n hx hb d_PL_shape_41 rfl (lv_at hl 2 rfl) ?_
      have hwn : 0 ≤ wh ∧ wh ≤ 10 := by omega
      have hwi : wh = ((wh.toNat : Nat) : Int) := by omega
      have hin : vp_in (iI wh) 11 := by rw [hwi]; exact iI_in (by omega) (by decide)
      have hcl : (iI wh).toNatClampNeg = wh.toNat := iI_N ⟨hw1, hw2⟩
      refine va_ti (v := .int (iI (r_least wh))) hx hb f2 (va_S.rf (A := fun _ => False)) hin (show Value.int (iI (z_sf (iI wh).toNatClampNeg)) = .int (iI (r_least wh)) by rw [hcl]; exact congrArg (fun z => Value.int (iI z)) (by unfold z_sf r_least; repeat' (first | (exfalso; omega) | omega | split))) d_PL_shape_42 ?_
      refine va_gets hx hb f3 (va_S.rf (A := fun _ => False)) hown (hg _ (List.mem_append_right _ (List.mem_append_right _ (List.mem_append_right _ (List.mem_append_right _ (List.mem_append_right _ (List.mem_append_right _ (List.mem_append_right _ (List.mem_append_right _ (List.mem_append_right _ (List.mem_append_right _ (List.mem_append_right _ (List.mem_append_left _ (List.mem_of_getElem? (i := 27) rfl)))))))))))))) (fun _ h9 => h9) d_PL_shape_43 ?_
      refine lv_iload_n hx hb d_PL_shape_46 rfl (lv_at hl 2 rfl) ?_
      refine va_ti (v := .int (iI (r_most wh))) hx hb f4 (va_S.rf (A := fun _ => False)) hin (show Value.int (iI (z_st (iI wh).toNatClampNeg)) = .int (iI (r_most wh)) by rw [hcl]; exact congrArg (fun z => Value.int (iI z)) (by unfold z_st r_most; repeat' (first | (exfalso; omega) | omega | split))) d_PL_shape_47 ?_
      have hlb := r_leastb wh
      have hmb := r_mostb wh
      refine ro_S (As := [.int (iI (v)), .int (iI (r_least wh)), .int (iI (r_most wh))]) (rest := []) (z := bz (v < r_least wh ∨ r_most wh < v) inferInstance) ⟨hx, hb, hml, hown, hg⟩ (c_isOutside l (v) (r_least wh) (r_most wh) ⟨by omega, by omega⟩ ⟨by omega, by omega⟩ ⟨by omega, by omega⟩) (cwS 3 hg (gt_S (List.mem_append_right _ (List.mem_append_right _ (List.mem_append_right _ (List.mem_append_right _ (List.mem_append_right _ (List.mem_append_right _ (List.mem_append_right _ (List.mem_append_right _ (List.mem_append_right _ (List.mem_append_right _ (List.mem_append_right _ (List.mem_append_left _ (List.mem_of_getElem? (i := 0) rfl))))))))))))) (List.mem_append_right _ (List.mem_append_right _ (List.mem_append_right _ (List.mem_append_right _ (List.mem_append_right _ (List.mem_append_right _ (List.mem_append_right _ (List.mem_append_right _ (List.mem_append_right _ (List.mem_append_right _ (List.mem_append_right _ (List.mem_append_left _ (List.mem_of_getElem? (i := 1) rfl))))))))))))) (List.mem_append_right _ (List.mem_append_left _ (List.mem_of_getElem? (i := 2) rfl))) (List.mem_append_right _ (List.mem_append_right _ (List.mem_append_right _ (List.mem_append_right _ (List.mem_append_right _ (List.mem_append_right _ (List.mem_append_right _ (List.mem_append_right _ (List.mem_append_right _ (List.mem_append_right _ (List.mem_append_right _ (List.mem_append_left _ (List.mem_of_getElem? (i := 2) rfl)))))))))))))) rfl rfl rfl (by decide +kernel) ⟨Nat.le_of_ble_eq_true rfl, Nat.le_of_ble_eq_true rfl⟩) hK hP rfl hl.1 rfl (Nat.le_of_ble_eq_true rfl) d_PL_shape_48 ⟨Nat.zero_le _, Nat.zero_le _⟩ ?_
      refine z_ifb_eq hx hb (tgt := 64) d_PL_shape_51 (by decide) (fun c_51 => ?_) (fun c_51 => ?_)
      · exfalso; unfold inn at h0 h1; omega
      · exact z_thA hx hb (hml.trans hl.1.symm) hno hfl hown htx hT (istr := 95) (by decide) d_PL_shape_54 d_PL_shape_57 d_PL_shape_58 d_PL_shape_60 d_PL_shape_63 hlocks ⟨by decide, by decide, by decide, by decide⟩
  · exfalso; unfold inn at h0 h1; omega
set_option maxHeartbeats 4000000 in
set_option maxRecDepth 100000 in
/-- stop: it throws z_NSE -/
theorem t_stop_N (l : Launch) (hfl : l.flags = flags0) {D : va_G} {ad : Nat → Nat} {cs : pg_C} {rp : Option Nat} {M : Nat → Nat → Int} (np : Nat) (x at_ k : Int) (hx0 : zb x) (hw : zb at_) (hv : zb k) (hnp : M 1 4 = ((np : Nat) : Int)) (hn : np ≤ 30) (h0 : ¬ inn x 0 (((np : Nat) : Int) - 1)) : MetT l y_PL_stop (.code y_PL_stop b_PL_stop 5 (some .int) :: gx) ({ frames := 6, cells := 1, slots := 6, locals := 82 } : Room) (va_Pc [.ref (ad (0)), .int (iI (x)), .int (iI (at_)), .int (iI (k))] (rt_B D vwCl (pg_tys cs) (pg_w ad cs rp M))) (q_thr z_NSE) 1 6 := by
  refine MetT.ofW (cc := b_PL_stop) (maxL := 5) (ret := (some .int)) (by decide) rfl ?_
  intro p e s m args below meth c s₁ B hml hno hv
  obtain ⟨rfl, ⟨hP, hK⟩, hT⟩ := hv
  have hx := B.exec
  have hb := B.bytes
  have hts := atoms_spec (ws := (.code y_PL_stop b_PL_stop 5 (some .int) :: gx)) B.pre
  have hgx : ∀ w ∈ gx, w.before _ s = true := fun w h => hts w (List.mem_cons_of_mem _ h)
  have hg : ∀ w ∈ gt, w.before _ s = true := fun w h => hgx w (gx_gt h)
  have htx : ∀ w ∈ tx, w.before _ s = true := fun w h => hgx w (List.mem_append_right _ h)
  have hown : s.vm.findClass R_PL = some m.cls := findClass_of_methodNamed B.named
  have hlocks := B.notSynchronized
  have hl := lv_entry ([.ref (ad (0)), .int (iI (x)), .int (iI (at_)), .int (iI (k))]) (n := 5) (Nat.le_of_ble_eq_true rfl)
  rw [lg_entry_eq]
  generalize (lg_sl ([.ref (ad (0)), .int (iI (x)), .int (iI (at_)), .int (iI (k))]) ++ List.replicate (5 - (lg_sl ([.ref (ad (0)), .int (iI (x)), .int (iI (at_)), .int (iI (k))])).length) Slot.unset).toArray = ls at hl ⊢
  have hl : lv_has ls 5 [(0, .ref (ad (0))), (1, .int (iI (x))), (2, .int (iI (at_))), (3, .int (iI (k)))] := hl
  obtain ⟨hx1, hx2⟩ := hx0
  obtain ⟨hw1, hw2⟩ := hw
  obtain ⟨hv1, hv2⟩ := hv
  refine lv_iload_n hx hb d_PL_stop_0 rfl (lv_at hl 1 rfl) ?_
  refine z_iconst hx hb (z := 0) d_PL_stop_1 ?_
  refine lv_aload_n hx hb d_PL_stop_2 rfl (lv_at hl 0 rfl) ?_
  refine z_get (ci := 0) (C := R_PL) (T := T_PL) (N := 5) (v := .ref (ad (1))) hx hb hg in_PL hown hK hP (0) (by decide) rfl rfl 0 (by decide) (hg _ (List.mem_append_right _ (List.mem_append_right _ (List.mem_append_right _ (List.mem_append_right _ (List.mem_append_left _ (List.mem_of_getElem? (i := 39) rfl))))))) (fun _ h9 => h9) rfl d_PL_stop_3 ?_
  refine z_get (ci := 1) (C := R_TX) (T := T_TX) (N := 6) (v := .int (iI (M (1) 4))) hx hb hg in_TX hown hK hP (1) (by decide) rfl rfl 4 (by decide) (hg _ (List.mem_append_right _ (List.mem_append_right _ (List.mem_append_left _ (List.mem_of_getElem? (i := 27) rfl))))) (fun _ h9 => h9) rfl d_PL_stop_6 ?_
  refine z_iconst hx hb (z := 1) d_PL_stop_9 ?_
  refine z_isub hx hb d_PL_stop_10 (v := (M (1) 4 - 1)) rfl ?_
  refine ro_S (As := [.int (iI (x)), .int (iI (0)), .int (iI ((M (1) 4 - 1)))]) (rest := []) (z := bz (x < 0 ∨ (M (1) 4 - 1) < x) inferInstance) ⟨hx, hb, hml, hown, hg⟩ (c_isOutside l (x) (0) ((M (1) 4 - 1)) ⟨by omega, by omega⟩ ⟨by decide, by decide⟩ ⟨by omega, by omega⟩) (cwS 3 hg (gt_S (List.mem_append_right _ (List.mem_append_right _ (List.mem_append_right _ (List.mem_append_right _ (List.mem_append_right _ (List.mem_append_right _ (List.mem_append_right _ (List.mem_append_right _ (List.mem_append_right _ (List.mem_append_right _ (List.mem_append_right _ (List.mem_append_left _ (List.mem_of_getElem? (i := 0) rfl))))))))))))) (List.mem_append_right _ (List.mem_append_right _ (List.mem_append_right _ (List.mem_append_right _ (List.mem_append_right _ (List.mem_append_right _ (List.mem_append_right _ (List.mem_append_right _ (List.mem_append_right _ (List.mem_append_right _ (List.mem_append_right _ (List.mem_append_left _ (List.mem_of_getElem? (i := 1) rfl))))))))))))) (List.mem_append_right _ (List.mem_append_left _ (List.mem_of_getElem? (i := 2) rfl))) (List.mem_append_right _ (List.mem_append_right _ (List.mem_append_right _ (List.mem_append_right _ (List.mem_append_right _ (List.mem_append_right _ (List.mem_append_right _ (List.mem_append_right _ (List.mem_append_right _ (List.mem_append_right _ (List.mem_append_right _ (List.mem_append_left _ (List.mem_of_getElem? (i := 2) rfl)))))))))))))) rfl rfl rfl (by decide +kernel) ⟨Nat.le_of_ble_eq_true rfl, Nat.le_of_ble_eq_true rfl⟩) hK hP rfl hl.1 rfl (Nat.le_of_ble_eq_true rfl) d_PL_stop_11 ⟨Nat.zero_le _, Nat.zero_le _⟩ ?_
  refine z_ifb_eq hx hb (tgt := 27) d_PL_stop_14 (by decide) (fun c_14 => ?_) (fun c_14 => ?_)
  · exfalso; unfold inn at h0; omega
  · exact z_thN hx hb (hml.trans hl.1.symm) hno hfl hown htx hT (istr := 86) (by decide) d_PL_stop_17 d_PL_stop_20 d_PL_stop_21 d_PL_stop_23 d_PL_stop_26 hlocks ⟨by decide, by decide, by decide, by decide⟩
set_option maxHeartbeats 4000000 in
set_option maxRecDepth 100000 in
/-- stop: it throws z_IAE -/
theorem t_stop_A (l : Launch) (hfl : l.flags = flags0) {D : va_G} {ad : Nat → Nat} {cs : pg_C} {rp : Option Nat} {M : Nat → Nat → Int} (np : Nat) (x at_ k : Int) (hx0 : zb x) (hw : zb at_) (hv : zb k) (hnp : M 1 4 = ((np : Nat) : Int)) (hn : np ≤ 30) (q n : Nat) (hxq : x = ((q : Nat) : Int)) (hqn : q < np) (hwf : wfP M q n) (h1 : ¬ (inn at_ (p_last n (M (31 + 4 * q)) + 1) 30000 ∧ inn k 0 2)) : MetT l y_PL_stop (.code y_PL_stop b_PL_stop 5 (some .int) :: gx) ({ frames := 6, cells := 1, slots := 6, locals := 82 } : Room) (va_Pc [.ref (ad (0)), .int (iI (x)), .int (iI (at_)), .int (iI (k))] (rt_B D vwCl (pg_tys cs) (pg_w ad cs rp M))) (q_thr z_IAE) 1 6 := by
  refine MetT.ofW (cc := b_PL_stop) (maxL := 5) (ret := (some .int)) (by decide) rfl ?_
  intro p e s m args below meth c s₁ B hml hno hv
  obtain ⟨rfl, ⟨hP, hK⟩, hT⟩ := hv
  have hx := B.exec
  have hb := B.bytes
  have hts := atoms_spec (ws := (.code y_PL_stop b_PL_stop 5 (some .int) :: gx)) B.pre
  have hgx : ∀ w ∈ gx, w.before _ s = true := fun w h => hts w (List.mem_cons_of_mem _ h)
  have hg : ∀ w ∈ gt, w.before _ s = true := fun w h => hgx w (gx_gt h)
  have htx : ∀ w ∈ tx, w.before _ s = true := fun w h => hgx w (List.mem_append_right _ h)
  have hown : s.vm.findClass R_PL = some m.cls := findClass_of_methodNamed B.named
  have hlocks := B.notSynchronized
  have hl := lv_entry ([.ref (ad (0)), .int (iI (x)), .int (iI (at_)), .int (iI (k))]) (n := 5) (Nat.le_of_ble_eq_true rfl)
  rw [lg_entry_eq]
  generalize (lg_sl ([.ref (ad (0)), .int (iI (x)), .int (iI (at_)), .int (iI (k))]) ++ List.replicate (5 - (lg_sl ([.ref (ad (0)), .int (iI (x)), .int (iI (at_)), .int (iI (k))])).length) Slot.unset).toArray = ls at hl ⊢
  have hl : lv_has ls 5 [(0, .ref (ad (0))), (1, .int (iI (x))), (2, .int (iI (at_))), (3, .int (iI (k)))] := hl
  obtain ⟨hx1, hx2⟩ := hx0
  obtain ⟨hw1, hw2⟩ := hw
  obtain ⟨hv1, hv2⟩ := hv
  obtain ⟨hq3, hn8, hst, hz4, hz5⟩ := id hwf
  have hlb : 0 ≤ p_last n (M (31 + 4 * q)) ∧ p_last n (M (31 + 4 * q)) ≤ 30000 := by unfold p_last; split <;> first | exact hz4 _ | omega
  refine lv_iload_n hx hb d_PL_stop_0 rfl (lv_at hl 1 rfl) ?_
  refine z_iconst hx hb (z := 0) d_PL_stop_1 ?_
  refine lv_aload_n hx hb d_PL_stop_2 rfl (lv_at hl 0 rfl) ?_
  refine z_get (ci := 0) (C := R_PL) (T := T_PL) (N := 5) (v := .ref (ad (1))) hx hb hg in_PL hown hK hP (0) (by decide) rfl rfl 0 (by decide) (hg _ (List.mem_append_right _ (List.mem_append_right _ (List.mem_append_right _ (List.mem_append_right _ (List.mem_append_left _ (List.mem_of_getElem? (i := 39) rfl))))))) (fun _ h9 => h9) rfl d_PL_stop_3 ?_
  refine z_get (ci := 1) (C := R_TX) (T := T_TX) (N := 6) (v := .int (iI (M (1) 4))) hx hb hg in_TX hown hK hP (1) (by decide) rfl rfl 4 (by decide) (hg _ (List.mem_append_right _ (List.mem_append_right _ (List.mem_append_left _ (List.mem_of_getElem? (i := 27) rfl))))) (fun _ h9 => h9) rfl d_PL_stop_6 ?_
  refine z_iconst hx hb (z := 1) d_PL_stop_9 ?_
  refine z_isub hx hb d_PL_stop_10 (v := (M (1) 4 - 1)) rfl ?_
  refine ro_S (As := [.int (iI (x)), .int (iI (0)), .int (iI ((M (1) 4 - 1)))]) (rest := []) (z := bz (x < 0 ∨ (M (1) 4 - 1) < x) inferInstance) ⟨hx, hb, hml, hown, hg⟩ (c_isOutside l (x) (0) ((M (1) 4 - 1)) ⟨by omega, by omega⟩ ⟨by decide, by decide⟩ ⟨by omega, by omega⟩) (cwS 3 hg (gt_S (List.mem_append_right _ (List.mem_append_right _ (List.mem_append_right _ (List.mem_append_right _ (List.mem_append_right _ (List.mem_append_right _ (List.mem_append_right _ (List.mem_append_right _ (List.mem_append_right _ (List.mem_append_right _ (List.mem_append_right _ (List.mem_append_left _ (List.mem_of_getElem? (i := 0) rfl))))))))))))) (List.mem_append_right _ (List.mem_append_right _ (List.mem_append_right _ (List.mem_append_right _ (List.mem_append_right _ (List.mem_append_right _ (List.mem_append_right _ (List.mem_append_right _ (List.mem_append_right _ (List.mem_append_right _ (List.mem_append_right _ (List.mem_append_left _ (List.mem_of_getElem? (i := 1) rfl))))))))))))) (List.mem_append_right _ (List.mem_append_left _ (List.mem_of_getElem? (i := 2) rfl))) (List.mem_append_right _ (List.mem_append_right _ (List.mem_append_right _ (List.mem_append_right _ (List.mem_append_right _ (List.mem_append_right _ (List.mem_append_right _ (List.mem_append_right _ (List.mem_append_right _ (List.mem_append_right _ (List.mem_append_right _ (List.mem_append_left _ (List.mem_of_getElem? (i := 2) rfl)))))))))))))) rfl rfl rfl (by decide +kernel) ⟨Nat.le_of_ble_eq_true rfl, Nat.le_of_ble_eq_true rfl⟩) hK hP rfl hl.1 rfl (Nat.le_of_ble_eq_true rfl) d_PL_stop_11 ⟨Nat.zero_le _, Nat.zero_le _⟩ ?_
  refine z_ifb_eq hx hb (tgt := 27) d_PL_stop_14 (by decide) (fun c_14 => ?_) (fun c_14 => ?_)
  · refine lv_aload_n hx hb d_PL_stop_27 rfl (lv_at hl 0 rfl) ?_
    refine z_get (ci := 0) (C := R_PL) (T := T_PL) (N := 5) (v := .ref (ad (1))) hx hb hg in_PL hown hK hP (0) (by decide) rfl rfl 0 (by decide) (hg _ (List.mem_append_right _ (List.mem_append_right _ (List.mem_append_right _ (List.mem_append_right _ (List.mem_append_left _ (List.mem_of_getElem? (i := 39) rfl))))))) (fun _ h9 => h9) rfl d_PL_stop_28 ?_
    refine z_get (ci := 1) (C := R_TX) (T := T_TX) (N := 6) (v := .ref (ad (6))) hx hb hg in_TX hown hK hP (1) (by decide) rfl rfl 0 (by decide) (hg _ (List.mem_append_right _ (List.mem_append_right _ (List.mem_append_left _ (List.mem_of_getElem? (i := 18) rfl))))) (fun _ h9 => h9) rfl d_PL_stop_31 ?_
    refine lv_iload_n hx hb d_PL_stop_34 rfl (lv_at hl 1 rfl) ?_
    refine z_aald hx hb hK hP (6) 2 (by decide) (fun _ => rfl) rfl rfl (q) hxq (by omega) (by decide) d_PL_stop_35 ?_
    refine lv_astore (lv' := [(4, .ref (ad (29 + 4 * q))), (0, .ref (ad (0))), (1, .int (iI (x))), (2, .int (iI (at_))), (3, .int (iI (k)))]) hx hb d_PL_stop_36 hl (by decide) rfl (fun ls hl => ?_)
    refine lv_iload_n hx hb d_PL_stop_38 rfl (lv_at hl 3 rfl) ?_
    refine lv_aload hx hb d_PL_stop_39 (lv_at hl 0 rfl) ?_
    refine ro_V (As := []) (rest := [.int (iI (at_))]) (z := p_last n (M (31 + 4 * q))) ⟨hx, hb, hml, hown, hg⟩ (c_lastStop l q n hq3 hn8 hst) (cwV 0 hg (gt_V (List.mem_append_right _ (List.mem_append_right _ (List.mem_append_right _ (List.mem_append_right _ (List.mem_append_right _ (List.mem_append_right _ (List.mem_append_right _ (List.mem_append_right _ (List.mem_append_right _ (List.mem_append_right _ (List.mem_append_right _ (List.mem_append_left _ (List.mem_of_getElem? (i := 34) rfl))))))))))))) (List.mem_append_right _ (List.mem_append_right _ (List.mem_append_right _ (List.mem_append_right _ (List.mem_append_right _ (List.mem_append_right _ (List.mem_append_left _ (List.mem_of_getElem? (i := 19) rfl)))))))) (List.mem_append_right _ (List.mem_append_right _ (List.mem_append_right _ (List.mem_append_right _ (List.mem_append_right _ (List.mem_append_right _ (List.mem_append_left _ (List.mem_of_getElem? (i := 20) rfl)))))))) (List.mem_append_right _ (List.mem_append_left _ (List.mem_of_getElem? (i := 4) rfl))) (List.mem_append_right _ (List.mem_append_right _ (List.mem_append_right _ (List.mem_append_right _ (List.mem_append_right _ (List.mem_append_right _ (List.mem_append_left _ (List.mem_of_getElem? (i := 21) rfl))))))))) rfl rfl rfl (by decide +kernel) ⟨Nat.le_of_ble_eq_true rfl, Nat.le_of_ble_eq_true rfl⟩) hK hP (va_recv hK hP (ci := 6) (q0 := 29 + 4 * q) rfl (wl_atE (by omega) (pg_par _ _ _ _ _))) rfl hl.1 rfl (Nat.le_of_ble_eq_true rfl) d_PL_stop_41 ⟨Nat.zero_le _, Nat.zero_le _⟩ ?_
    refine z_iconst hx hb (z := 1) d_PL_stop_44 ?_
    refine z_iadd hx hb d_PL_stop_45 (v := (p_last n (M (31 + 4 * q)) + 1)) rfl ?_
    refine z_sipush hx hb (z := 30000) d_PL_stop_46 (by decide) ?_
    refine ro_S (As := [.int (iI (at_)), .int (iI ((p_last n (M (31 + 4 * q)) + 1))), .int (iI (30000))]) (rest := []) (z := bz (at_ < (p_last n (M (31 + 4 * q)) + 1) ∨ 30000 < at_) inferInstance) ⟨hx, hb, hml, hown, hg⟩ (c_isOutside l (at_) ((p_last n (M (31 + 4 * q)) + 1)) (30000) ⟨by omega, by omega⟩ ⟨by omega, by omega⟩ ⟨by decide, by decide⟩) (cwS 3 hg (gt_S (List.mem_append_right _ (List.mem_append_right _ (List.mem_append_right _ (List.mem_append_right _ (List.mem_append_right _ (List.mem_append_right _ (List.mem_append_right _ (List.mem_append_right _ (List.mem_append_right _ (List.mem_append_right _ (List.mem_append_right _ (List.mem_append_left _ (List.mem_of_getElem? (i := 0) rfl))))))))))))) (List.mem_append_right _ (List.mem_append_right _ (List.mem_append_right _ (List.mem_append_right _ (List.mem_append_right _ (List.mem_append_right _ (List.mem_append_right _ (List.mem_append_right _ (List.mem_append_right _ (List.mem_append_right _ (List.mem_append_right _ (List.mem_append_left _ (List.mem_of_getElem? (i := 1) rfl))))))))))))) (List.mem_append_right _ (List.mem_append_left _ (List.mem_of_getElem? (i := 2) rfl))) (List.mem_append_right _ (List.mem_append_right _ (List.mem_append_right _ (List.mem_append_right _ (List.mem_append_right _ (List.mem_append_right _ (List.mem_append_right _ (List.mem_append_right _ (List.mem_append_right _ (List.mem_append_right _ (List.mem_append_right _ (List.mem_append_left _ (List.mem_of_getElem? (i := 2) rfl)))))))))))))) rfl rfl rfl (by decide +kernel) ⟨Nat.le_of_ble_eq_true rfl, Nat.le_of_ble_eq_true rfl⟩) hK hP rfl hl.1 rfl (Nat.le_of_ble_eq_true rfl) d_PL_stop_49 ⟨Nat.zero_le _, Nat.zero_le _⟩ ?_
    refine z_ifb_ne hx hb (tgt := 64) d_PL_stop_52 (by decide) (fun c_52 => ?_) (fun c_52 => ?_)
    · exact z_thA hx hb (hml.trans hl.1.symm) hno hfl hown htx hT (istr := 109) (by decide) d_PL_stop_64 d_PL_stop_67 d_PL_stop_68 d_PL_stop_70 d_PL_stop_73 hlocks ⟨by decide, by decide, by decide, by decide⟩
    · refine lv_iload_n hx hb d_PL_stop_55 rfl (lv_at hl 4 rfl) ?_
      refine z_iconst hx hb (z := 0) d_PL_stop_56 ?_
      refine z_iconst hx hb (z := 2) d_PL_stop_57 ?_
      refine ro_S (As := [.int (iI (k)), .int (iI (0)), .int (iI (2))]) (rest := []) (z := bz (k < 0 ∨ 2 < k) inferInstance) ⟨hx, hb, hml, hown, hg⟩ (c_isOutside l (k) (0) (2) ⟨by omega, by omega⟩ ⟨by decide, by decide⟩ ⟨by decide, by decide⟩) (cwS 3 hg (gt_S (List.mem_append_right _ (List.mem_append_right _ (List.mem_append_right _ (List.mem_append_right _ (List.mem_append_right _ (List.mem_append_right _ (List.mem_append_right _ (List.mem_append_right _ (List.mem_append_right _ (List.mem_append_right _ (List.mem_append_right _ (List.mem_append_left _ (List.mem_of_getElem? (i := 0) rfl))))))))))))) (List.mem_append_right _ (List.mem_append_right _ (List.mem_append_right _ (List.mem_append_right _ (List.mem_append_right _ (List.mem_append_right _ (List.mem_append_right _ (List.mem_append_right _ (List.mem_append_right _ (List.mem_append_right _ (List.mem_append_right _ (List.mem_append_left _ (List.mem_of_getElem? (i := 1) rfl))))))))))))) (List.mem_append_right _ (List.mem_append_left _ (List.mem_of_getElem? (i := 2) rfl))) (List.mem_append_right _ (List.mem_append_right _ (List.mem_append_right _ (List.mem_append_right _ (List.mem_append_right _ (List.mem_append_right _ (List.mem_append_right _ (List.mem_append_right _ (List.mem_append_right _ (List.mem_append_right _ (List.mem_append_right _ (List.mem_append_left _ (List.mem_of_getElem? (i := 2) rfl)))))))))))))) rfl rfl rfl (by decide +kernel) ⟨Nat.le_of_ble_eq_true rfl, Nat.le_of_ble_eq_true rfl⟩) hK hP rfl hl.1 rfl (Nat.le_of_ble_eq_true rfl) d_PL_stop_58 ⟨Nat.zero_le _, Nat.zero_le _⟩ ?_
      refine z_ifb_eq hx hb (tgt := 74) d_PL_stop_61 (by decide) (fun c_61 => ?_) (fun c_61 => ?_)
      · refine lv_aload hx hb d_PL_stop_74 (lv_at hl 0 rfl) ?_
        refine z_get (ci := 6) (C := R_PA) (T := T_PA) (N := 6) (v := .int (iI (M (29 + 4 * q) 3))) hx hb hg in_PA hown hK hP (29 + 4 * q) (by omega) (pg_par _ _ _ _ _) rfl 3 (by decide) (hg _ (List.mem_append_right _ (List.mem_append_right _ (List.mem_append_left _ (List.mem_of_getElem? (i := 4) rfl))))) (fun _ h9 => h9) rfl d_PL_stop_76 ?_
        refine z_bipush hx hb (z := 8) d_PL_stop_79 (by decide) ?_
        refine z_icmp_lt hx hb (tgt := 94) d_PL_stop_81 (by decide) ⟨by omega, by omega⟩ ⟨by decide, by decide⟩ (fun c_81 => ?_) (fun c_81 => ?_)
        · exfalso; unfold inn at h1; omega
        · exfalso; unfold inn at h1; omega
      · exact z_thA hx hb (hml.trans hl.1.symm) hno hfl hown htx hT (istr := 109) (by decide) d_PL_stop_64 d_PL_stop_67 d_PL_stop_68 d_PL_stop_70 d_PL_stop_73 hlocks ⟨by decide, by decide, by decide, by decide⟩
  · exfalso; unfold inn at h1; omega
set_option maxHeartbeats 4000000 in
set_option maxRecDepth 100000 in
/-- stop: it throws z_ISE -/
theorem t_stop_I (l : Launch) (hfl : l.flags = flags0) {D : va_G} {ad : Nat → Nat} {cs : pg_C} {rp : Option Nat} {M : Nat → Nat → Int} (np : Nat) (x at_ k : Int) (hx0 : zb x) (hw : zb at_) (hv : zb k) (hnp : M 1 4 = ((np : Nat) : Int)) (hn : np ≤ 30) (q n : Nat) (hxq : x = ((q : Nat) : Int)) (hqn : q < np) (hwf : wfP M q n) (h1 : inn at_ (p_last n (M (31 + 4 * q)) + 1) 30000 ∧ inn k 0 2) (h2 : n = 8) : MetT l y_PL_stop (.code y_PL_stop b_PL_stop 5 (some .int) :: gx) ({ frames := 6, cells := 1, slots := 6, locals := 82 } : Room) (va_Pc [.ref (ad (0)), .int (iI (x)), .int (iI (at_)), .int (iI (k))] (rt_B D vwCl (pg_tys cs) (pg_w ad cs rp M))) (q_thr z_ISE) 1 6 := by
  refine MetT.ofW (cc := b_PL_stop) (maxL := 5) (ret := (some .int)) (by decide) rfl ?_
  intro p e s m args below meth c s₁ B hml hno hv
  obtain ⟨rfl, ⟨hP, hK⟩, hT⟩ := hv
  have hx := B.exec
  have hb := B.bytes
  have hts := atoms_spec (ws := (.code y_PL_stop b_PL_stop 5 (some .int) :: gx)) B.pre
  have hgx : ∀ w ∈ gx, w.before _ s = true := fun w h => hts w (List.mem_cons_of_mem _ h)
  have hg : ∀ w ∈ gt, w.before _ s = true := fun w h => hgx w (gx_gt h)
  have htx : ∀ w ∈ tx, w.before _ s = true := fun w h => hgx w (List.mem_append_right _ h)
  have hown : s.vm.findClass R_PL = some m.cls := findClass_of_methodNamed B.named
  have hlocks := B.notSynchronized
  have hl := lv_entry ([.ref (ad (0)), .int (iI (x)), .int (iI (at_)), .int (iI (k))]) (n := 5) (Nat.le_of_ble_eq_true rfl)
  rw [lg_entry_eq]
  generalize (lg_sl ([.ref (ad (0)), .int (iI (x)), .int (iI (at_)), .int (iI (k))]) ++ List.replicate (5 - (lg_sl ([.ref (ad (0)), .int (iI (x)), .int (iI (at_)), .int (iI (k))])).length) Slot.unset).toArray = ls at hl ⊢
  have hl : lv_has ls 5 [(0, .ref (ad (0))), (1, .int (iI (x))), (2, .int (iI (at_))), (3, .int (iI (k)))] := hl
  obtain ⟨hx1, hx2⟩ := hx0
  obtain ⟨hw1, hw2⟩ := hw
  obtain ⟨hv1, hv2⟩ := hv
  obtain ⟨hq3, hn8, hst, hz4, hz5⟩ := id hwf
  have hlb : 0 ≤ p_last n (M (31 + 4 * q)) ∧ p_last n (M (31 + 4 * q)) ≤ 30000 := by unfold p_last; split <;> first | exact hz4 _ | omega
  refine lv_iload_n hx hb d_PL_stop_0 rfl (lv_at hl 1 rfl) ?_
  refine z_iconst hx hb (z := 0) d_PL_stop_1 ?_
  refine lv_aload_n hx hb d_PL_stop_2 rfl (lv_at hl 0 rfl) ?_
  refine z_get (ci := 0) (C := R_PL) (T := T_PL) (N := 5) (v := .ref (ad (1))) hx hb hg in_PL hown hK hP (0) (by decide) rfl rfl 0 (by decide) (hg _ (List.mem_append_right _ (List.mem_append_right _ (List.mem_append_right _ (List.mem_append_right _ (List.mem_append_left _ (List.mem_of_getElem? (i := 39) rfl))))))) (fun _ h9 => h9) rfl d_PL_stop_3 ?_
  refine z_get (ci := 1) (C := R_TX) (T := T_TX) (N := 6) (v := .int (iI (M (1) 4))) hx hb hg in_TX hown hK hP (1) (by decide) rfl rfl 4 (by decide) (hg _ (List.mem_append_right _ (List.mem_append_right _ (List.mem_append_left _ (List.mem_of_getElem? (i := 27) rfl))))) (fun _ h9 => h9) rfl d_PL_stop_6 ?_
  refine z_iconst hx hb (z := 1) d_PL_stop_9 ?_
  refine z_isub hx hb d_PL_stop_10 (v := (M (1) 4 - 1)) rfl ?_
  refine ro_S (As := [.int (iI (x)), .int (iI (0)), .int (iI ((M (1) 4 - 1)))]) (rest := []) (z := bz (x < 0 ∨ (M (1) 4 - 1) < x) inferInstance) ⟨hx, hb, hml, hown, hg⟩ (c_isOutside l (x) (0) ((M (1) 4 - 1)) ⟨by omega, by omega⟩ ⟨by decide, by decide⟩ ⟨by omega, by omega⟩) (cwS 3 hg (gt_S (List.mem_append_right _ (List.mem_append_right _ (List.mem_append_right _ (List.mem_append_right _ (List.mem_append_right _ (List.mem_append_right _ (List.mem_append_right _ (List.mem_append_right _ (List.mem_append_right _ (List.mem_append_right _ (List.mem_append_right _ (List.mem_append_left _ (List.mem_of_getElem? (i := 0) rfl))))))))))))) (List.mem_append_right _ (List.mem_append_right _ (List.mem_append_right _ (List.mem_append_right _ (List.mem_append_right _ (List.mem_append_right _ (List.mem_append_right _ (List.mem_append_right _ (List.mem_append_right _ (List.mem_append_right _ (List.mem_append_right _ (List.mem_append_left _ (List.mem_of_getElem? (i := 1) rfl))))))))))))) (List.mem_append_right _ (List.mem_append_left _ (List.mem_of_getElem? (i := 2) rfl))) (List.mem_append_right _ (List.mem_append_right _ (List.mem_append_right _ (List.mem_append_right _ (List.mem_append_right _ (List.mem_append_right _ (List.mem_append_right _ (List.mem_append_right _ (List.mem_append_right _ (List.mem_append_right _ (List.mem_append_right _ (List.mem_append_left _ (List.mem_of_getElem? (i := 2) rfl)))))))))))))) rfl rfl rfl (by decide +kernel) ⟨Nat.le_of_ble_eq_true rfl, Nat.le_of_ble_eq_true rfl⟩) hK hP rfl hl.1 rfl (Nat.le_of_ble_eq_true rfl) d_PL_stop_11 ⟨Nat.zero_le _, Nat.zero_le _⟩ ?_
  refine z_ifb_eq hx hb (tgt := 27) d_PL_stop_14 (by decide) (fun c_14 => ?_) (fun c_14 => ?_)
  · refine lv_aload_n hx hb d_PL_stop_27 rfl (lv_at hl 0 rfl) ?_
    refine z_get (ci := 0) (C := R_PL) (T := T_PL) (N := 5) (v := .ref (ad (1))) hx hb hg in_PL hown hK hP (0) (by decide) rfl rfl 0 (by decide) (hg _ (List.mem_append_right _ (List.mem_append_right _ (List.mem_append_right _ (List.mem_append_right _ (List.mem_append_left _ (List.mem_of_getElem? (i := 39) rfl))))))) (fun _ h9 => h9) rfl d_PL_stop_28 ?_
    refine z_get (ci := 1) (C := R_TX) (T := T_TX) (N := 6) (v := .ref (ad (6))) hx hb hg in_TX hown hK hP (1) (by decide) rfl rfl 0 (by decide) (hg _ (List.mem_append_right _ (List.mem_append_right _ (List.mem_append_left _ (List.mem_of_getElem? (i := 18) rfl))))) (fun _ h9 => h9) rfl d_PL_stop_31 ?_
    refine lv_iload_n hx hb d_PL_stop_34 rfl (lv_at hl 1 rfl) ?_
    refine z_aald hx hb hK hP (6) 2 (by decide) (fun _ => rfl) rfl rfl (q) hxq (by omega) (by decide) d_PL_stop_35 ?_
    refine lv_astore (lv' := [(4, .ref (ad (29 + 4 * q))), (0, .ref (ad (0))), (1, .int (iI (x))), (2, .int (iI (at_))), (3, .int (iI (k)))]) hx hb d_PL_stop_36 hl (by decide) rfl (fun ls hl => ?_)
    refine lv_iload_n hx hb d_PL_stop_38 rfl (lv_at hl 3 rfl) ?_
    refine lv_aload hx hb d_PL_stop_39 (lv_at hl 0 rfl) ?_
    refine ro_V (As := []) (rest := [.int (iI (at_))]) (z := p_last n (M (31 + 4 * q))) ⟨hx, hb, hml, hown, hg⟩ (c_lastStop l q n hq3 hn8 hst) (cwV 0 hg (gt_V (List.mem_append_right _ (List.mem_append_right _ (List.mem_append_right _ (List.mem_append_right _ (List.mem_append_right _ (List.mem_append_right _ (List.mem_append_right _ (List.mem_append_right _ (List.mem_append_right _ (List.mem_append_right _ (List.mem_append_right _ (List.mem_append_left _ (List.mem_of_getElem? (i := 34) rfl))))))))))))) (List.mem_append_right _ (List.mem_append_right _ (List.mem_append_right _ (List.mem_append_right _ (List.mem_append_right _ (List.mem_append_right _ (List.mem_append_left _ (List.mem_of_getElem? (i := 19) rfl)))))))) (List.mem_append_right _ (List.mem_append_right _ (List.mem_append_right _ (List.mem_append_right _ (List.mem_append_right _ (List.mem_append_right _ (List.mem_append_left _ (List.mem_of_getElem? (i := 20) rfl)))))))) (List.mem_append_right _ (List.mem_append_left _ (List.mem_of_getElem? (i := 4) rfl))) (List.mem_append_right _ (List.mem_append_right _ (List.mem_append_right _ (List.mem_append_right _ (List.mem_append_right _ (List.mem_append_right _ (List.mem_append_left _ (List.mem_of_getElem? (i := 21) rfl))))))))) rfl rfl rfl (by decide +kernel) ⟨Nat.le_of_ble_eq_true rfl, Nat.le_of_ble_eq_true rfl⟩) hK hP (va_recv hK hP (ci := 6) (q0 := 29 + 4 * q) rfl (wl_atE (by omega) (pg_par _ _ _ _ _))) rfl hl.1 rfl (Nat.le_of_ble_eq_true rfl) d_PL_stop_41 ⟨Nat.zero_le _, Nat.zero_le _⟩ ?_
    refine z_iconst hx hb (z := 1) d_PL_stop_44 ?_
    refine z_iadd hx hb d_PL_stop_45 (v := (p_last n (M (31 + 4 * q)) + 1)) rfl ?_
    refine z_sipush hx hb (z := 30000) d_PL_stop_46 (by decide) ?_
    refine ro_S (As := [.int (iI (at_)), .int (iI ((p_last n (M (31 + 4 * q)) + 1))), .int (iI (30000))]) (rest := []) (z := bz (at_ < (p_last n (M (31 + 4 * q)) + 1) ∨ 30000 < at_) inferInstance) ⟨hx, hb, hml, hown, hg⟩ (c_isOutside l (at_) ((p_last n (M (31 + 4 * q)) + 1)) (30000) ⟨by omega, by omega⟩ ⟨by omega, by omega⟩ ⟨by decide, by decide⟩) (cwS 3 hg (gt_S (List.mem_append_right _ (List.mem_append_right _ (List.mem_append_right _ (List.mem_append_right _ (List.mem_append_right _ (List.mem_append_right _ (List.mem_append_right _ (List.mem_append_right _ (List.mem_append_right _ (List.mem_append_right _ (List.mem_append_right _ (List.mem_append_left _ (List.mem_of_getElem? (i := 0) rfl))))))))))))) (List.mem_append_right _ (List.mem_append_right _ (List.mem_append_right _ (List.mem_append_right _ (List.mem_append_right _ (List.mem_append_right _ (List.mem_append_right _ (List.mem_append_right _ (List.mem_append_right _ (List.mem_append_right _ (List.mem_append_right _ (List.mem_append_left _ (List.mem_of_getElem? (i := 1) rfl))))))))))))) (List.mem_append_right _ (List.mem_append_left _ (List.mem_of_getElem? (i := 2) rfl))) (List.mem_append_right _ (List.mem_append_right _ (List.mem_append_right _ (List.mem_append_right _ (List.mem_append_right _ (List.mem_append_right _ (List.mem_append_right _ (List.mem_append_right _ (List.mem_append_right _ (List.mem_append_right _ (List.mem_append_right _ (List.mem_append_left _ (List.mem_of_getElem? (i := 2) rfl)))))))))))))) rfl rfl rfl (by decide +kernel) ⟨Nat.le_of_ble_eq_true rfl, Nat.le_of_ble_eq_true rfl⟩) hK hP rfl hl.1 rfl (Nat.le_of_ble_eq_true rfl) d_PL_stop_49 ⟨Nat.zero_le _, Nat.zero_le _⟩ ?_
    refine z_ifb_ne hx hb (tgt := 64) d_PL_stop_52 (by decide) (fun c_52 => ?_) (fun c_52 => ?_)
    · exfalso; unfold inn at h1; omega
    · refine lv_iload_n hx hb d_PL_stop_55 rfl (lv_at hl 4 rfl) ?_
      refine z_iconst hx hb (z := 0) d_PL_stop_56 ?_
      refine z_iconst hx hb (z := 2) d_PL_stop_57 ?_
      refine ro_S (As := [.int (iI (k)), .int (iI (0)), .int (iI (2))]) (rest := []) (z := bz (k < 0 ∨ 2 < k) inferInstance) ⟨hx, hb, hml, hown, hg⟩ (c_isOutside l (k) (0) (2) ⟨by omega, by omega⟩ ⟨by decide, by decide⟩ ⟨by decide, by decide⟩) (cwS 3 hg (gt_S (List.mem_append_right _ (List.mem_append_right _ (List.mem_append_right _ (List.mem_append_right _ (List.mem_append_right _ (List.mem_append_right _ (List.mem_append_right _ (List.mem_append_right _ (List.mem_append_right _ (List.mem_append_right _ (List.mem_append_right _ (List.mem_append_left _ (List.mem_of_getElem? (i := 0) rfl))))))))))))) (List.mem_append_right _ (List.mem_append_right _ (List.mem_append_right _ (List.mem_append_right _ (List.mem_append_right _ (List.mem_append_right _ (List.mem_append_right _ (List.mem_append_right _ (List.mem_append_right _ (List.mem_append_right _ (List.mem_append_right _ (List.mem_append_left _ (List.mem_of_getElem? (i := 1) rfl))))))))))))) (List.mem_append_right _ (List.mem_append_left _ (List.mem_of_getElem? (i := 2) rfl))) (List.mem_append_right _ (List.mem_append_right _ (List.mem_append_right _ (List.mem_append_right _ (List.mem_append_right _ (List.mem_append_right _ (List.mem_append_right _ (List.mem_append_right _ (List.mem_append_right _ (List.mem_append_right _ (List.mem_append_right _ (List.mem_append_left _ (List.mem_of_getElem? (i := 2) rfl)))))))))))))) rfl rfl rfl (by decide +kernel) ⟨Nat.le_of_ble_eq_true rfl, Nat.le_of_ble_eq_true rfl⟩) hK hP rfl hl.1 rfl (Nat.le_of_ble_eq_true rfl) d_PL_stop_58 ⟨Nat.zero_le _, Nat.zero_le _⟩ ?_
      refine z_ifb_eq hx hb (tgt := 74) d_PL_stop_61 (by decide) (fun c_61 => ?_) (fun c_61 => ?_)
      · refine lv_aload hx hb d_PL_stop_74 (lv_at hl 0 rfl) ?_
        refine z_get (ci := 6) (C := R_PA) (T := T_PA) (N := 6) (v := .int (iI (M (29 + 4 * q) 3))) hx hb hg in_PA hown hK hP (29 + 4 * q) (by omega) (pg_par _ _ _ _ _) rfl 3 (by decide) (hg _ (List.mem_append_right _ (List.mem_append_right _ (List.mem_append_left _ (List.mem_of_getElem? (i := 4) rfl))))) (fun _ h9 => h9) rfl d_PL_stop_76 ?_
        refine z_bipush hx hb (z := 8) d_PL_stop_79 (by decide) ?_
        refine z_icmp_lt hx hb (tgt := 94) d_PL_stop_81 (by decide) ⟨by omega, by omega⟩ ⟨by decide, by decide⟩ (fun c_81 => ?_) (fun c_81 => ?_)
        · exfalso; unfold inn at h1; omega
        · exact z_thI hx hb (hml.trans hl.1.symm) hno hfl hown htx hT (istr := 114) (by decide) d_PL_stop_84 d_PL_stop_87 d_PL_stop_88 d_PL_stop_90 d_PL_stop_93 hlocks ⟨by decide, by decide, by decide, by decide⟩
      · exfalso; unfold inn at h1; omega
  · exfalso; unfold inn at h1; omega
set_option maxHeartbeats 4000000 in
set_option maxRecDepth 100000 in
/-- sheet: it throws z_IAE -/
theorem t_sheet_A (l : Launch) (hfl : l.flags = flags0) {D : va_G} {ad : Nat → Nat} {cs : pg_C} {rp : Option Nat} {M : Nat → Nat → Int} (wd h sp : Int) (hx0 : zb wd) (hw : zb h) (hv : zb sp) (h1 : ¬ (inn wd 1 30000 ∧ inn h 1 30000 ∧ inn sp 1 30000)) : MetT l y_PL_sheet (.code y_PL_sheet b_PL_sheet 4 none :: gx) ({ frames := 6, cells := 1, slots := 6, locals := 82 } : Room) (va_Pc [.ref (ad (0)), .int (iI (wd)), .int (iI (h)), .int (iI (sp))] (rt_B D vwCl (pg_tys cs) (pg_w ad cs rp M))) (q_thr z_IAE) 1 6 := by
  refine MetT.ofW (cc := b_PL_sheet) (maxL := 4) (ret := none) (by decide) rfl ?_
  intro p e s m args below meth c s₁ B hml hno hv
  obtain ⟨rfl, ⟨hP, hK⟩, hT⟩ := hv
  have hx := B.exec
  have hb := B.bytes
  have hts := atoms_spec (ws := (.code y_PL_sheet b_PL_sheet 4 none :: gx)) B.pre
  have hgx : ∀ w ∈ gx, w.before _ s = true := fun w h => hts w (List.mem_cons_of_mem _ h)
  have hg : ∀ w ∈ gt, w.before _ s = true := fun w h => hgx w (gx_gt h)
  have htx : ∀ w ∈ tx, w.before _ s = true := fun w h => hgx w (List.mem_append_right _ h)
  have hown : s.vm.findClass R_PL = some m.cls := findClass_of_methodNamed B.named
  have hlocks := B.notSynchronized
  have hl := lv_entry ([.ref (ad (0)), .int (iI (wd)), .int (iI (h)), .int (iI (sp))]) (n := 4) (Nat.le_of_ble_eq_true rfl)
  rw [lg_entry_eq]
  generalize (lg_sl ([.ref (ad (0)), .int (iI (wd)), .int (iI (h)), .int (iI (sp))]) ++ List.replicate (4 - (lg_sl ([.ref (ad (0)), .int (iI (wd)), .int (iI (h)), .int (iI (sp))])).length) Slot.unset).toArray = ls at hl ⊢
  have hl : lv_has ls 4 [(0, .ref (ad (0))), (1, .int (iI (wd))), (2, .int (iI (h))), (3, .int (iI (sp)))] := hl
  obtain ⟨hx1, hx2⟩ := hx0
  obtain ⟨hw1, hw2⟩ := hw
  obtain ⟨hv1, hv2⟩ := hv
  refine lv_iload_n hx hb d_PL_sheet_0 rfl (lv_at hl 1 rfl) ?_
  refine z_iconst hx hb (z := 1) d_PL_sheet_1 ?_
  refine z_sipush hx hb (z := 30000) d_PL_sheet_2 (by decide) ?_
  refine ro_S (As := [.int (iI (wd)), .int (iI (1)), .int (iI (30000))]) (rest := []) (z := bz (wd < 1 ∨ 30000 < wd) inferInstance) ⟨hx, hb, hml, hown, hg⟩ (c_isOutside l (wd) (1) (30000) ⟨by omega, by omega⟩ ⟨by decide, by decide⟩ ⟨by decide, by decide⟩) (cwS 3 hg (gt_S (List.mem_append_right _ (List.mem_append_right _ (List.mem_append_right _ (List.mem_append_right _ (List.mem_append_right _ (List.mem_append_right _ (List.mem_append_right _ (List.mem_append_right _ (List.mem_append_right _ (List.mem_append_right _ (List.mem_append_right _ (List.mem_append_left _ (List.mem_of_getElem? (i := 0) rfl))))))))))))) (List.mem_append_right _ (List.mem_append_right _ (List.mem_append_right _ (List.mem_append_right _ (List.mem_append_right _ (List.mem_append_right _ (List.mem_append_right _ (List.mem_append_right _ (List.mem_append_right _ (List.mem_append_right _ (List.mem_append_right _ (List.mem_append_left _ (List.mem_of_getElem? (i := 1) rfl))))))))))))) (List.mem_append_right _ (List.mem_append_left _ (List.mem_of_getElem? (i := 2) rfl))) (List.mem_append_right _ (List.mem_append_right _ (List.mem_append_right _ (List.mem_append_right _ (List.mem_append_right _ (List.mem_append_right _ (List.mem_append_right _ (List.mem_append_right _ (List.mem_append_right _ (List.mem_append_right _ (List.mem_append_right _ (List.mem_append_left _ (List.mem_of_getElem? (i := 2) rfl)))))))))))))) rfl rfl rfl (by decide +kernel) ⟨Nat.le_of_ble_eq_true rfl, Nat.le_of_ble_eq_true rfl⟩) hK hP rfl hl.1 rfl (Nat.le_of_ble_eq_true rfl) d_PL_sheet_5 ⟨Nat.zero_le _, Nat.zero_le _⟩ ?_
  refine z_ifb_ne hx hb (tgt := 33) d_PL_sheet_8 (by decide) (fun c_8 => ?_) (fun c_8 => ?_)
  · exact z_thA hx hb (hml.trans hl.1.symm) hno hfl hown htx hT (istr := 120) (by decide) d_PL_sheet_33 d_PL_sheet_36 d_PL_sheet_37 d_PL_sheet_39 d_PL_sheet_42 hlocks ⟨by decide, by decide, by decide, by decide⟩
  · refine lv_iload_n hx hb d_PL_sheet_11 rfl (lv_at hl 2 rfl) ?_
    refine z_iconst hx hb (z := 1) d_PL_sheet_12 ?_
    refine z_sipush hx hb (z := 30000) d_PL_sheet_13 (by decide) ?_
    refine ro_S (As := [.int (iI (h)), .int (iI (1)), .int (iI (30000))]) (rest := []) (z := bz (h < 1 ∨ 30000 < h) inferInstance) ⟨hx, hb, hml, hown, hg⟩ (c_isOutside l (h) (1) (30000) ⟨by omega, by omega⟩ ⟨by decide, by decide⟩ ⟨by decide, by decide⟩) (cwS 3 hg (gt_S (List.mem_append_right _ (List.mem_append_right _ (List.mem_append_right _ (List.mem_append_right _ (List.mem_append_right _ (List.mem_append_right _ (List.mem_append_right _ (List.mem_append_right _ (List.mem_append_right _ (List.mem_append_right _ (List.mem_append_right _ (List.mem_append_left _ (List.mem_of_getElem? (i := 0) rfl))))))))))))) (List.mem_append_right _ (List.mem_append_right _ (List.mem_append_right _ (List.mem_append_right _ (List.mem_append_right _ (List.mem_append_right _ (List.mem_append_right _ (List.mem_append_right _ (List.mem_append_right _ (List.mem_append_right _ (List.mem_append_right _ (List.mem_append_left _ (List.mem_of_getElem? (i := 1) rfl))))))))))))) (List.mem_append_right _ (List.mem_append_left _ (List.mem_of_getElem? (i := 2) rfl))) (List.mem_append_right _ (List.mem_append_right _ (List.mem_append_right _ (List.mem_append_right _ (List.mem_append_right _ (List.mem_append_right _ (List.mem_append_right _ (List.mem_append_right _ (List.mem_append_right _ (List.mem_append_right _ (List.mem_append_right _ (List.mem_append_left _ (List.mem_of_getElem? (i := 2) rfl)))))))))))))) rfl rfl rfl (by decide +kernel) ⟨Nat.le_of_ble_eq_true rfl, Nat.le_of_ble_eq_true rfl⟩) hK hP rfl hl.1 rfl (Nat.le_of_ble_eq_true rfl) d_PL_sheet_16 ⟨Nat.zero_le _, Nat.zero_le _⟩ ?_
    refine z_ifb_ne hx hb (tgt := 33) d_PL_sheet_19 (by decide) (fun c_19 => ?_) (fun c_19 => ?_)
    · exact z_thA hx hb (hml.trans hl.1.symm) hno hfl hown htx hT (istr := 120) (by decide) d_PL_sheet_33 d_PL_sheet_36 d_PL_sheet_37 d_PL_sheet_39 d_PL_sheet_42 hlocks ⟨by decide, by decide, by decide, by decide⟩
    · refine lv_iload_n hx hb d_PL_sheet_22 rfl (lv_at hl 3 rfl) ?_
      refine z_iconst hx hb (z := 1) d_PL_sheet_23 ?_
      refine z_sipush hx hb (z := 30000) d_PL_sheet_24 (by decide) ?_
      refine ro_S (As := [.int (iI (sp)), .int (iI (1)), .int (iI (30000))]) (rest := []) (z := bz (sp < 1 ∨ 30000 < sp) inferInstance) ⟨hx, hb, hml, hown, hg⟩ (c_isOutside l (sp) (1) (30000) ⟨by omega, by omega⟩ ⟨by decide, by decide⟩ ⟨by decide, by decide⟩) (cwS 3 hg (gt_S (List.mem_append_right _ (List.mem_append_right _ (List.mem_append_right _ (List.mem_append_right _ (List.mem_append_right _ (List.mem_append_right _ (List.mem_append_right _ (List.mem_append_right _ (List.mem_append_right _ (List.mem_append_right _ (List.mem_append_right _ (List.mem_append_left _ (List.mem_of_getElem? (i := 0) rfl))))))))))))) (List.mem_append_right _ (List.mem_append_right _ (List.mem_append_right _ (List.mem_append_right _ (List.mem_append_right _ (List.mem_append_right _ (List.mem_append_right _ (List.mem_append_right _ (List.mem_append_right _ (List.mem_append_right _ (List.mem_append_right _ (List.mem_append_left _ (List.mem_of_getElem? (i := 1) rfl))))))))))))) (List.mem_append_right _ (List.mem_append_left _ (List.mem_of_getElem? (i := 2) rfl))) (List.mem_append_right _ (List.mem_append_right _ (List.mem_append_right _ (List.mem_append_right _ (List.mem_append_right _ (List.mem_append_right _ (List.mem_append_right _ (List.mem_append_right _ (List.mem_append_right _ (List.mem_append_right _ (List.mem_append_right _ (List.mem_append_left _ (List.mem_of_getElem? (i := 2) rfl)))))))))))))) rfl rfl rfl (by decide +kernel) ⟨Nat.le_of_ble_eq_true rfl, Nat.le_of_ble_eq_true rfl⟩) hK hP rfl hl.1 rfl (Nat.le_of_ble_eq_true rfl) d_PL_sheet_27 ⟨Nat.zero_le _, Nat.zero_le _⟩ ?_
      refine z_ifb_eq hx hb (tgt := 43) d_PL_sheet_30 (by decide) (fun c_30 => ?_) (fun c_30 => ?_)
      · exfalso; unfold inn at h1; omega
      · exact z_thA hx hb (hml.trans hl.1.symm) hno hfl hown htx hT (istr := 120) (by decide) d_PL_sheet_33 d_PL_sheet_36 d_PL_sheet_37 d_PL_sheet_39 d_PL_sheet_42 hlocks ⟨by decide, by decide, by decide, by decide⟩
set_option maxHeartbeats 4000000 in
set_option maxRecDepth 100000 in
/-- line: it throws z_NSE -/
theorem t_line_N (l : Launch) (hfl : l.flags = flags0) {D : va_G} {ad : Nat → Nat} {cs : pg_C} {rp : Option Nat} {M : Nat → Nat → Int} (x wh : Int) (hx0 : zb x) (hw : zb wh) (nl : Nat) (hn : M 3 2 = ((nl : Nat) : Int)) (hn6 : nl ≤ 630) (h0 : ¬ inn x 0 (((nl : Nat) : Int) - 1)) : MetT l y_PL_line (.code y_PL_line b_PL_line 3 (some .int) :: gx) ({ frames := 6, cells := 1, slots := 6, locals := 82 } : Room) (va_Pc [.ref (ad (0)), .int (iI (x)), .int (iI (wh))] (rt_B D vwCl (pg_tys cs) (pg_w ad cs rp M))) (q_thr z_NSE) 1 6 := by
  refine MetT.ofW (cc := b_PL_line) (maxL := 3) (ret := (some .int)) (by decide) rfl ?_
  intro p e s m args below meth c s₁ B hml hno hv
  obtain ⟨rfl, ⟨hP, hK⟩, hT⟩ := hv
  have hx := B.exec
  have hb := B.bytes
  have hts := atoms_spec (ws := (.code y_PL_line b_PL_line 3 (some .int) :: gx)) B.pre
  have hgx : ∀ w ∈ gx, w.before _ s = true := fun w h => hts w (List.mem_cons_of_mem _ h)
  have hg : ∀ w ∈ gt, w.before _ s = true := fun w h => hgx w (gx_gt h)
  have htx : ∀ w ∈ tx, w.before _ s = true := fun w h => hgx w (List.mem_append_right _ h)
  have hown : s.vm.findClass R_PL = some m.cls := findClass_of_methodNamed B.named
  have hlocks := B.notSynchronized
  have hl := lv_entry ([.ref (ad (0)), .int (iI (x)), .int (iI (wh))]) (n := 3) (Nat.le_of_ble_eq_true rfl)
  rw [lg_entry_eq]
  generalize (lg_sl ([.ref (ad (0)), .int (iI (x)), .int (iI (wh))]) ++ List.replicate (3 - (lg_sl ([.ref (ad (0)), .int (iI (x)), .int (iI (wh))])).length) Slot.unset).toArray = ls at hl ⊢
  have hl : lv_has ls 3 [(0, .ref (ad (0))), (1, .int (iI (x))), (2, .int (iI (wh)))] := hl
  obtain ⟨hx1, hx2⟩ := hx0
  obtain ⟨hw1, hw2⟩ := hw
  refine lv_iload_n hx hb d_PL_line_0 rfl (lv_at hl 1 rfl) ?_
  refine z_iconst hx hb (z := 0) d_PL_line_1 ?_
  refine lv_aload_n hx hb d_PL_line_2 rfl (lv_at hl 0 rfl) ?_
  refine z_get (ci := 0) (C := R_PL) (T := T_PL) (N := 5) (v := .ref (ad (3))) hx hb hg in_PL hown hK hP (0) (by decide) rfl rfl 2 (by decide) (hg _ (List.mem_append_right _ (List.mem_append_right _ (List.mem_append_right _ (List.mem_append_right _ (List.mem_append_right _ (List.mem_append_left _ (List.mem_of_getElem? (i := 1) rfl)))))))) (fun _ h9 => h9) rfl d_PL_line_3 ?_
  refine z_get (ci := 3) (C := R_LN) (T := T_LN) (N := 6) (v := .int (iI (M (3) 2))) hx hb hg in_LN hown hK hP (3) (by decide) rfl rfl 2 (by decide) (hg _ (List.mem_append_right _ (List.mem_append_right _ (List.mem_append_right _ (List.mem_append_right _ (List.mem_append_left _ (List.mem_of_getElem? (i := 10) rfl))))))) (fun _ h9 => h9) rfl d_PL_line_6 ?_
  refine z_iconst hx hb (z := 1) d_PL_line_9 ?_
  refine z_isub hx hb d_PL_line_10 (v := (M (3) 2 - 1)) rfl ?_
  refine ro_S (As := [.int (iI (x)), .int (iI (0)), .int (iI ((M (3) 2 - 1)))]) (rest := []) (z := bz (x < 0 ∨ (M (3) 2 - 1) < x) inferInstance) ⟨hx, hb, hml, hown, hg⟩ (c_isOutside l (x) (0) ((M (3) 2 - 1)) ⟨by omega, by omega⟩ ⟨by decide, by decide⟩ ⟨by omega, by omega⟩) (cwS 3 hg (gt_S (List.mem_append_right _ (List.mem_append_right _ (List.mem_append_right _ (List.mem_append_right _ (List.mem_append_right _ (List.mem_append_right _ (List.mem_append_right _ (List.mem_append_right _ (List.mem_append_right _ (List.mem_append_right _ (List.mem_append_right _ (List.mem_append_left _ (List.mem_of_getElem? (i := 0) rfl))))))))))))) (List.mem_append_right _ (List.mem_append_right _ (List.mem_append_right _ (List.mem_append_right _ (List.mem_append_right _ (List.mem_append_right _ (List.mem_append_right _ (List.mem_append_right _ (List.mem_append_right _ (List.mem_append_right _ (List.mem_append_right _ (List.mem_append_left _ (List.mem_of_getElem? (i := 1) rfl))))))))))))) (List.mem_append_right _ (List.mem_append_left _ (List.mem_of_getElem? (i := 2) rfl))) (List.mem_append_right _ (List.mem_append_right _ (List.mem_append_right _ (List.mem_append_right _ (List.mem_append_right _ (List.mem_append_right _ (List.mem_append_right _ (List.mem_append_right _ (List.mem_append_right _ (List.mem_append_right _ (List.mem_append_right _ (List.mem_append_left _ (List.mem_of_getElem? (i := 2) rfl)))))))))))))) rfl rfl rfl (by decide +kernel) ⟨Nat.le_of_ble_eq_true rfl, Nat.le_of_ble_eq_true rfl⟩) hK hP rfl hl.1 rfl (Nat.le_of_ble_eq_true rfl) d_PL_line_11 ⟨Nat.zero_le _, Nat.zero_le _⟩ ?_
  refine z_ifb_eq hx hb (tgt := 27) d_PL_line_14 (by decide) (fun c_14 => ?_) (fun c_14 => ?_)
  · refine lv_iload_n hx hb d_PL_line_27 rfl (lv_at hl 2 rfl) ?_
    refine z_iconst hx hb (z := 0) d_PL_line_28 ?_
    refine z_bipush hx hb (z := 9) d_PL_line_29 (by decide) ?_
    refine ro_S (As := [.int (iI (wh)), .int (iI (0)), .int (iI (9))]) (rest := []) (z := bz (wh < 0 ∨ 9 < wh) inferInstance) ⟨hx, hb, hml, hown, hg⟩ (c_isOutside l (wh) (0) (9) ⟨by omega, by omega⟩ ⟨by decide, by decide⟩ ⟨by decide, by decide⟩) (cwS 3 hg (gt_S (List.mem_append_right _ (List.mem_append_right _ (List.mem_append_right _ (List.mem_append_right _ (List.mem_append_right _ (List.mem_append_right _ (List.mem_append_right _ (List.mem_append_right _ (List.mem_append_right _ (List.mem_append_right _ (List.mem_append_right _ (List.mem_append_left _ (List.mem_of_getElem? (i := 0) rfl))))))))))))) (List.mem_append_right _ (List.mem_append_right _ (List.mem_append_right _ (List.mem_append_right _ (List.mem_append_right _ (List.mem_append_right _ (List.mem_append_right _ (List.mem_append_right _ (List.mem_append_right _ (List.mem_append_right _ (List.mem_append_right _ (List.mem_append_left _ (List.mem_of_getElem? (i := 1) rfl))))))))))))) (List.mem_append_right _ (List.mem_append_left _ (List.mem_of_getElem? (i := 2) rfl))) (List.mem_append_right _ (List.mem_append_right _ (List.mem_append_right _ (List.mem_append_right _ (List.mem_append_right _ (List.mem_append_right _ (List.mem_append_right _ (List.mem_append_right _ (List.mem_append_right _ (List.mem_append_right _ (List.mem_append_right _ (List.mem_append_left _ (List.mem_of_getElem? (i := 2) rfl)))))))))))))) rfl rfl rfl (by decide +kernel) ⟨Nat.le_of_ble_eq_true rfl, Nat.le_of_ble_eq_true rfl⟩) hK hP rfl hl.1 rfl (Nat.le_of_ble_eq_true rfl) d_PL_line_31 ⟨Nat.zero_le _, Nat.zero_le _⟩ ?_
    refine z_ifb_eq hx hb (tgt := 47) d_PL_line_34 (by decide) (fun c_34 => ?_) (fun c_34 => ?_)
    · exfalso; unfold inn at h0; omega
    · exfalso; unfold inn at h0; omega
  · exact z_thN hx hb (hml.trans hl.1.symm) hno hfl hown htx hT (istr := 141) (by decide) d_PL_line_17 d_PL_line_20 d_PL_line_21 d_PL_line_23 d_PL_line_26 hlocks ⟨by decide, by decide, by decide, by decide⟩
set_option maxHeartbeats 4000000 in
set_option maxRecDepth 100000 in
/-- line: it throws z_IAE -/
theorem t_line_A (l : Launch) (hfl : l.flags = flags0) {D : va_G} {ad : Nat → Nat} {cs : pg_C} {rp : Option Nat} {M : Nat → Nat → Int} (x wh : Int) (hx0 : zb x) (hw : zb wh) (nl : Nat) (hn : M 3 2 = ((nl : Nat) : Int)) (hn6 : nl ≤ 630) (h0 : inn x 0 (((nl : Nat) : Int) - 1)) (h1 : ¬ inn wh 0 9) : MetT l y_PL_line (.code y_PL_line b_PL_line 3 (some .int) :: gx) ({ frames := 6, cells := 1, slots := 6, locals := 82 } : Room) (va_Pc [.ref (ad (0)), .int (iI (x)), .int (iI (wh))] (rt_B D vwCl (pg_tys cs) (pg_w ad cs rp M))) (q_thr z_IAE) 1 6 := by
  refine MetT.ofW (cc := b_PL_line) (maxL := 3) (ret := (some .int)) (by decide) rfl ?_
  intro p e s m args below meth c s₁ B hml hno hv
  obtain ⟨rfl, ⟨hP, hK⟩, hT⟩ := hv
  have hx := B.exec
  have hb := B.bytes
  have hts := atoms_spec (ws := (.code y_PL_line b_PL_line 3 (some .int) :: gx)) B.pre
  have hgx : ∀ w ∈ gx, w.before _ s = true := fun w h => hts w (List.mem_cons_of_mem _ h)
  have hg : ∀ w ∈ gt, w.before _ s = true := fun w h => hgx w (gx_gt h)
  have htx : ∀ w ∈ tx, w.before _ s = true := fun w h => hgx w (List.mem_append_right _ h)
  have hown : s.vm.findClass R_PL = some m.cls := findClass_of_methodNamed B.named
  have hlocks := B.notSynchronized
  have hl := lv_entry ([.ref (ad (0)), .int (iI (x)), .int (iI (wh))]) (n := 3) (Nat.le_of_ble_eq_true rfl)
  rw [lg_entry_eq]
  generalize (lg_sl ([.ref (ad (0)), .int (iI (x)), .int (iI (wh))]) ++ List.replicate (3 - (lg_sl ([.ref (ad (0)), .int (iI (x)), .int (iI (wh))])).length) Slot.unset).toArray = ls at hl ⊢
  have hl : lv_has ls 3 [(0, .ref (ad (0))), (1, .int (iI (x))), (2, .int (iI (wh)))] := hl
  obtain ⟨hx1, hx2⟩ := hx0
  obtain ⟨hw1, hw2⟩ := hw
  refine lv_iload_n hx hb d_PL_line_0 rfl (lv_at hl 1 rfl) ?_
  refine z_iconst hx hb (z := 0) d_PL_line_1 ?_
  refine lv_aload_n hx hb d_PL_line_2 rfl (lv_at hl 0 rfl) ?_
  refine z_get (ci := 0) (C := R_PL) (T := T_PL) (N := 5) (v := .ref (ad (3))) hx hb hg in_PL hown hK hP (0) (by decide) rfl rfl 2 (by decide) (hg _ (List.mem_append_right _ (List.mem_append_right _ (List.mem_append_right _ (List.mem_append_right _ (List.mem_append_right _ (List.mem_append_left _ (List.mem_of_getElem? (i := 1) rfl)))))))) (fun _ h9 => h9) rfl d_PL_line_3 ?_
  refine z_get (ci := 3) (C := R_LN) (T := T_LN) (N := 6) (v := .int (iI (M (3) 2))) hx hb hg in_LN hown hK hP (3) (by decide) rfl rfl 2 (by decide) (hg _ (List.mem_append_right _ (List.mem_append_right _ (List.mem_append_right _ (List.mem_append_right _ (List.mem_append_left _ (List.mem_of_getElem? (i := 10) rfl))))))) (fun _ h9 => h9) rfl d_PL_line_6 ?_
  refine z_iconst hx hb (z := 1) d_PL_line_9 ?_
  refine z_isub hx hb d_PL_line_10 (v := (M (3) 2 - 1)) rfl ?_
  refine ro_S (As := [.int (iI (x)), .int (iI (0)), .int (iI ((M (3) 2 - 1)))]) (rest := []) (z := bz (x < 0 ∨ (M (3) 2 - 1) < x) inferInstance) ⟨hx, hb, hml, hown, hg⟩ (c_isOutside l (x) (0) ((M (3) 2 - 1)) ⟨by omega, by omega⟩ ⟨by decide, by decide⟩ ⟨by omega, by omega⟩) (cwS 3 hg (gt_S (List.mem_append_right _ (List.mem_append_right _ (List.mem_append_right _ (List.mem_append_right _ (List.mem_append_right _ (List.mem_append_right _ (List.mem_append_right _ (List.mem_append_right _ (List.mem_append_right _ (List.mem_append_right _ (List.mem_append_right _ (List.mem_append_left _ (List.mem_of_getElem? (i := 0) rfl))))))))))))) (List.mem_append_right _ (List.mem_append_right _ (List.mem_append_right _ (List.mem_append_right _ (List.mem_append_right _ (List.mem_append_right _ (List.mem_append_right _ (List.mem_append_right _ (List.mem_append_right _ (List.mem_append_right _ (List.mem_append_right _ (List.mem_append_left _ (List.mem_of_getElem? (i := 1) rfl))))))))))))) (List.mem_append_right _ (List.mem_append_left _ (List.mem_of_getElem? (i := 2) rfl))) (List.mem_append_right _ (List.mem_append_right _ (List.mem_append_right _ (List.mem_append_right _ (List.mem_append_right _ (List.mem_append_right _ (List.mem_append_right _ (List.mem_append_right _ (List.mem_append_right _ (List.mem_append_right _ (List.mem_append_right _ (List.mem_append_left _ (List.mem_of_getElem? (i := 2) rfl)))))))))))))) rfl rfl rfl (by decide +kernel) ⟨Nat.le_of_ble_eq_true rfl, Nat.le_of_ble_eq_true rfl⟩) hK hP rfl hl.1 rfl (Nat.le_of_ble_eq_true rfl) d_PL_line_11 ⟨Nat.zero_le _, Nat.zero_le _⟩ ?_
  refine z_ifb_eq hx hb (tgt := 27) d_PL_line_14 (by decide) (fun c_14 => ?_) (fun c_14 => ?_)
  · refine lv_iload_n hx hb d_PL_line_27 rfl (lv_at hl 2 rfl) ?_
    refine z_iconst hx hb (z := 0) d_PL_line_28 ?_
    refine z_bipush hx hb (z := 9) d_PL_line_29 (by decide) ?_
    refine ro_S (As := [.int (iI (wh)), .int (iI (0)), .int (iI (9))]) (rest := []) (z := bz (wh < 0 ∨ 9 < wh) inferInstance) ⟨hx, hb, hml, hown, hg⟩ (c_isOutside l (wh) (0) (9) ⟨by omega, by omega⟩ ⟨by decide, by decide⟩ ⟨by decide, by decide⟩) (cwS 3 hg (gt_S (List.mem_append_right _ (List.mem_append_right _ (List.mem_append_right _ (List.mem_append_right _ (List.mem_append_right _ (List.mem_append_right _ (List.mem_append_right _ (List.mem_append_right _ (List.mem_append_right _ (List.mem_append_right _ (List.mem_append_right _ (List.mem_append_left _ (List.mem_of_getElem? (i := 0) rfl))))))))))))) (List.mem_append_right _ (List.mem_append_right _ (List.mem_append_right _ (List.mem_append_right _ (List.mem_append_right _ (List.mem_append_right _ (List.mem_append_right _ (List.mem_append_right _ (List.mem_append_right _ (List.mem_append_right _ (List.mem_append_right _ (List.mem_append_left _ (List.mem_of_getElem? (i := 1) rfl))))))))))))) (List.mem_append_right _ (List.mem_append_left _ (List.mem_of_getElem? (i := 2) rfl))) (List.mem_append_right _ (List.mem_append_right _ (List.mem_append_right _ (List.mem_append_right _ (List.mem_append_right _ (List.mem_append_right _ (List.mem_append_right _ (List.mem_append_right _ (List.mem_append_right _ (List.mem_append_right _ (List.mem_append_right _ (List.mem_append_left _ (List.mem_of_getElem? (i := 2) rfl)))))))))))))) rfl rfl rfl (by decide +kernel) ⟨Nat.le_of_ble_eq_true rfl, Nat.le_of_ble_eq_true rfl⟩) hK hP rfl hl.1 rfl (Nat.le_of_ble_eq_true rfl) d_PL_line_31 ⟨Nat.zero_le _, Nat.zero_le _⟩ ?_
    refine z_ifb_eq hx hb (tgt := 47) d_PL_line_34 (by decide) (fun c_34 => ?_) (fun c_34 => ?_)
    · exfalso; unfold inn at h0 h1; omega
    · exact z_thA hx hb (hml.trans hl.1.symm) hno hfl hown htx hT (istr := 143) (by decide) d_PL_line_37 d_PL_line_40 d_PL_line_41 d_PL_line_43 d_PL_line_46 hlocks ⟨by decide, by decide, by decide, by decide⟩
  · exfalso; unfold inn at h0 h1; omega
set_option maxHeartbeats 4000000 in
set_option maxRecDepth 100000 in
/-- where: it throws z_NSE -/
theorem t_where_N (l : Launch) (hfl : l.flags = flags0) {D : va_G} {ad : Nat → Nat} {cs : pg_C} {rp : Option Nat} {M : Nat → Nat → Int} (x wh : Int) (hx0 : zb x) (hw : zb wh) (n : Nat) (hs : M 1 5 = ((n : Nat) : Int)) (hn6 : n ≤ 600) (hla : M 0 4 = 0 ∨ M 0 4 = 1) (h0 : ¬ (M 0 4 = 1 ∧ inn x 0 (((n : Nat) : Int) - 1))) : MetT l y_PL_where (.code y_PL_where b_PL_where 3 (some .int) :: gx) ({ frames := 6, cells := 1, slots := 6, locals := 82 } : Room) (va_Pc [.ref (ad (0)), .int (iI (x)), .int (iI (wh))] (rt_B D vwCl (pg_tys cs) (pg_w ad cs rp M))) (q_thr z_NSE) 1 6 := by
  refine MetT.ofW (cc := b_PL_where) (maxL := 3) (ret := (some .int)) (by decide) rfl ?_
  intro p e s m args below meth c s₁ B hml hno hv
  obtain ⟨rfl, ⟨hP, hK⟩, hT⟩ := hv
  have hx := B.exec
  have hb := B.bytes
  have hts := atoms_spec (ws := (.code y_PL_where b_PL_where 3 (some .int) :: gx)) B.pre
  have hgx : ∀ w ∈ gx, w.before _ s = true := fun w h => hts w (List.mem_cons_of_mem _ h)
  have hg : ∀ w ∈ gt, w.before _ s = true := fun w h => hgx w (gx_gt h)
  have htx : ∀ w ∈ tx, w.before _ s = true := fun w h => hgx w (List.mem_append_right _ h)
  have hown : s.vm.findClass R_PL = some m.cls := findClass_of_methodNamed B.named
  have hlocks := B.notSynchronized
  have hl := lv_entry ([.ref (ad (0)), .int (iI (x)), .int (iI (wh))]) (n := 3) (Nat.le_of_ble_eq_true rfl)
  rw [lg_entry_eq]
  generalize (lg_sl ([.ref (ad (0)), .int (iI (x)), .int (iI (wh))]) ++ List.replicate (3 - (lg_sl ([.ref (ad (0)), .int (iI (x)), .int (iI (wh))])).length) Slot.unset).toArray = ls at hl ⊢
  have hl : lv_has ls 3 [(0, .ref (ad (0))), (1, .int (iI (x))), (2, .int (iI (wh)))] := hl
  obtain ⟨hx1, hx2⟩ := hx0
  obtain ⟨hw1, hw2⟩ := hw
  refine lv_aload_n hx hb d_PL_where_0 rfl (lv_at hl 0 rfl) ?_
  refine z_get (ci := 0) (C := R_PL) (T := T_PL) (N := 5) (v := .int (iI (M (0) 4))) hx hb hg in_PL hown hK hP (0) (by decide) rfl rfl 4 (by decide) (hg _ (List.mem_append_right _ (List.mem_append_right _ (List.mem_append_right _ (List.mem_append_right _ (List.mem_append_right _ (List.mem_append_left _ (List.mem_of_getElem? (i := 3) rfl)))))))) (fun _ h9 => h9) rfl d_PL_where_1 ?_
  refine z_if_eq hx hb (tgt := 24) d_PL_where_4 (by decide) ⟨by omega, by omega⟩ (fun c_4 => ?_) (fun c_4 => ?_)
  · exact z_thN hx hb (hml.trans hl.1.symm) hno hfl hown htx hT (istr := 149) (by decide) d_PL_where_24 d_PL_where_27 d_PL_where_28 d_PL_where_30 d_PL_where_33 hlocks ⟨by decide, by decide, by decide, by decide⟩
  · refine lv_iload_n hx hb d_PL_where_7 rfl (lv_at hl 1 rfl) ?_
    refine z_iconst hx hb (z := 0) d_PL_where_8 ?_
    refine lv_aload_n hx hb d_PL_where_9 rfl (lv_at hl 0 rfl) ?_
    refine z_get (ci := 0) (C := R_PL) (T := T_PL) (N := 5) (v := .ref (ad (1))) hx hb hg in_PL hown hK hP (0) (by decide) rfl rfl 0 (by decide) (hg _ (List.mem_append_right _ (List.mem_append_right _ (List.mem_append_right _ (List.mem_append_right _ (List.mem_append_left _ (List.mem_of_getElem? (i := 39) rfl))))))) (fun _ h9 => h9) rfl d_PL_where_10 ?_
    refine z_get (ci := 1) (C := R_TX) (T := T_TX) (N := 6) (v := .int (iI (M (1) 5))) hx hb hg in_TX hown hK hP (1) (by decide) rfl rfl 5 (by decide) (hg _ (List.mem_append_right _ (List.mem_append_right _ (List.mem_append_left _ (List.mem_of_getElem? (i := 31) rfl))))) (fun _ h9 => h9) rfl d_PL_where_13 ?_
    refine z_iconst hx hb (z := 1) d_PL_where_16 ?_
    refine z_isub hx hb d_PL_where_17 (v := (M (1) 5 - 1)) rfl ?_
    refine ro_S (As := [.int (iI (x)), .int (iI (0)), .int (iI ((M (1) 5 - 1)))]) (rest := []) (z := bz (x < 0 ∨ (M (1) 5 - 1) < x) inferInstance) ⟨hx, hb, hml, hown, hg⟩ (c_isOutside l (x) (0) ((M (1) 5 - 1)) ⟨by omega, by omega⟩ ⟨by decide, by decide⟩ ⟨by omega, by omega⟩) (cwS 3 hg (gt_S (List.mem_append_right _ (List.mem_append_right _ (List.mem_append_right _ (List.mem_append_right _ (List.mem_append_right _ (List.mem_append_right _ (List.mem_append_right _ (List.mem_append_right _ (List.mem_append_right _ (List.mem_append_right _ (List.mem_append_right _ (List.mem_append_left _ (List.mem_of_getElem? (i := 0) rfl))))))))))))) (List.mem_append_right _ (List.mem_append_right _ (List.mem_append_right _ (List.mem_append_right _ (List.mem_append_right _ (List.mem_append_right _ (List.mem_append_right _ (List.mem_append_right _ (List.mem_append_right _ (List.mem_append_right _ (List.mem_append_right _ (List.mem_append_left _ (List.mem_of_getElem? (i := 1) rfl))))))))))))) (List.mem_append_right _ (List.mem_append_left _ (List.mem_of_getElem? (i := 2) rfl))) (List.mem_append_right _ (List.mem_append_right _ (List.mem_append_right _ (List.mem_append_right _ (List.mem_append_right _ (List.mem_append_right _ (List.mem_append_right _ (List.mem_append_right _ (List.mem_append_right _ (List.mem_append_right _ (List.mem_append_right _ (List.mem_append_left _ (List.mem_of_getElem? (i := 2) rfl)))))))))))))) rfl rfl rfl (by decide +kernel) ⟨Nat.le_of_ble_eq_true rfl, Nat.le_of_ble_eq_true rfl⟩) hK hP rfl hl.1 rfl (Nat.le_of_ble_eq_true rfl) d_PL_where_18 ⟨Nat.zero_le _, Nat.zero_le _⟩ ?_
    refine z_ifb_eq hx hb (tgt := 34) d_PL_where_21 (by decide) (fun c_21 => ?_) (fun c_21 => ?_)
    · refine lv_iload_n hx hb d_PL_where_34 rfl (lv_at hl 2 rfl) ?_
      refine z_iconst hx hb (z := 0) d_PL_where_35 ?_
      refine z_iconst hx hb (z := 2) d_PL_where_36 ?_
      refine ro_S (As := [.int (iI (wh)), .int (iI (0)), .int (iI (2))]) (rest := []) (z := bz (wh < 0 ∨ 2 < wh) inferInstance) ⟨hx, hb, hml, hown, hg⟩ (c_isOutside l (wh) (0) (2) ⟨by omega, by omega⟩ ⟨by decide, by decide⟩ ⟨by decide, by decide⟩) (cwS 3 hg (gt_S (List.mem_append_right _ (List.mem_append_right _ (List.mem_append_right _ (List.mem_append_right _ (List.mem_append_right _ (List.mem_append_right _ (List.mem_append_right _ (List.mem_append_right _ (List.mem_append_right _ (List.mem_append_right _ (List.mem_append_right _ (List.mem_append_left _ (List.mem_of_getElem? (i := 0) rfl))))))))))))) (List.mem_append_right _ (List.mem_append_right _ (List.mem_append_right _ (List.mem_append_right _ (List.mem_append_right _ (List.mem_append_right _ (List.mem_append_right _ (List.mem_append_right _ (List.mem_append_right _ (List.mem_append_right _ (List.mem_append_right _ (List.mem_append_left _ (List.mem_of_getElem? (i := 1) rfl))))))))))))) (List.mem_append_right _ (List.mem_append_left _ (List.mem_of_getElem? (i := 2) rfl))) (List.mem_append_right _ (List.mem_append_right _ (List.mem_append_right _ (List.mem_append_right _ (List.mem_append_right _ (List.mem_append_right _ (List.mem_append_right _ (List.mem_append_right _ (List.mem_append_right _ (List.mem_append_right _ (List.mem_append_right _ (List.mem_append_left _ (List.mem_of_getElem? (i := 2) rfl)))))))))))))) rfl rfl rfl (by decide +kernel) ⟨Nat.le_of_ble_eq_true rfl, Nat.le_of_ble_eq_true rfl⟩) hK hP rfl hl.1 rfl (Nat.le_of_ble_eq_true rfl) d_PL_where_37 ⟨Nat.zero_le _, Nat.zero_le _⟩ ?_
      refine z_ifb_eq hx hb (tgt := 53) d_PL_where_40 (by decide) (fun c_40 => ?_) (fun c_40 => ?_)
      · exfalso; unfold inn at h0; omega
      · exfalso; unfold inn at h0; omega
    · exact z_thN hx hb (hml.trans hl.1.symm) hno hfl hown htx hT (istr := 149) (by decide) d_PL_where_24 d_PL_where_27 d_PL_where_28 d_PL_where_30 d_PL_where_33 hlocks ⟨by decide, by decide, by decide, by decide⟩
set_option maxHeartbeats 4000000 in
set_option maxRecDepth 100000 in
/-- where: it throws z_IAE -/
theorem t_where_A (l : Launch) (hfl : l.flags = flags0) {D : va_G} {ad : Nat → Nat} {cs : pg_C} {rp : Option Nat} {M : Nat → Nat → Int} (x wh : Int) (hx0 : zb x) (hw : zb wh) (n : Nat) (hs : M 1 5 = ((n : Nat) : Int)) (hn6 : n ≤ 600) (hla : M 0 4 = 0 ∨ M 0 4 = 1) (h0 : M 0 4 = 1 ∧ inn x 0 (((n : Nat) : Int) - 1)) (h1 : ¬ inn wh 0 2) : MetT l y_PL_where (.code y_PL_where b_PL_where 3 (some .int) :: gx) ({ frames := 6, cells := 1, slots := 6, locals := 82 } : Room) (va_Pc [.ref (ad (0)), .int (iI (x)), .int (iI (wh))] (rt_B D vwCl (pg_tys cs) (pg_w ad cs rp M))) (q_thr z_IAE) 1 6 := by
  refine MetT.ofW (cc := b_PL_where) (maxL := 3) (ret := (some .int)) (by decide) rfl ?_
  intro p e s m args below meth c s₁ B hml hno hv
  obtain ⟨rfl, ⟨hP, hK⟩, hT⟩ := hv
  have hx := B.exec
  have hb := B.bytes
  have hts := atoms_spec (ws := (.code y_PL_where b_PL_where 3 (some .int) :: gx)) B.pre
  have hgx : ∀ w ∈ gx, w.before _ s = true := fun w h => hts w (List.mem_cons_of_mem _ h)
  have hg : ∀ w ∈ gt, w.before _ s = true := fun w h => hgx w (gx_gt h)
  have htx : ∀ w ∈ tx, w.before _ s = true := fun w h => hgx w (List.mem_append_right _ h)
  have hown : s.vm.findClass R_PL = some m.cls := findClass_of_methodNamed B.named
  have hlocks := B.notSynchronized
  have hl := lv_entry ([.ref (ad (0)), .int (iI (x)), .int (iI (wh))]) (n := 3) (Nat.le_of_ble_eq_true rfl)
  rw [lg_entry_eq]
  generalize (lg_sl ([.ref (ad (0)), .int (iI (x)), .int (iI (wh))]) ++ List.replicate (3 - (lg_sl ([.ref (ad (0)), .int (iI (x)), .int (iI (wh))])).length) Slot.unset).toArray = ls at hl ⊢
  have hl : lv_has ls 3 [(0, .ref (ad (0))), (1, .int (iI (x))), (2, .int (iI (wh)))] := hl
  obtain ⟨hx1, hx2⟩ := hx0
  obtain ⟨hw1, hw2⟩ := hw
  refine lv_aload_n hx hb d_PL_where_0 rfl (lv_at hl 0 rfl) ?_
  refine z_get (ci := 0) (C := R_PL) (T := T_PL) (N := 5) (v := .int (iI (M (0) 4))) hx hb hg in_PL hown hK hP (0) (by decide) rfl rfl 4 (by decide) (hg _ (List.mem_append_right _ (List.mem_append_right _ (List.mem_append_right _ (List.mem_append_right _ (List.mem_append_right _ (List.mem_append_left _ (List.mem_of_getElem? (i := 3) rfl)))))))) (fun _ h9 => h9) rfl d_PL_where_1 ?_
  refine z_if_eq hx hb (tgt := 24) d_PL_where_4 (by decide) ⟨by omega, by omega⟩ (fun c_4 => ?_) (fun c_4 => ?_)
  · exfalso; unfold inn at h0 h1; omega
  · refine lv_iload_n hx hb d_PL_where_7 rfl (lv_at hl 1 rfl) ?_
    refine z_iconst hx hb (z := 0) d_PL_where_8 ?_
    refine lv_aload_n hx hb d_PL_where_9 rfl (lv_at hl 0 rfl) ?_
    refine z_get (ci := 0) (C := R_PL) (T := T_PL) (N := 5) (v := .ref (ad (1))) hx hb hg in_PL hown hK hP (0) (by decide) rfl rfl 0 (by decide) (hg _ (List.mem_append_right _ (List.mem_append_right _ (List.mem_append_right _ (List.mem_append_right _ (List.mem_append_left _ (List.mem_of_getElem? (i := 39) rfl))))))) (fun _ h9 => h9) rfl d_PL_where_10 ?_
    refine z_get (ci := 1) (C := R_TX) (T := T_TX) (N := 6) (v := .int (iI (M (1) 5))) hx hb hg in_TX hown hK hP (1) (by decide) rfl rfl 5 (by decide) (hg _ (List.mem_append_right _ (List.mem_append_right _ (List.mem_append_left _ (List.mem_of_getElem? (i := 31) rfl))))) (fun _ h9 => h9) rfl d_PL_where_13 ?_
    refine z_iconst hx hb (z := 1) d_PL_where_16 ?_
    refine z_isub hx hb d_PL_where_17 (v := (M (1) 5 - 1)) rfl ?_
    refine ro_S (As := [.int (iI (x)), .int (iI (0)), .int (iI ((M (1) 5 - 1)))]) (rest := []) (z := bz (x < 0 ∨ (M (1) 5 - 1) < x) inferInstance) ⟨hx, hb, hml, hown, hg⟩ (c_isOutside l (x) (0) ((M (1) 5 - 1)) ⟨by omega, by omega⟩ ⟨by decide, by decide⟩ ⟨by omega, by omega⟩) (cwS 3 hg (gt_S (List.mem_append_right _ (List.mem_append_right _ (List.mem_append_right _ (List.mem_append_right _ (List.mem_append_right _ (List.mem_append_right _ (List.mem_append_right _ (List.mem_append_right _ (List.mem_append_right _ (List.mem_append_right _ (List.mem_append_right _ (List.mem_append_left _ (List.mem_of_getElem? (i := 0) rfl))))))))))))) (List.mem_append_right _ (List.mem_append_right _ (List.mem_append_right _ (List.mem_append_right _ (List.mem_append_right _ (List.mem_append_right _ (List.mem_append_right _ (List.mem_append_right _ (List.mem_append_right _ (List.mem_append_right _ (List.mem_append_right _ (List.mem_append_left _ (List.mem_of_getElem? (i := 1) rfl))))))))))))) (List.mem_append_right _ (List.mem_append_left _ (List.mem_of_getElem? (i := 2) rfl))) (List.mem_append_right _ (List.mem_append_right _ (List.mem_append_right _ (List.mem_append_right _ (List.mem_append_right _ (List.mem_append_right _ (List.mem_append_right _ (List.mem_append_right _ (List.mem_append_right _ (List.mem_append_right _ (List.mem_append_right _ (List.mem_append_left _ (List.mem_of_getElem? (i := 2) rfl)))))))))))))) rfl rfl rfl (by decide +kernel) ⟨Nat.le_of_ble_eq_true rfl, Nat.le_of_ble_eq_true rfl⟩) hK hP rfl hl.1 rfl (Nat.le_of_ble_eq_true rfl) d_PL_where_18 ⟨Nat.zero_le _, Nat.zero_le _⟩ ?_
    refine z_ifb_eq hx hb (tgt := 34) d_PL_where_21 (by decide) (fun c_21 => ?_) (fun c_21 => ?_)
    · refine lv_iload_n hx hb d_PL_where_34 rfl (lv_at hl 2 rfl) ?_
      refine z_iconst hx hb (z := 0) d_PL_where_35 ?_
      refine z_iconst hx hb (z := 2) d_PL_where_36 ?_
      refine ro_S (As := [.int (iI (wh)), .int (iI (0)), .int (iI (2))]) (rest := []) (z := bz (wh < 0 ∨ 2 < wh) inferInstance) ⟨hx, hb, hml, hown, hg⟩ (c_isOutside l (wh) (0) (2) ⟨by omega, by omega⟩ ⟨by decide, by decide⟩ ⟨by decide, by decide⟩) (cwS 3 hg (gt_S (List.mem_append_right _ (List.mem_append_right _ (List.mem_append_right _ (List.mem_append_right _ (List.mem_append_right _ (List.mem_append_right _ (List.mem_append_right _ (List.mem_append_right _ (List.mem_append_right _ (List.mem_append_right _ (List.mem_append_right _ (List.mem_append_left _ (List.mem_of_getElem? (i := 0) rfl))))))))))))) (List.mem_append_right _ (List.mem_append_right _ (List.mem_append_right _ (List.mem_append_right _ (List.mem_append_right _ (List.mem_append_right _ (List.mem_append_right _ (List.mem_append_right _ (List.mem_append_right _ (List.mem_append_right _ (List.mem_append_right _ (List.mem_append_left _ (List.mem_of_getElem? (i := 1) rfl))))))))))))) (List.mem_append_right _ (List.mem_append_left _ (List.mem_of_getElem? (i := 2) rfl))) (List.mem_append_right _ (List.mem_append_right _ (List.mem_append_right _ (List.mem_append_right _ (List.mem_append_right _ (List.mem_append_right _ (List.mem_append_right _ (List.mem_append_right _ (List.mem_append_right _ (List.mem_append_right _ (List.mem_append_right _ (List.mem_append_left _ (List.mem_of_getElem? (i := 2) rfl)))))))))))))) rfl rfl rfl (by decide +kernel) ⟨Nat.le_of_ble_eq_true rfl, Nat.le_of_ble_eq_true rfl⟩) hK hP rfl hl.1 rfl (Nat.le_of_ble_eq_true rfl) d_PL_where_37 ⟨Nat.zero_le _, Nat.zero_le _⟩ ?_
      refine z_ifb_eq hx hb (tgt := 53) d_PL_where_40 (by decide) (fun c_40 => ?_) (fun c_40 => ?_)
      · exfalso; unfold inn at h0 h1; omega
      · exact z_thA hx hb (hml.trans hl.1.symm) hno hfl hown htx hT (istr := 143) (by decide) d_PL_where_43 d_PL_where_46 d_PL_where_47 d_PL_where_49 d_PL_where_52 hlocks ⟨by decide, by decide, by decide, by decide⟩
    · exfalso; unfold inn at h0 h1; omega
set_option maxHeartbeats 4000000 in
set_option maxRecDepth 100000 in
/-- page: it throws z_NSE -/
theorem t_page_N (l : Launch) (hfl : l.flags = flags0) {D : va_G} {ad : Nat → Nat} {cs : pg_C} {rp : Option Nat} {M : Nat → Nat → Int} (x wh : Int) (hx0 : zb x) (hw : zb wh) (np : Nat) (hn : M 5 1 = ((np : Nat) : Int)) (hn6 : np ≤ 630) (h0 : ¬ inn x 0 (((np : Nat) : Int) - 1)) : MetT l y_PL_page (.code y_PL_page b_PL_page 3 (some .int) :: gx) ({ frames := 6, cells := 1, slots := 6, locals := 82 } : Room) (va_Pc [.ref (ad (0)), .int (iI (x)), .int (iI (wh))] (rt_B D vwCl (pg_tys cs) (pg_w ad cs rp M))) (q_thr z_NSE) 1 6 := by
  refine MetT.ofW (cc := b_PL_page) (maxL := 3) (ret := (some .int)) (by decide) rfl ?_
  intro p e s m args below meth c s₁ B hml hno hv
  obtain ⟨rfl, ⟨hP, hK⟩, hT⟩ := hv
  have hx := B.exec
  have hb := B.bytes
  have hts := atoms_spec (ws := (.code y_PL_page b_PL_page 3 (some .int) :: gx)) B.pre
  have hgx : ∀ w ∈ gx, w.before _ s = true := fun w h => hts w (List.mem_cons_of_mem _ h)
  have hg : ∀ w ∈ gt, w.before _ s = true := fun w h => hgx w (gx_gt h)
  have htx : ∀ w ∈ tx, w.before _ s = true := fun w h => hgx w (List.mem_append_right _ h)
  have hown : s.vm.findClass R_PL = some m.cls := findClass_of_methodNamed B.named
  have hlocks := B.notSynchronized
  have hl := lv_entry ([.ref (ad (0)), .int (iI (x)), .int (iI (wh))]) (n := 3) (Nat.le_of_ble_eq_true rfl)
  rw [lg_entry_eq]
  generalize (lg_sl ([.ref (ad (0)), .int (iI (x)), .int (iI (wh))]) ++ List.replicate (3 - (lg_sl ([.ref (ad (0)), .int (iI (x)), .int (iI (wh))])).length) Slot.unset).toArray = ls at hl ⊢
  have hl : lv_has ls 3 [(0, .ref (ad (0))), (1, .int (iI (x))), (2, .int (iI (wh)))] := hl
  obtain ⟨hx1, hx2⟩ := hx0
  obtain ⟨hw1, hw2⟩ := hw
  refine lv_iload_n hx hb d_PL_page_0 rfl (lv_at hl 1 rfl) ?_
  refine z_iconst hx hb (z := 0) d_PL_page_1 ?_
  refine lv_aload_n hx hb d_PL_page_2 rfl (lv_at hl 0 rfl) ?_
  refine z_get (ci := 0) (C := R_PL) (T := T_PL) (N := 5) (v := .ref (ad (5))) hx hb hg in_PL hown hK hP (0) (by decide) rfl rfl 3 (by decide) (hg _ (List.mem_append_right _ (List.mem_append_right _ (List.mem_append_right _ (List.mem_append_right _ (List.mem_append_right _ (List.mem_append_left _ (List.mem_of_getElem? (i := 2) rfl)))))))) (fun _ h9 => h9) rfl d_PL_page_3 ?_
  refine z_get (ci := 5) (C := R_PG) (T := T_PG) (N := 5) (v := .int (iI (M (5) 1))) hx hb hg in_PG hown hK hP (5) (by decide) rfl rfl 1 (by decide) (hg _ (List.mem_append_right _ (List.mem_append_right _ (List.mem_append_right _ (List.mem_append_right _ (List.mem_append_left _ (List.mem_of_getElem? (i := 30) rfl))))))) (fun _ h9 => h9) rfl d_PL_page_6 ?_
  refine z_iconst hx hb (z := 1) d_PL_page_9 ?_
  refine z_isub hx hb d_PL_page_10 (v := (M (5) 1 - 1)) rfl ?_
  refine ro_S (As := [.int (iI (x)), .int (iI (0)), .int (iI ((M (5) 1 - 1)))]) (rest := []) (z := bz (x < 0 ∨ (M (5) 1 - 1) < x) inferInstance) ⟨hx, hb, hml, hown, hg⟩ (c_isOutside l (x) (0) ((M (5) 1 - 1)) ⟨by omega, by omega⟩ ⟨by decide, by decide⟩ ⟨by omega, by omega⟩) (cwS 3 hg (gt_S (List.mem_append_right _ (List.mem_append_right _ (List.mem_append_right _ (List.mem_append_right _ (List.mem_append_right _ (List.mem_append_right _ (List.mem_append_right _ (List.mem_append_right _ (List.mem_append_right _ (List.mem_append_right _ (List.mem_append_right _ (List.mem_append_left _ (List.mem_of_getElem? (i := 0) rfl))))))))))))) (List.mem_append_right _ (List.mem_append_right _ (List.mem_append_right _ (List.mem_append_right _ (List.mem_append_right _ (List.mem_append_right _ (List.mem_append_right _ (List.mem_append_right _ (List.mem_append_right _ (List.mem_append_right _ (List.mem_append_right _ (List.mem_append_left _ (List.mem_of_getElem? (i := 1) rfl))))))))))))) (List.mem_append_right _ (List.mem_append_left _ (List.mem_of_getElem? (i := 2) rfl))) (List.mem_append_right _ (List.mem_append_right _ (List.mem_append_right _ (List.mem_append_right _ (List.mem_append_right _ (List.mem_append_right _ (List.mem_append_right _ (List.mem_append_right _ (List.mem_append_right _ (List.mem_append_right _ (List.mem_append_right _ (List.mem_append_left _ (List.mem_of_getElem? (i := 2) rfl)))))))))))))) rfl rfl rfl (by decide +kernel) ⟨Nat.le_of_ble_eq_true rfl, Nat.le_of_ble_eq_true rfl⟩) hK hP rfl hl.1 rfl (Nat.le_of_ble_eq_true rfl) d_PL_page_11 ⟨Nat.zero_le _, Nat.zero_le _⟩ ?_
  refine z_ifb_eq hx hb (tgt := 27) d_PL_page_14 (by decide) (fun c_14 => ?_) (fun c_14 => ?_)
  · refine lv_iload_n hx hb d_PL_page_27 rfl (lv_at hl 2 rfl) ?_
    refine z_iconst hx hb (z := 0) d_PL_page_28 ?_
    refine z_iconst hx hb (z := 2) d_PL_page_29 ?_
    refine ro_S (As := [.int (iI (wh)), .int (iI (0)), .int (iI (2))]) (rest := []) (z := bz (wh < 0 ∨ 2 < wh) inferInstance) ⟨hx, hb, hml, hown, hg⟩ (c_isOutside l (wh) (0) (2) ⟨by omega, by omega⟩ ⟨by decide, by decide⟩ ⟨by decide, by decide⟩) (cwS 3 hg (gt_S (List.mem_append_right _ (List.mem_append_right _ (List.mem_append_right _ (List.mem_append_right _ (List.mem_append_right _ (List.mem_append_right _ (List.mem_append_right _ (List.mem_append_right _ (List.mem_append_right _ (List.mem_append_right _ (List.mem_append_right _ (List.mem_append_left _ (List.mem_of_getElem? (i := 0) rfl))))))))))))) (List.mem_append_right _ (List.mem_append_right _ (List.mem_append_right _ (List.mem_append_right _ (List.mem_append_right _ (List.mem_append_right _ (List.mem_append_right _ (List.mem_append_right _ (List.mem_append_right _ (List.mem_append_right _ (List.mem_append_right _ (List.mem_append_left _ (List.mem_of_getElem? (i := 1) rfl))))))))))))) (List.mem_append_right _ (List.mem_append_left _ (List.mem_of_getElem? (i := 2) rfl))) (List.mem_append_right _ (List.mem_append_right _ (List.mem_append_right _ (List.mem_append_right _ (List.mem_append_right _ (List.mem_append_right _ (List.mem_append_right _ (List.mem_append_right _ (List.mem_append_right _ (List.mem_append_right _ (List.mem_append_right _ (List.mem_append_left _ (List.mem_of_getElem? (i := 2) rfl)))))))))))))) rfl rfl rfl (by decide +kernel) ⟨Nat.le_of_ble_eq_true rfl, Nat.le_of_ble_eq_true rfl⟩) hK hP rfl hl.1 rfl (Nat.le_of_ble_eq_true rfl) d_PL_page_30 ⟨Nat.zero_le _, Nat.zero_le _⟩ ?_
    refine z_ifb_eq hx hb (tgt := 46) d_PL_page_33 (by decide) (fun c_33 => ?_) (fun c_33 => ?_)
    · exfalso; unfold inn at h0; omega
    · exfalso; unfold inn at h0; omega
  · exact z_thN hx hb (hml.trans hl.1.symm) hno hfl hown htx hT (istr := 154) (by decide) d_PL_page_17 d_PL_page_20 d_PL_page_21 d_PL_page_23 d_PL_page_26 hlocks ⟨by decide, by decide, by decide, by decide⟩
set_option maxHeartbeats 4000000 in
set_option maxRecDepth 100000 in
/-- page: it throws z_IAE -/
theorem t_page_A (l : Launch) (hfl : l.flags = flags0) {D : va_G} {ad : Nat → Nat} {cs : pg_C} {rp : Option Nat} {M : Nat → Nat → Int} (x wh : Int) (hx0 : zb x) (hw : zb wh) (np : Nat) (hn : M 5 1 = ((np : Nat) : Int)) (hn6 : np ≤ 630) (h0 : inn x 0 (((np : Nat) : Int) - 1)) (h1 : ¬ inn wh 0 2) : MetT l y_PL_page (.code y_PL_page b_PL_page 3 (some .int) :: gx) ({ frames := 6, cells := 1, slots := 6, locals := 82 } : Room) (va_Pc [.ref (ad (0)), .int (iI (x)), .int (iI (wh))] (rt_B D vwCl (pg_tys cs) (pg_w ad cs rp M))) (q_thr z_IAE) 1 6 := by
  refine MetT.ofW (cc := b_PL_page) (maxL := 3) (ret := (some .int)) (by decide) rfl ?_
  intro p e s m args below meth c s₁ B hml hno hv
  obtain ⟨rfl, ⟨hP, hK⟩, hT⟩ := hv
  have hx := B.exec
  have hb := B.bytes
  have hts := atoms_spec (ws := (.code y_PL_page b_PL_page 3 (some .int) :: gx)) B.pre
  have hgx : ∀ w ∈ gx, w.before _ s = true := fun w h => hts w (List.mem_cons_of_mem _ h)
  have hg : ∀ w ∈ gt, w.before _ s = true := fun w h => hgx w (gx_gt h)
  have htx : ∀ w ∈ tx, w.before _ s = true := fun w h => hgx w (List.mem_append_right _ h)
  have hown : s.vm.findClass R_PL = some m.cls := findClass_of_methodNamed B.named
  have hlocks := B.notSynchronized
  have hl := lv_entry ([.ref (ad (0)), .int (iI (x)), .int (iI (wh))]) (n := 3) (Nat.le_of_ble_eq_true rfl)
  rw [lg_entry_eq]
  generalize (lg_sl ([.ref (ad (0)), .int (iI (x)), .int (iI (wh))]) ++ List.replicate (3 - (lg_sl ([.ref (ad (0)), .int (iI (x)), .int (iI (wh))])).length) Slot.unset).toArray = ls at hl ⊢
  have hl : lv_has ls 3 [(0, .ref (ad (0))), (1, .int (iI (x))), (2, .int (iI (wh)))] := hl
  obtain ⟨hx1, hx2⟩ := hx0
  obtain ⟨hw1, hw2⟩ := hw
  refine lv_iload_n hx hb d_PL_page_0 rfl (lv_at hl 1 rfl) ?_
  refine z_iconst hx hb (z := 0) d_PL_page_1 ?_
  refine lv_aload_n hx hb d_PL_page_2 rfl (lv_at hl 0 rfl) ?_
  refine z_get (ci := 0) (C := R_PL) (T := T_PL) (N := 5) (v := .ref (ad (5))) hx hb hg in_PL hown hK hP (0) (by decide) rfl rfl 3 (by decide) (hg _ (List.mem_append_right _ (List.mem_append_right _ (List.mem_append_right _ (List.mem_append_right _ (List.mem_append_right _ (List.mem_append_left _ (List.mem_of_getElem? (i := 2) rfl)))))))) (fun _ h9 => h9) rfl d_PL_page_3 ?_
  refine z_get (ci := 5) (C := R_PG) (T := T_PG) (N := 5) (v := .int (iI (M (5) 1))) hx hb hg in_PG hown hK hP (5) (by decide) rfl rfl 1 (by decide) (hg _ (List.mem_append_right _ (List.mem_append_right _ (List.mem_append_right _ (List.mem_append_right _ (List.mem_append_left _ (List.mem_of_getElem? (i := 30) rfl))))))) (fun _ h9 => h9) rfl d_PL_page_6 ?_
  refine z_iconst hx hb (z := 1) d_PL_page_9 ?_
  refine z_isub hx hb d_PL_page_10 (v := (M (5) 1 - 1)) rfl ?_
  refine ro_S (As := [.int (iI (x)), .int (iI (0)), .int (iI ((M (5) 1 - 1)))]) (rest := []) (z := bz (x < 0 ∨ (M (5) 1 - 1) < x) inferInstance) ⟨hx, hb, hml, hown, hg⟩ (c_isOutside l (x) (0) ((M (5) 1 - 1)) ⟨by omega, by omega⟩ ⟨by decide, by decide⟩ ⟨by omega, by omega⟩) (cwS 3 hg (gt_S (List.mem_append_right _ (List.mem_append_right _ (List.mem_append_right _ (List.mem_append_right _ (List.mem_append_right _ (List.mem_append_right _ (List.mem_append_right _ (List.mem_append_right _ (List.mem_append_right _ (List.mem_append_right _ (List.mem_append_right _ (List.mem_append_left _ (List.mem_of_getElem? (i := 0) rfl))))))))))))) (List.mem_append_right _ (List.mem_append_right _ (List.mem_append_right _ (List.mem_append_right _ (List.mem_append_right _ (List.mem_append_right _ (List.mem_append_right _ (List.mem_append_right _ (List.mem_append_right _ (List.mem_append_right _ (List.mem_append_right _ (List.mem_append_left _ (List.mem_of_getElem? (i := 1) rfl))))))))))))) (List.mem_append_right _ (List.mem_append_left _ (List.mem_of_getElem? (i := 2) rfl))) (List.mem_append_right _ (List.mem_append_right _ (List.mem_append_right _ (List.mem_append_right _ (List.mem_append_right _ (List.mem_append_right _ (List.mem_append_right _ (List.mem_append_right _ (List.mem_append_right _ (List.mem_append_right _ (List.mem_append_right _ (List.mem_append_left _ (List.mem_of_getElem? (i := 2) rfl)))))))))))))) rfl rfl rfl (by decide +kernel) ⟨Nat.le_of_ble_eq_true rfl, Nat.le_of_ble_eq_true rfl⟩) hK hP rfl hl.1 rfl (Nat.le_of_ble_eq_true rfl) d_PL_page_11 ⟨Nat.zero_le _, Nat.zero_le _⟩ ?_
  refine z_ifb_eq hx hb (tgt := 27) d_PL_page_14 (by decide) (fun c_14 => ?_) (fun c_14 => ?_)
  · refine lv_iload_n hx hb d_PL_page_27 rfl (lv_at hl 2 rfl) ?_
    refine z_iconst hx hb (z := 0) d_PL_page_28 ?_
    refine z_iconst hx hb (z := 2) d_PL_page_29 ?_
    refine ro_S (As := [.int (iI (wh)), .int (iI (0)), .int (iI (2))]) (rest := []) (z := bz (wh < 0 ∨ 2 < wh) inferInstance) ⟨hx, hb, hml, hown, hg⟩ (c_isOutside l (wh) (0) (2) ⟨by omega, by omega⟩ ⟨by decide, by decide⟩ ⟨by decide, by decide⟩) (cwS 3 hg (gt_S (List.mem_append_right _ (List.mem_append_right _ (List.mem_append_right _ (List.mem_append_right _ (List.mem_append_right _ (List.mem_append_right _ (List.mem_append_right _ (List.mem_append_right _ (List.mem_append_right _ (List.mem_append_right _ (List.mem_append_right _ (List.mem_append_left _ (List.mem_of_getElem? (i := 0) rfl))))))))))))) (List.mem_append_right _ (List.mem_append_right _ (List.mem_append_right _ (List.mem_append_right _ (List.mem_append_right _ (List.mem_append_right _ (List.mem_append_right _ (List.mem_append_right _ (List.mem_append_right _ (List.mem_append_right _ (List.mem_append_right _ (List.mem_append_left _ (List.mem_of_getElem? (i := 1) rfl))))))))))))) (List.mem_append_right _ (List.mem_append_left _ (List.mem_of_getElem? (i := 2) rfl))) (List.mem_append_right _ (List.mem_append_right _ (List.mem_append_right _ (List.mem_append_right _ (List.mem_append_right _ (List.mem_append_right _ (List.mem_append_right _ (List.mem_append_right _ (List.mem_append_right _ (List.mem_append_right _ (List.mem_append_right _ (List.mem_append_left _ (List.mem_of_getElem? (i := 2) rfl)))))))))))))) rfl rfl rfl (by decide +kernel) ⟨Nat.le_of_ble_eq_true rfl, Nat.le_of_ble_eq_true rfl⟩) hK hP rfl hl.1 rfl (Nat.le_of_ble_eq_true rfl) d_PL_page_30 ⟨Nat.zero_le _, Nat.zero_le _⟩ ?_
    refine z_ifb_eq hx hb (tgt := 46) d_PL_page_33 (by decide) (fun c_33 => ?_) (fun c_33 => ?_)
    · exfalso; unfold inn at h0 h1; omega
    · exact z_thA hx hb (hml.trans hl.1.symm) hno hfl hown htx hT (istr := 143) (by decide) d_PL_page_36 d_PL_page_39 d_PL_page_40 d_PL_page_42 d_PL_page_45 hlocks ⟨by decide, by decide, by decide, by decide⟩
  · exfalso; unfold inn at h0 h1; omega
set_option maxHeartbeats 4000000 in
set_option maxRecDepth 100000 in
/-- hit: it throws z_NSE -/
theorem t_hit_N (l : Launch) (hfl : l.flags = flags0) {D : va_G} {ad : Nat → Nat} {cs : pg_C} {rp : Option Nat} {M : Nat → Nat → Int} (x xx yy : Int) (hx0 : zb x) (np : Nat) (hn : M 5 1 = ((np : Nat) : Int)) (hn6 : np ≤ 630) (h0 : ¬ inn x 0 (((np : Nat) : Int) - 1)) : MetT l y_PL_hit (.code y_PL_hit b_PL_hit 4 (some .int) :: gx) ({ frames := 6, cells := 1, slots := 6, locals := 82 } : Room) (va_Pc [.ref (ad (0)), .int (iI (x)), .int (iI (xx)), .int (iI (yy))] (rt_B D vwCl (pg_tys cs) (pg_w ad cs rp M))) (q_thr z_NSE) 1 6 := by
  refine MetT.ofW (cc := b_PL_hit) (maxL := 4) (ret := (some .int)) (by decide) rfl ?_
  intro p e s m args below meth c s₁ B hml hno hv
  obtain ⟨rfl, ⟨hP, hK⟩, hT⟩ := hv
  have hx := B.exec
  have hb := B.bytes
  have hts := atoms_spec (ws := (.code y_PL_hit b_PL_hit 4 (some .int) :: gx)) B.pre
  have hgx : ∀ w ∈ gx, w.before _ s = true := fun w h => hts w (List.mem_cons_of_mem _ h)
  have hg : ∀ w ∈ gt, w.before _ s = true := fun w h => hgx w (gx_gt h)
  have htx : ∀ w ∈ tx, w.before _ s = true := fun w h => hgx w (List.mem_append_right _ h)
  have hown : s.vm.findClass R_PL = some m.cls := findClass_of_methodNamed B.named
  have hlocks := B.notSynchronized
  have hl := lv_entry ([.ref (ad (0)), .int (iI (x)), .int (iI (xx)), .int (iI (yy))]) (n := 4) (Nat.le_of_ble_eq_true rfl)
  rw [lg_entry_eq]
  generalize (lg_sl ([.ref (ad (0)), .int (iI (x)), .int (iI (xx)), .int (iI (yy))]) ++ List.replicate (4 - (lg_sl ([.ref (ad (0)), .int (iI (x)), .int (iI (xx)), .int (iI (yy))])).length) Slot.unset).toArray = ls at hl ⊢
  have hl : lv_has ls 4 [(0, .ref (ad (0))), (1, .int (iI (x))), (2, .int (iI (xx))), (3, .int (iI (yy)))] := hl
  obtain ⟨hx1, hx2⟩ := hx0
  refine lv_iload_n hx hb d_PL_hit_0 rfl (lv_at hl 1 rfl) ?_
  refine z_iconst hx hb (z := 0) d_PL_hit_1 ?_
  refine lv_aload_n hx hb d_PL_hit_2 rfl (lv_at hl 0 rfl) ?_
  refine z_get (ci := 0) (C := R_PL) (T := T_PL) (N := 5) (v := .ref (ad (5))) hx hb hg in_PL hown hK hP (0) (by decide) rfl rfl 3 (by decide) (hg _ (List.mem_append_right _ (List.mem_append_right _ (List.mem_append_right _ (List.mem_append_right _ (List.mem_append_right _ (List.mem_append_left _ (List.mem_of_getElem? (i := 2) rfl)))))))) (fun _ h9 => h9) rfl d_PL_hit_3 ?_
  refine z_get (ci := 5) (C := R_PG) (T := T_PG) (N := 5) (v := .int (iI (M (5) 1))) hx hb hg in_PG hown hK hP (5) (by decide) rfl rfl 1 (by decide) (hg _ (List.mem_append_right _ (List.mem_append_right _ (List.mem_append_right _ (List.mem_append_right _ (List.mem_append_left _ (List.mem_of_getElem? (i := 30) rfl))))))) (fun _ h9 => h9) rfl d_PL_hit_6 ?_
  refine z_iconst hx hb (z := 1) d_PL_hit_9 ?_
  refine z_isub hx hb d_PL_hit_10 (v := (M (5) 1 - 1)) rfl ?_
  refine ro_S (As := [.int (iI (x)), .int (iI (0)), .int (iI ((M (5) 1 - 1)))]) (rest := []) (z := bz (x < 0 ∨ (M (5) 1 - 1) < x) inferInstance) ⟨hx, hb, hml, hown, hg⟩ (c_isOutside l (x) (0) ((M (5) 1 - 1)) ⟨by omega, by omega⟩ ⟨by decide, by decide⟩ ⟨by omega, by omega⟩) (cwS 3 hg (gt_S (List.mem_append_right _ (List.mem_append_right _ (List.mem_append_right _ (List.mem_append_right _ (List.mem_append_right _ (List.mem_append_right _ (List.mem_append_right _ (List.mem_append_right _ (List.mem_append_right _ (List.mem_append_right _ (List.mem_append_right _ (List.mem_append_left _ (List.mem_of_getElem? (i := 0) rfl))))))))))))) (List.mem_append_right _ (List.mem_append_right _ (List.mem_append_right _ (List.mem_append_right _ (List.mem_append_right _ (List.mem_append_right _ (List.mem_append_right _ (List.mem_append_right _ (List.mem_append_right _ (List.mem_append_right _ (List.mem_append_right _ (List.mem_append_left _ (List.mem_of_getElem? (i := 1) rfl))))))))))))) (List.mem_append_right _ (List.mem_append_left _ (List.mem_of_getElem? (i := 2) rfl))) (List.mem_append_right _ (List.mem_append_right _ (List.mem_append_right _ (List.mem_append_right _ (List.mem_append_right _ (List.mem_append_right _ (List.mem_append_right _ (List.mem_append_right _ (List.mem_append_right _ (List.mem_append_right _ (List.mem_append_right _ (List.mem_append_left _ (List.mem_of_getElem? (i := 2) rfl)))))))))))))) rfl rfl rfl (by decide +kernel) ⟨Nat.le_of_ble_eq_true rfl, Nat.le_of_ble_eq_true rfl⟩) hK hP rfl hl.1 rfl (Nat.le_of_ble_eq_true rfl) d_PL_hit_11 ⟨Nat.zero_le _, Nat.zero_le _⟩ ?_
  refine z_ifb_eq hx hb (tgt := 27) d_PL_hit_14 (by decide) (fun c_14 => ?_) (fun c_14 => ?_)
  · exfalso; unfold inn at h0; omega
  · exact z_thN hx hb (hml.trans hl.1.symm) hno hfl hown htx hT (istr := 154) (by decide) d_PL_hit_17 d_PL_hit_20 d_PL_hit_21 d_PL_hit_23 d_PL_hit_26 hlocks ⟨by decide, by decide, by decide, by decide⟩
