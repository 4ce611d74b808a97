set_option maxHeartbeats 4000000 in
set_option maxRecDepth 100000 in
/-- paragraph -/
theorem c_paragraph (l : Launch) {D : va_G} {ad : Nat → Nat} {cs : pg_C} {rp : Option Nat} {M : Nat → Nat → Int} (sz : Nat) (np : Nat) (hnp : M 1 4 = ((np : Nat) : Int)) (hn : np < 30) : Met l y_PL_paragraph ws_PL_paragraph ({ frames := 3, cells := 0, slots := 0, locals := 64 } : Room) (va_Pc [.ref (ad (0))] (rw_B D vwCl (pg_tys cs) (pg_w ad cs rp M) sz)) (va_Qi (fun (r : Int32) (_ : Unit) => r = iI (((np : Nat) : Int))) (rw_E D vwCl (pg_tys cs) (pg_w ad cs rp M) (pg_w ad cs rp (q_apar (q_fg M) np)) sz) (va_A (pg_w ad cs rp M) sz)) 0 0 (va_A (pg_w ad cs rp M) sz) := by
  refine Met.ofW (cc := b_PL_paragraph) (maxL := 1) (ret := (some .int)) (by decide) rfl ?_
  intro p e s m args below meth c s₁ B hml hv
  obtain ⟨rfl, hsz, hP, hK, hD0⟩ := hv
  have hx := B.exec
  have hb := B.bytes
  have hr := B.returns
  have hts := atoms_spec (ws := ws_PL_paragraph) B.pre
  have hg : ∀ w ∈ gt, w.before _ s = true := fun w h => hts w (List.mem_cons_of_mem _ h)
  have hown : s.vm.findClass R_PL = some m.cls := findClass_of_methodNamed B.named
  have hlocks := B.notSynchronized
  subst hsz
  have hD := hD0.self (sz := s.heap.size)
  have hA : ∀ q : Nat, s.heap.size ≤ q → va_A (pg_w ad cs rp M) s.heap.size q := fun q h => Or.inr h
  have hS : va_S (va_A (pg_w ad cs rp M) s.heap.size) s.heap s.heap [] := va_S.rf
  have hl := lv_entry ([.ref (ad (0))]) (n := 1) (Nat.le_of_ble_eq_true rfl)
  rw [lg_entry_eq]
  generalize (lg_sl ([.ref (ad (0))]) ++ List.replicate (1 - (lg_sl ([.ref (ad (0))])).length) Slot.unset).toArray = ls at hl ⊢
  have hl : lv_has ls 1 [(0, .ref (ad (0)))] := hl
  refine lv_aload_n hx hb d_PL_paragraph_0 rfl (lv_at hl 0 rfl) ?_
  refine z_get (ci := 0) (C := R_PL) (T := T_PL) (N := 5) (v := .ref (ad (1))) hx hb hg in_PL hown hK hP (0) (by decide) rfl rfl 0 (by decide) (hg _ (List.mem_append_right _ (List.mem_append_right _ (List.mem_append_right _ (List.mem_append_right _ (List.mem_append_left _ (List.mem_of_getElem? (i := 39) rfl))))))) (fun _ h9 => h9) rfl d_PL_paragraph_1 ?_
  refine z_get (ci := 1) (C := R_TX) (T := T_TX) (N := 6) (v := .int (iI (M (1) 4))) hx hb hg in_TX hown hK hP (1) (by decide) rfl rfl 4 (by decide) (hg _ (List.mem_append_right _ (List.mem_append_right _ (List.mem_append_left _ (List.mem_of_getElem? (i := 27) rfl))))) (fun _ h9 => h9) rfl d_PL_paragraph_4 ?_
  refine z_bipush hx hb (z := 30) d_PL_paragraph_7 (by decide) ?_
  refine z_icmp_lt hx hb (tgt := 22) d_PL_paragraph_9 (by decide) ⟨by omega, by omega⟩ ⟨by decide, by decide⟩ (fun c_9 => ?_) (fun c_9 => ?_)
  · refine lv_aload_n hx hb d_PL_paragraph_22 rfl (lv_at hl 0 rfl) ?_
    refine rw_Vv (As := []) (rest := []) (w' := (pg_w ad cs rp (q_fg M))) ⟨hx, hb, hml, hown, hg⟩ (c_forgetLayout l _) (cwV 0 hg (gt_V (List.mem_append_right _ (List.mem_append_right _ (List.mem_append_right _ (List.mem_append_right _ (List.mem_append_right _ (List.mem_append_left _ (List.mem_of_getElem? (i := 13) rfl))))))) (List.mem_append_right _ (List.mem_append_right _ (List.mem_append_right _ (List.mem_append_right _ (List.mem_append_right _ (List.mem_append_left _ (List.mem_of_getElem? (i := 14) rfl))))))) (List.mem_append_left _ (List.mem_of_getElem? (i := 0) rfl)) (List.mem_append_right _ (List.mem_append_left _ (List.mem_of_getElem? (i := 2) rfl))) (List.mem_append_right _ (List.mem_append_right _ (List.mem_append_right _ (List.mem_append_right _ (List.mem_append_right _ (List.mem_append_left _ (List.mem_of_getElem? (i := 15) rfl)))))))) rfl rfl rfl (by decide +kernel) ⟨Nat.le_of_ble_eq_true rfl, Nat.le_of_ble_eq_true rfl⟩) hK hP hD hS hA (va_recv hK hP (ci := 0) (q0 := 0) rfl (wl_atE (by decide) rfl)) rfl hl.1 rfl (Nat.le_of_ble_eq_true rfl) d_PL_paragraph_23 ⟨Nat.zero_le _, Nat.zero_le _⟩ (fun H locs hP hD hS => ?_)
    obtain ⟨M_1, eM_1⟩ : ∃ q_, q_ = q_fg M := ⟨_, rfl⟩
    have hP : va_P D vwCl (pg_w ad cs rp M_1) H := by rw [eM_1]; exact hP
    have hD : va_D (va_A (pg_w ad cs rp M) s.heap.size) (pg_w ad cs rp M_1) := by rw [eM_1]; exact hD
    refine lv_aload_n hx hb d_PL_paragraph_26 rfl (lv_at hl 0 rfl) ?_
    refine z_get (ci := 0) (C := R_PL) (T := T_PL) (N := 5) (v := .ref (ad (1))) hx hb hg in_PL hown hK hP (0) (by decide) rfl rfl 0 (by decide) (hg _ (List.mem_append_right _ (List.mem_append_right _ (List.mem_append_right _ (List.mem_append_right _ (List.mem_append_left _ (List.mem_of_getElem? (i := 39) rfl))))))) (fun _ h9 => h9) rfl d_PL_paragraph_27 ?_
    have h14 : M_1 1 4 = ((np : Nat) : Int) := by rw [eM_1, q_fg_ne (by omega) (by omega) (by omega)]; exact hnp
    refine rw_Vi (As := []) (rest := []) (w' := (pg_w ad cs rp (q_apar M_1 np))) (z := ((np : Nat) : Int)) ⟨hx, hb, hml, hown, hg⟩ (c_addParagraph l _ np hn h14) (cwV 0 hg (gt_V (List.mem_append_right _ (List.mem_append_right _ (List.mem_append_right _ (List.mem_append_right _ (List.mem_append_right _ (List.mem_append_right _ (List.mem_append_right _ (List.mem_append_right _ (List.mem_append_right _ (List.mem_append_right _ (List.mem_append_left _ (List.mem_of_getElem? (i := 8) rfl)))))))))))) (List.mem_append_right _ (List.mem_append_right _ (List.mem_append_right _ (List.mem_append_right _ (List.mem_append_right _ (List.mem_append_right _ (List.mem_append_right _ (List.mem_append_right _ (List.mem_append_right _ (List.mem_append_right _ (List.mem_append_left _ (List.mem_of_getElem? (i := 9) rfl)))))))))))) (List.mem_append_right _ (List.mem_append_right _ (List.mem_append_right _ (List.mem_append_right _ (List.mem_append_right _ (List.mem_append_right _ (List.mem_append_right _ (List.mem_append_right _ (List.mem_append_right _ (List.mem_append_right _ (List.mem_append_left _ (List.mem_of_getElem? (i := 10) rfl)))))))))))) (List.mem_append_right _ (List.mem_append_left _ (List.mem_of_getElem? (i := 3) rfl))) (List.mem_append_right _ (List.mem_append_right _ (List.mem_append_right _ (List.mem_append_right _ (List.mem_append_right _ (List.mem_append_right _ (List.mem_append_right _ (List.mem_append_right _ (List.mem_append_right _ (List.mem_append_right _ (List.mem_append_left _ (List.mem_of_getElem? (i := 11) rfl))))))))))))) rfl rfl rfl (by decide +kernel) ⟨Nat.le_of_ble_eq_true rfl, Nat.le_of_ble_eq_true rfl⟩) hK hP hD hS hA (va_recv hK hP (ci := 1) (q0 := 1) rfl (wl_atE (by decide) rfl)) rfl hl.1 rfl (Nat.le_of_ble_eq_true rfl) d_PL_paragraph_30 ⟨Nat.zero_le _, Nat.zero_le _⟩ (fun H locs hP hD hS => ?_)
    obtain ⟨M_2, eM_2⟩ : ∃ q_, q_ = q_apar M_1 np := ⟨_, rfl⟩
    have hP : va_P D vwCl (pg_w ad cs rp M_2) H := by rw [eM_2]; exact hP
    have hD : va_D (va_A (pg_w ad cs rp M) s.heap.size) (pg_w ad cs rp M_2) := by rw [eM_2]; exact hD
    have hM : M_2 = q_apar (q_fg M) np := by rw [eM_2, eM_1]
    have eW : pg_w ad cs rp (M_2) = pg_w ad cs rp (q_apar (q_fg M) np) := by rw [hM]
    have hP := Eq.mp (congrArg (fun q => va_P D vwCl q _) eW) hP
    have hD := Eq.mp (congrArg (va_D _) eW) hD
    exact W.iret (v := iI (((np : Nat) : Int))) hx hb hr (fun t ht hW => ⟨⟨_, (), rfl, rfl, by rw [ht]; exact hP, va_K.moved hW.alike hK, hD⟩, hS.F ht⟩) hS.2.2 d_PL_paragraph_33
  · exfalso; omega
set_option maxHeartbeats 4000000 in
set_option maxRecDepth 100000 in
/-- sign -/
theorem c_sign (l : Launch) {D : va_G} {ad : Nat → Nat} {cs : pg_C} {rp : Option Nat} {M : Nat → Nat → Int} (sz : Nat) (np n : Nat) (k wd h : Int) (hk : zb k) (hw : zb wd) (hh : zb h) (hnp : M 1 4 = ((np : Nat) : Int)) (hn : np ≤ 30) (hs : M 1 5 = ((n : Nat) : Int)) (hn6 : n < 600) (h0 : 1 ≤ np) (h1 : inn k 0 6 ∧ inn wd 0 4000 ∧ inn h 0 2000) : Met l y_PL_sign ws_PL_sign ({ frames := 1, cells := 0, slots := 0, locals := 23 } : Room) (va_Pc [.ref (ad (0)), .int (iI (k)), .int (iI (wd)), .int (iI (h))] (rw_B D vwCl (pg_tys cs) (pg_w ad cs rp M) sz)) (va_Qi (fun (r : Int32) (_ : Unit) => r = iI (((n : Nat) : Int))) (rw_E D vwCl (pg_tys cs) (pg_w ad cs rp M) (pg_w ad cs rp (q_asgn (q_fg M) np n k wd h)) sz) (va_A (pg_w ad cs rp M) sz)) 0 0 (va_A (pg_w ad cs rp M) sz) := by
  refine Met.ofW (cc := b_PL_sign) (maxL := 4) (ret := (some .int)) (by decide) rfl ?_
  intro p e s m args below meth c s₁ B hml hv
  obtain ⟨rfl, hsz, hP, hK, hD0⟩ := hv
  have hx := B.exec
  have hb := B.bytes
  have hr := B.returns
  have hts := atoms_spec (ws := ws_PL_sign) B.pre
  have hg : ∀ w ∈ gt, w.before _ s = true := fun w h => hts w (List.mem_cons_of_mem _ h)
  have hown : s.vm.findClass R_PL = some m.cls := findClass_of_methodNamed B.named
  have hlocks := B.notSynchronized
  subst hsz
  have hD := hD0.self (sz := s.heap.size)
  have hA : ∀ q : Nat, s.heap.size ≤ q → va_A (pg_w ad cs rp M) s.heap.size q := fun q h => Or.inr h
  have hS : va_S (va_A (pg_w ad cs rp M) s.heap.size) s.heap s.heap [] := va_S.rf
  have hl := lv_entry ([.ref (ad (0)), .int (iI (k)), .int (iI (wd)), .int (iI (h))]) (n := 4) (Nat.le_of_ble_eq_true rfl)
  rw [lg_entry_eq]
  generalize (lg_sl ([.ref (ad (0)), .int (iI (k)), .int (iI (wd)), .int (iI (h))]) ++ List.replicate (4 - (lg_sl ([.ref (ad (0)), .int (iI (k)), .int (iI (wd)), .int (iI (h))])).length) Slot.unset).toArray = ls at hl ⊢
  have hl : lv_has ls 4 [(0, .ref (ad (0))), (1, .int (iI (k))), (2, .int (iI (wd))), (3, .int (iI (h)))] := hl
  obtain ⟨hk1, hk2⟩ := hk
  obtain ⟨hw1, hw2⟩ := hw
  obtain ⟨hh1, hh2⟩ := hh
  unfold inn at h1
  refine lv_aload_n hx hb d_PL_sign_0 rfl (lv_at hl 0 rfl) ?_
  refine z_get (ci := 0) (C := R_PL) (T := T_PL) (N := 5) (v := .ref (ad (1))) hx hb hg in_PL hown hK hP (0) (by decide) rfl rfl 0 (by decide) (hg _ (List.mem_append_right _ (List.mem_append_right _ (List.mem_append_right _ (List.mem_append_right _ (List.mem_append_left _ (List.mem_of_getElem? (i := 39) rfl))))))) (fun _ h9 => h9) rfl d_PL_sign_1 ?_
  refine z_get (ci := 1) (C := R_TX) (T := T_TX) (N := 6) (v := .int (iI (M (1) 4))) hx hb hg in_TX hown hK hP (1) (by decide) rfl rfl 4 (by decide) (hg _ (List.mem_append_right _ (List.mem_append_right _ (List.mem_append_left _ (List.mem_of_getElem? (i := 27) rfl))))) (fun _ h9 => h9) rfl d_PL_sign_4 ?_
  refine z_iconst hx hb (z := 1) d_PL_sign_7 ?_
  refine z_icmp_ge hx hb (tgt := 21) d_PL_sign_8 (by decide) ⟨by omega, by omega⟩ ⟨by decide, by decide⟩ (fun c_8 => ?_) (fun c_8 => ?_)
  · refine lv_iload_n hx hb d_PL_sign_21 rfl (lv_at hl 1 rfl) ?_
    refine z_iconst hx hb (z := 0) d_PL_sign_22 ?_
    refine z_bipush hx hb (z := 6) d_PL_sign_23 (by decide) ?_
    refine ro_S (As := [.int (iI (k)), .int (iI (0)), .int (iI (6))]) (rest := []) (z := bz (k < 0 ∨ 6 < k) inferInstance) ⟨hx, hb, hml, hown, hg⟩ (c_isOutside l (k) (0) (6) ⟨by omega, by omega⟩ ⟨by decide, by decide⟩ ⟨by decide, by decide⟩) (cwS 3 hg (gt_S (List.mem_append_right _ (List.mem_append_right _ (List.mem_append_right _ (List.mem_append_right _ (List.mem_append_right _ (List.mem_append_right _ (List.mem_append_right _ (List.mem_append_right _ (List.mem_append_right _ (List.mem_append_right _ (List.mem_append_right _ (List.mem_append_left _ (List.mem_of_getElem? (i := 0) rfl))))))))))))) (List.mem_append_right _ (List.mem_append_right _ (List.mem_append_right _ (List.mem_append_right _ (List.mem_append_right _ (List.mem_append_right _ (List.mem_append_right _ (List.mem_append_right _ (List.mem_append_right _ (List.mem_append_right _ (List.mem_append_right _ (List.mem_append_left _ (List.mem_of_getElem? (i := 1) rfl))))))))))))) (List.mem_append_right _ (List.mem_append_left _ (List.mem_of_getElem? (i := 2) rfl))) (List.mem_append_right _ (List.mem_append_right _ (List.mem_append_right _ (List.mem_append_right _ (List.mem_append_right _ (List.mem_append_right _ (List.mem_append_right _ (List.mem_append_right _ (List.mem_append_right _ (List.mem_append_right _ (List.mem_append_right _ (List.mem_append_left _ (List.mem_of_getElem? (i := 2) rfl)))))))))))))) rfl rfl rfl (by decide +kernel) ⟨Nat.le_of_ble_eq_true rfl, Nat.le_of_ble_eq_true rfl⟩) hK hP rfl hl.1 rfl (Nat.le_of_ble_eq_true rfl) d_PL_sign_25 ⟨Nat.zero_le _, Nat.zero_le _⟩ ?_
    refine z_ifb_ne hx hb (tgt := 53) d_PL_sign_28 (by decide) (fun c_28 => ?_) (fun c_28 => ?_)
    · exfalso; omega
    · refine lv_iload_n hx hb d_PL_sign_31 rfl (lv_at hl 2 rfl) ?_
      refine z_iconst hx hb (z := 0) d_PL_sign_32 ?_
      refine z_sipush hx hb (z := 4000) d_PL_sign_33 (by decide) ?_
      refine ro_S (As := [.int (iI (wd)), .int (iI (0)), .int (iI (4000))]) (rest := []) (z := bz (wd < 0 ∨ 4000 < wd) inferInstance) ⟨hx, hb, hml, hown, hg⟩ (c_isOutside l (wd) (0) (4000) ⟨by omega, by omega⟩ ⟨by decide, by decide⟩ ⟨by decide, by decide⟩) (cwS 3 hg (gt_S (List.mem_append_right _ (List.mem_append_right _ (List.mem_append_right _ (List.mem_append_right _ (List.mem_append_right _ (List.mem_append_right _ (List.mem_append_right _ (List.mem_append_right _ (List.mem_append_right _ (List.mem_append_right _ (List.mem_append_right _ (List.mem_append_left _ (List.mem_of_getElem? (i := 0) rfl))))))))))))) (List.mem_append_right _ (List.mem_append_right _ (List.mem_append_right _ (List.mem_append_right _ (List.mem_append_right _ (List.mem_append_right _ (List.mem_append_right _ (List.mem_append_right _ (List.mem_append_right _ (List.mem_append_right _ (List.mem_append_right _ (List.mem_append_left _ (List.mem_of_getElem? (i := 1) rfl))))))))))))) (List.mem_append_right _ (List.mem_append_left _ (List.mem_of_getElem? (i := 2) rfl))) (List.mem_append_right _ (List.mem_append_right _ (List.mem_append_right _ (List.mem_append_right _ (List.mem_append_right _ (List.mem_append_right _ (List.mem_append_right _ (List.mem_append_right _ (List.mem_append_right _ (List.mem_append_right _ (List.mem_append_right _ (List.mem_append_left _ (List.mem_of_getElem? (i := 2) rfl)))))))))))))) rfl rfl rfl (by decide +kernel) ⟨Nat.le_of_ble_eq_true rfl, Nat.le_of_ble_eq_true rfl⟩) hK hP rfl hl.1 rfl (Nat.le_of_ble_eq_true rfl) d_PL_sign_36 ⟨Nat.zero_le _, Nat.zero_le _⟩ ?_
      refine z_ifb_ne hx hb (tgt := 53) d_PL_sign_39 (by decide) (fun c_39 => ?_) (fun c_39 => ?_)
      · exfalso; omega
      · refine lv_iload_n hx hb d_PL_sign_42 rfl (lv_at hl 3 rfl) ?_
        refine z_iconst hx hb (z := 0) d_PL_sign_43 ?_
        refine z_sipush hx hb (z := 2000) d_PL_sign_44 (by decide) ?_
        refine ro_S (As := [.int (iI (h)), .int (iI (0)), .int (iI (2000))]) (rest := []) (z := bz (h < 0 ∨ 2000 < h) inferInstance) ⟨hx, hb, hml, hown, hg⟩ (c_isOutside l (h) (0) (2000) ⟨by omega, by omega⟩ ⟨by decide, by decide⟩ ⟨by decide, by decide⟩) (cwS 3 hg (gt_S (List.mem_append_right _ (List.mem_append_right _ (List.mem_append_right _ (List.mem_append_right _ (List.mem_append_right _ (List.mem_append_right _ (List.mem_append_right _ (List.mem_append_right _ (List.mem_append_right _ (List.mem_append_right _ (List.mem_append_right _ (List.mem_append_left _ (List.mem_of_getElem? (i := 0) rfl))))))))))))) (List.mem_append_right _ (List.mem_append_right _ (List.mem_append_right _ (List.mem_append_right _ (List.mem_append_right _ (List.mem_append_right _ (List.mem_append_right _ (List.mem_append_right _ (List.mem_append_right _ (List.mem_append_right _ (List.mem_append_right _ (List.mem_append_left _ (List.mem_of_getElem? (i := 1) rfl))))))))))))) (List.mem_append_right _ (List.mem_append_left _ (List.mem_of_getElem? (i := 2) rfl))) (List.mem_append_right _ (List.mem_append_right _ (List.mem_append_right _ (List.mem_append_right _ (List.mem_append_right _ (List.mem_append_right _ (List.mem_append_right _ (List.mem_append_right _ (List.mem_append_right _ (List.mem_append_right _ (List.mem_append_right _ (List.mem_append_left _ (List.mem_of_getElem? (i := 2) rfl)))))))))))))) rfl rfl rfl (by decide +kernel) ⟨Nat.le_of_ble_eq_true rfl, Nat.le_of_ble_eq_true rfl⟩) hK hP rfl hl.1 rfl (Nat.le_of_ble_eq_true rfl) d_PL_sign_47 ⟨Nat.zero_le _, Nat.zero_le _⟩ ?_
        refine z_ifb_eq hx hb (tgt := 63) d_PL_sign_50 (by decide) (fun c_50 => ?_) (fun c_50 => ?_)
        · refine lv_aload_n hx hb d_PL_sign_63 rfl (lv_at hl 0 rfl) ?_
          refine z_get (ci := 0) (C := R_PL) (T := T_PL) (N := 5) (v := .ref (ad (1))) hx hb hg in_PL hown hK hP (0) (by decide) rfl rfl 0 (by decide) (hg _ (List.mem_append_right _ (List.mem_append_right _ (List.mem_append_right _ (List.mem_append_right _ (List.mem_append_left _ (List.mem_of_getElem? (i := 39) rfl))))))) (fun _ h9 => h9) rfl d_PL_sign_64 ?_
          refine z_get (ci := 1) (C := R_TX) (T := T_TX) (N := 6) (v := .int (iI (M (1) 5))) hx hb hg in_TX hown hK hP (1) (by decide) rfl rfl 5 (by decide) (hg _ (List.mem_append_right _ (List.mem_append_right _ (List.mem_append_left _ (List.mem_of_getElem? (i := 31) rfl))))) (fun _ h9 => h9) rfl d_PL_sign_67 ?_
          refine z_sipush hx hb (z := 600) d_PL_sign_70 (by decide) ?_
          refine z_icmp_lt hx hb (tgt := 86) d_PL_sign_73 (by decide) ⟨by omega, by omega⟩ ⟨by decide, by decide⟩ (fun c_73 => ?_) (fun c_73 => ?_)
          · refine lv_aload_n hx hb d_PL_sign_86 rfl (lv_at hl 0 rfl) ?_
            refine rw_Vv (As := []) (rest := []) (w' := (pg_w ad cs rp (q_fg M))) ⟨hx, hb, hml, hown, hg⟩ (c_forgetLayout l _) (cwV 0 hg (gt_V (List.mem_append_right _ (List.mem_append_right _ (List.mem_append_right _ (List.mem_append_right _ (List.mem_append_right _ (List.mem_append_left _ (List.mem_of_getElem? (i := 13) rfl))))))) (List.mem_append_right _ (List.mem_append_right _ (List.mem_append_right _ (List.mem_append_right _ (List.mem_append_right _ (List.mem_append_left _ (List.mem_of_getElem? (i := 14) rfl))))))) (List.mem_append_left _ (List.mem_of_getElem? (i := 0) rfl)) (List.mem_append_right _ (List.mem_append_left _ (List.mem_of_getElem? (i := 2) rfl))) (List.mem_append_right _ (List.mem_append_right _ (List.mem_append_right _ (List.mem_append_right _ (List.mem_append_right _ (List.mem_append_left _ (List.mem_of_getElem? (i := 15) rfl)))))))) rfl rfl rfl (by decide +kernel) ⟨Nat.le_of_ble_eq_true rfl, Nat.le_of_ble_eq_true rfl⟩) hK hP hD hS hA (va_recv hK hP (ci := 0) (q0 := 0) rfl (wl_atE (by decide) rfl)) rfl hl.1 rfl (Nat.le_of_ble_eq_true rfl) d_PL_sign_87 ⟨Nat.zero_le _, Nat.zero_le _⟩ (fun H locs hP hD hS => ?_)
            obtain ⟨M_1, eM_1⟩ : ∃ q_, q_ = q_fg M := ⟨_, rfl⟩
            have hP : va_P D vwCl (pg_w ad cs rp M_1) H := by rw [eM_1]; exact hP
            have hD : va_D (va_A (pg_w ad cs rp M) s.heap.size) (pg_w ad cs rp M_1) := by rw [eM_1]; exact hD
            refine lv_aload_n hx hb d_PL_sign_90 rfl (lv_at hl 0 rfl) ?_
            refine z_get (ci := 0) (C := R_PL) (T := T_PL) (N := 5) (v := .ref (ad (1))) hx hb hg in_PL hown hK hP (0) (by decide) rfl rfl 0 (by decide) (hg _ (List.mem_append_right _ (List.mem_append_right _ (List.mem_append_right _ (List.mem_append_right _ (List.mem_append_left _ (List.mem_of_getElem? (i := 39) rfl))))))) (fun _ h9 => h9) rfl d_PL_sign_91 ?_
            refine lv_iload_n hx hb d_PL_sign_94 rfl (lv_at hl 1 rfl) ?_
            refine lv_iload_n hx hb d_PL_sign_95 rfl (lv_at hl 2 rfl) ?_
            refine lv_iload_n hx hb d_PL_sign_96 rfl (lv_at hl 3 rfl) ?_
            have h14 : M_1 1 4 = (((np) : Nat) : Int) := by rw [eM_1, q_fg_ne (by omega) (by omega) (by omega)]; exact hnp
            have h15 : M_1 1 5 = (((n) : Nat) : Int) := by rw [eM_1, q_fg_ne (by omega) (by omega) (by omega)]; exact hs
            refine rw_Vi (As := [.int (iI (k)), .int (iI (wd)), .int (iI (h))]) (rest := []) (w' := (pg_w ad cs rp (q_asgn M_1 np n k wd h))) (z := ((n : Nat) : Int)) ⟨hx, hb, hml, hown, hg⟩ (c_addSign l _ np n k wd h h0 hn hn6 h14 h15) (cwV 3 hg (gt_V (List.mem_append_right _ (List.mem_append_right _ (List.mem_append_right _ (List.mem_append_right _ (List.mem_append_right _ (List.mem_append_right _ (List.mem_append_right _ (List.mem_append_right _ (List.mem_append_right _ (List.mem_append_right _ (List.mem_append_right _ (List.mem_append_left _ (List.mem_of_getElem? (i := 16) rfl))))))))))))) (List.mem_append_right _ (List.mem_append_right _ (List.mem_append_right _ (List.mem_append_right _ (List.mem_append_right _ (List.mem_append_right _ (List.mem_append_right _ (List.mem_append_right _ (List.mem_append_right _ (List.mem_append_right _ (List.mem_append_right _ (List.mem_append_left _ (List.mem_of_getElem? (i := 17) rfl))))))))))))) (List.mem_append_right _ (List.mem_append_right _ (List.mem_append_right _ (List.mem_append_right _ (List.mem_append_right _ (List.mem_append_right _ (List.mem_append_right _ (List.mem_append_right _ (List.mem_append_right _ (List.mem_append_right _ (List.mem_append_right _ (List.mem_append_left _ (List.mem_of_getElem? (i := 18) rfl))))))))))))) (List.mem_append_right _ (List.mem_append_left _ (List.mem_of_getElem? (i := 3) rfl))) (List.mem_append_right _ (List.mem_append_right _ (List.mem_append_right _ (List.mem_append_right _ (List.mem_append_right _ (List.mem_append_right _ (List.mem_append_right _ (List.mem_append_right _ (List.mem_append_right _ (List.mem_append_right _ (List.mem_append_right _ (List.mem_append_left _ (List.mem_of_getElem? (i := 19) rfl)))))))))))))) rfl rfl rfl (by decide +kernel) ⟨Nat.le_of_ble_eq_true rfl, Nat.le_of_ble_eq_true rfl⟩) hK hP hD hS hA (va_recv hK hP (ci := 1) (q0 := 1) rfl (wl_atE (by decide) rfl)) rfl hl.1 rfl (Nat.le_of_ble_eq_true rfl) d_PL_sign_97 ⟨Nat.zero_le _, Nat.zero_le _⟩ (fun H locs hP hD hS => ?_)
            obtain ⟨M_2, eM_2⟩ : ∃ q_, q_ = q_asgn M_1 np n k wd h := ⟨_, rfl⟩
            have hP : va_P D vwCl (pg_w ad cs rp M_2) H := by rw [eM_2]; exact hP
            have hD : va_D (va_A (pg_w ad cs rp M) s.heap.size) (pg_w ad cs rp M_2) := by rw [eM_2]; exact hD
            have hM : M_2 = q_asgn (q_fg M) np n k wd h := by rw [eM_2, eM_1]
            have eW : pg_w ad cs rp (M_2) = pg_w ad cs rp (q_asgn (q_fg M) np n k wd h) := by rw [hM]
            have hP := Eq.mp (congrArg (fun q => va_P D vwCl q _) eW) hP
            have hD := Eq.mp (congrArg (va_D _) eW) hD
            exact W.iret (v := iI (((n : Nat) : Int))) hx hb hr (fun t ht hW => ⟨⟨_, (), rfl, rfl, by rw [ht]; exact hP, va_K.moved hW.alike hK, hD⟩, hS.F ht⟩) hS.2.2 d_PL_sign_100
          · exfalso; omega
        · exfalso; omega
  · exfalso; omega
set_option maxHeartbeats 4000000 in
set_option maxRecDepth 100000 in
/-- stop -/
theorem c_stop (l : Launch) {D : va_G} {ad : Nat → Nat} {cs : pg_C} {rp : Option Nat} {M : Nat → Nat → Int} (sz : Nat) (np : Nat) (x at_ k : Int) (hx0 : zb x) (hw : zb at_) (hv : zb k) (hnp : M 1 4 = ((np : Nat) : Int)) (hn : np ≤ 30) (q n : Nat) (hxq : x = ((q : Nat) : Int)) (hqn : q < np) (hwf : wfP M q n) (h1 : inn at_ (p_last n (M (31 + 4 * q)) + 1) 30000 ∧ inn k 0 2) (h2 : n < 8) : Met l y_PL_stop ws_PL_stop ({ frames := 1, cells := 0, slots := 0, locals := 22 } : Room) (va_Pc [.ref (ad (0)), .int (iI (x)), .int (iI (at_)), .int (iI (k))] (rw_B D vwCl (pg_tys cs) (pg_w ad cs rp M) sz)) (va_Qi (fun (r : Int32) (_ : Unit) => r = iI (((n : Nat) : Int) + 1)) (rw_E D vwCl (pg_tys cs) (pg_w ad cs rp M) (pg_w ad cs rp (q_stp (q_fg M) q n at_ k)) sz) (va_A (pg_w ad cs rp M) sz)) 0 0 (va_A (pg_w ad cs rp M) sz) := by
  refine Met.ofW (cc := b_PL_stop) (maxL := 5) (ret := (some .int)) (by decide) rfl ?_
  intro p e s m args below meth c s₁ B hml hv
  obtain ⟨rfl, hsz, hP, hK, hD0⟩ := hv
  have hx := B.exec
  have hb := B.bytes
  have hr := B.returns
  have hts := atoms_spec (ws := ws_PL_stop) B.pre
  have hg : ∀ w ∈ gt, w.before _ s = true := fun w h => hts w (List.mem_cons_of_mem _ h)
  have hown : s.vm.findClass R_PL = some m.cls := findClass_of_methodNamed B.named
  have hlocks := B.notSynchronized
  subst hsz
  have hD := hD0.self (sz := s.heap.size)
  have hA : ∀ q : Nat, s.heap.size ≤ q → va_A (pg_w ad cs rp M) s.heap.size q := fun q h => Or.inr h
  have hS : va_S (va_A (pg_w ad cs rp M) s.heap.size) s.heap s.heap [] := va_S.rf
  have hl := lv_entry ([.ref (ad (0)), .int (iI (x)), .int (iI (at_)), .int (iI (k))]) (n := 5) (Nat.le_of_ble_eq_true rfl)
  rw [lg_entry_eq]
  generalize (lg_sl ([.ref (ad (0)), .int (iI (x)), .int (iI (at_)), .int (iI (k))]) ++ List.replicate (5 - (lg_sl ([.ref (ad (0)), .int (iI (x)), .int (iI (at_)), .int (iI (k))])).length) Slot.unset).toArray = ls at hl ⊢
  have hl : lv_has ls 5 [(0, .ref (ad (0))), (1, .int (iI (x))), (2, .int (iI (at_))), (3, .int (iI (k)))] := hl
  obtain ⟨hx1, hx2⟩ := hx0
  obtain ⟨hw1, hw2⟩ := hw
  obtain ⟨hv1, hv2⟩ := hv
  obtain ⟨hq3, hn8, hst, hz4, hz5⟩ := id hwf
  have hlb : 0 ≤ p_last n (M (31 + 4 * q)) ∧ p_last n (M (31 + 4 * q)) ≤ 30000 := by unfold p_last; split <;> first | exact hz4 _ | omega
  unfold inn at h1
  refine lv_iload_n hx hb d_PL_stop_0 rfl (lv_at hl 1 rfl) ?_
  refine z_iconst hx hb (z := 0) d_PL_stop_1 ?_
  refine lv_aload_n hx hb d_PL_stop_2 rfl (lv_at hl 0 rfl) ?_
  refine z_get (ci := 0) (C := R_PL) (T := T_PL) (N := 5) (v := .ref (ad (1))) hx hb hg in_PL hown hK hP (0) (by decide) rfl rfl 0 (by decide) (hg _ (List.mem_append_right _ (List.mem_append_right _ (List.mem_append_right _ (List.mem_append_right _ (List.mem_append_left _ (List.mem_of_getElem? (i := 39) rfl))))))) (fun _ h9 => h9) rfl d_PL_stop_3 ?_
  refine z_get (ci := 1) (C := R_TX) (T := T_TX) (N := 6) (v := .int (iI (M (1) 4))) hx hb hg in_TX hown hK hP (1) (by decide) rfl rfl 4 (by decide) (hg _ (List.mem_append_right _ (List.mem_append_right _ (List.mem_append_left _ (List.mem_of_getElem? (i := 27) rfl))))) (fun _ h9 => h9) rfl d_PL_stop_6 ?_
  refine z_iconst hx hb (z := 1) d_PL_stop_9 ?_
  refine z_isub hx hb d_PL_stop_10 (v := (M (1) 4 - 1)) rfl ?_
  refine ro_S (As := [.int (iI (x)), .int (iI (0)), .int (iI ((M (1) 4 - 1)))]) (rest := []) (z := bz (x < 0 ∨ (M (1) 4 - 1) < x) inferInstance) ⟨hx, hb, hml, hown, hg⟩ (c_isOutside l (x) (0) ((M (1) 4 - 1)) ⟨by omega, by omega⟩ ⟨by decide, by decide⟩ ⟨by omega, by omega⟩) (cwS 3 hg (gt_S (List.mem_append_right _ (List.mem_append_right _ (List.mem_append_right _ (List.mem_append_right _ (List.mem_append_right _ (List.mem_append_right _ (List.mem_append_right _ (List.mem_append_right _ (List.mem_append_right _ (List.mem_append_right _ (List.mem_append_right _ (List.mem_append_left _ (List.mem_of_getElem? (i := 0) rfl))))))))))))) (List.mem_append_right _ (List.mem_append_right _ (List.mem_append_right _ (List.mem_append_right _ (List.mem_append_right _ (List.mem_append_right _ (List.mem_append_right _ (List.mem_append_right _ (List.mem_append_right _ (List.mem_append_right _ (List.mem_append_right _ (List.mem_append_left _ (List.mem_of_getElem? (i := 1) rfl))))))))))))) (List.mem_append_right _ (List.mem_append_left _ (List.mem_of_getElem? (i := 2) rfl))) (List.mem_append_right _ (List.mem_append_right _ (List.mem_append_right _ (List.mem_append_right _ (List.mem_append_right _ (List.mem_append_right _ (List.mem_append_right _ (List.mem_append_right _ (List.mem_append_right _ (List.mem_append_right _ (List.mem_append_right _ (List.mem_append_left _ (List.mem_of_getElem? (i := 2) rfl)))))))))))))) rfl rfl rfl (by decide +kernel) ⟨Nat.le_of_ble_eq_true rfl, Nat.le_of_ble_eq_true rfl⟩) hK hP rfl hl.1 rfl (Nat.le_of_ble_eq_true rfl) d_PL_stop_11 ⟨Nat.zero_le _, Nat.zero_le _⟩ ?_
  refine z_ifb_eq hx hb (tgt := 27) d_PL_stop_14 (by decide) (fun c_14 => ?_) (fun c_14 => ?_)
  · refine lv_aload_n hx hb d_PL_stop_27 rfl (lv_at hl 0 rfl) ?_
    refine z_get (ci := 0) (C := R_PL) (T := T_PL) (N := 5) (v := .ref (ad (1))) hx hb hg in_PL hown hK hP (0) (by decide) rfl rfl 0 (by decide) (hg _ (List.mem_append_right _ (List.mem_append_right _ (List.mem_append_right _ (List.mem_append_right _ (List.mem_append_left _ (List.mem_of_getElem? (i := 39) rfl))))))) (fun _ h9 => h9) rfl d_PL_stop_28 ?_
    refine z_get (ci := 1) (C := R_TX) (T := T_TX) (N := 6) (v := .ref (ad (6))) hx hb hg in_TX hown hK hP (1) (by decide) rfl rfl 0 (by decide) (hg _ (List.mem_append_right _ (List.mem_append_right _ (List.mem_append_left _ (List.mem_of_getElem? (i := 18) rfl))))) (fun _ h9 => h9) rfl d_PL_stop_31 ?_
    refine lv_iload_n hx hb d_PL_stop_34 rfl (lv_at hl 1 rfl) ?_
    refine z_aald hx hb hK hP (6) 2 (by decide) (fun _ => rfl) rfl rfl (q) hxq (by omega) (by decide) d_PL_stop_35 ?_
    refine lv_astore (lv' := [(4, .ref (ad (29 + 4 * q))), (0, .ref (ad (0))), (1, .int (iI (x))), (2, .int (iI (at_))), (3, .int (iI (k)))]) hx hb d_PL_stop_36 hl (by decide) rfl (fun ls hl => ?_)
    refine lv_iload_n hx hb d_PL_stop_38 rfl (lv_at hl 3 rfl) ?_
    refine lv_aload hx hb d_PL_stop_39 (lv_at hl 0 rfl) ?_
    refine ro_V (As := []) (rest := [.int (iI (at_))]) (z := p_last n (M (31 + 4 * q))) ⟨hx, hb, hml, hown, hg⟩ (c_lastStop l q n hq3 hn8 hst) (cwV 0 hg (gt_V (List.mem_append_right _ (List.mem_append_right _ (List.mem_append_right _ (List.mem_append_right _ (List.mem_append_right _ (List.mem_append_right _ (List.mem_append_right _ (List.mem_append_right _ (List.mem_append_right _ (List.mem_append_right _ (List.mem_append_right _ (List.mem_append_left _ (List.mem_of_getElem? (i := 34) rfl))))))))))))) (List.mem_append_right _ (List.mem_append_right _ (List.mem_append_right _ (List.mem_append_right _ (List.mem_append_right _ (List.mem_append_right _ (List.mem_append_left _ (List.mem_of_getElem? (i := 19) rfl)))))))) (List.mem_append_right _ (List.mem_append_right _ (List.mem_append_right _ (List.mem_append_right _ (List.mem_append_right _ (List.mem_append_right _ (List.mem_append_left _ (List.mem_of_getElem? (i := 20) rfl)))))))) (List.mem_append_right _ (List.mem_append_left _ (List.mem_of_getElem? (i := 4) rfl))) (List.mem_append_right _ (List.mem_append_right _ (List.mem_append_right _ (List.mem_append_right _ (List.mem_append_right _ (List.mem_append_right _ (List.mem_append_left _ (List.mem_of_getElem? (i := 21) rfl))))))))) rfl rfl rfl (by decide +kernel) ⟨Nat.le_of_ble_eq_true rfl, Nat.le_of_ble_eq_true rfl⟩) hK hP (va_recv hK hP (ci := 6) (q0 := 29 + 4 * q) rfl (wl_atE (by omega) (pg_par _ _ _ _ _))) rfl hl.1 rfl (Nat.le_of_ble_eq_true rfl) d_PL_stop_41 ⟨Nat.zero_le _, Nat.zero_le _⟩ ?_
    refine z_iconst hx hb (z := 1) d_PL_stop_44 ?_
    refine z_iadd hx hb d_PL_stop_45 (v := (p_last n (M (31 + 4 * q)) + 1)) rfl ?_
    refine z_sipush hx hb (z := 30000) d_PL_stop_46 (by decide) ?_
    refine ro_S (As := [.int (iI (at_)), .int (iI ((p_last n (M (31 + 4 * q)) + 1))), .int (iI (30000))]) (rest := []) (z := bz (at_ < (p_last n (M (31 + 4 * q)) + 1) ∨ 30000 < at_) inferInstance) ⟨hx, hb, hml, hown, hg⟩ (c_isOutside l (at_) ((p_last n (M (31 + 4 * q)) + 1)) (30000) ⟨by omega, by omega⟩ ⟨by omega, by omega⟩ ⟨by decide, by decide⟩) (cwS 3 hg (gt_S (List.mem_append_right _ (List.mem_append_right _ (List.mem_append_right _ (List.mem_append_right _ (List.mem_append_right _ (List.mem_append_right _ (List.mem_append_right _ (List.mem_append_right _ (List.mem_append_right _ (List.mem_append_right _ (List.mem_append_right _ (List.mem_append_left _ (List.mem_of_getElem? (i := 0) rfl))))))))))))) (List.mem_append_right _ (List.mem_append_right _ (List.mem_append_right _ (List.mem_append_right _ (List.mem_append_right _ (List.mem_append_right _ (List.mem_append_right _ (List.mem_append_right _ (List.mem_append_right _ (List.mem_append_right _ (List.mem_append_right _ (List.mem_append_left _ (List.mem_of_getElem? (i := 1) rfl))))))))))))) (List.mem_append_right _ (List.mem_append_left _ (List.mem_of_getElem? (i := 2) rfl))) (List.mem_append_right _ (List.mem_append_right _ (List.mem_append_right _ (List.mem_append_right _ (List.mem_append_right _ (List.mem_append_right _ (List.mem_append_right _ (List.mem_append_right _ (List.mem_append_right _ (List.mem_append_right _ (List.mem_append_right _ (List.mem_append_left _ (List.mem_of_getElem? (i := 2) rfl)))))))))))))) rfl rfl rfl (by decide +kernel) ⟨Nat.le_of_ble_eq_true rfl, Nat.le_of_ble_eq_true rfl⟩) hK hP rfl hl.1 rfl (Nat.le_of_ble_eq_true rfl) d_PL_stop_49 ⟨Nat.zero_le _, Nat.zero_le _⟩ ?_
    refine z_ifb_ne hx hb (tgt := 64) d_PL_stop_52 (by decide) (fun c_52 => ?_) (fun c_52 => ?_)
    · exfalso; omega
    · refine lv_iload_n hx hb d_PL_stop_55 rfl (lv_at hl 4 rfl) ?_
      refine z_iconst hx hb (z := 0) d_PL_stop_56 ?_
      refine z_iconst hx hb (z := 2) d_PL_stop_57 ?_
      refine ro_S (As := [.int (iI (k)), .int (iI (0)), .int (iI (2))]) (rest := []) (z := bz (k < 0 ∨ 2 < k) inferInstance) ⟨hx, hb, hml, hown, hg⟩ (c_isOutside l (k) (0) (2) ⟨by omega, by omega⟩ ⟨by decide, by decide⟩ ⟨by decide, by decide⟩) (cwS 3 hg (gt_S (List.mem_append_right _ (List.mem_append_right _ (List.mem_append_right _ (List.mem_append_right _ (List.mem_append_right _ (List.mem_append_right _ (List.mem_append_right _ (List.mem_append_right _ (List.mem_append_right _ (List.mem_append_right _ (List.mem_append_right _ (List.mem_append_left _ (List.mem_of_getElem? (i := 0) rfl))))))))))))) (List.mem_append_right _ (List.mem_append_right _ (List.mem_append_right _ (List.mem_append_right _ (List.mem_append_right _ (List.mem_append_right _ (List.mem_append_right _ (List.mem_append_right _ (List.mem_append_right _ (List.mem_append_right _ (List.mem_append_right _ (List.mem_append_left _ (List.mem_of_getElem? (i := 1) rfl))))))))))))) (List.mem_append_right _ (List.mem_append_left _ (List.mem_of_getElem? (i := 2) rfl))) (List.mem_append_right _ (List.mem_append_right _ (List.mem_append_right _ (List.mem_append_right _ (List.mem_append_right _ (List.mem_append_right _ (List.mem_append_right _ (List.mem_append_right _ (List.mem_append_right _ (List.mem_append_right _ (List.mem_append_right _ (List.mem_append_left _ (List.mem_of_getElem? (i := 2) rfl)))))))))))))) rfl rfl rfl (by decide +kernel) ⟨Nat.le_of_ble_eq_true rfl, Nat.le_of_ble_eq_true rfl⟩) hK hP rfl hl.1 rfl (Nat.le_of_ble_eq_true rfl) d_PL_stop_58 ⟨Nat.zero_le _, Nat.zero_le _⟩ ?_
      refine z_ifb_eq hx hb (tgt := 74) d_PL_stop_61 (by decide) (fun c_61 => ?_) (fun c_61 => ?_)
      · refine lv_aload hx hb d_PL_stop_74 (lv_at hl 0 rfl) ?_
        refine z_get (ci := 6) (C := R_PA) (T := T_PA) (N := 6) (v := .int (iI (M (29 + 4 * q) 3))) hx hb hg in_PA hown hK hP (29 + 4 * q) (by omega) (pg_par _ _ _ _ _) rfl 3 (by decide) (hg _ (List.mem_append_right _ (List.mem_append_right _ (List.mem_append_left _ (List.mem_of_getElem? (i := 4) rfl))))) (fun _ h9 => h9) rfl d_PL_stop_76 ?_
        refine z_bipush hx hb (z := 8) d_PL_stop_79 (by decide) ?_
        refine z_icmp_lt hx hb (tgt := 94) d_PL_stop_81 (by decide) ⟨by omega, by omega⟩ ⟨by decide, by decide⟩ (fun c_81 => ?_) (fun c_81 => ?_)
        · refine lv_aload_n hx hb d_PL_stop_94 rfl (lv_at hl 1 rfl) ?_
          refine rw_Vv (As := []) (rest := []) (w' := (pg_w ad cs rp (q_fg M))) ⟨hx, hb, hml, hown, hg⟩ (c_forgetLayout l _) (cwV 0 hg (gt_V (List.mem_append_right _ (List.mem_append_right _ (List.mem_append_right _ (List.mem_append_right _ (List.mem_append_right _ (List.mem_append_left _ (List.mem_of_getElem? (i := 13) rfl))))))) (List.mem_append_right _ (List.mem_append_right _ (List.mem_append_right _ (List.mem_append_right _ (List.mem_append_right _ (List.mem_append_left _ (List.mem_of_getElem? (i := 14) rfl))))))) (List.mem_append_left _ (List.mem_of_getElem? (i := 0) rfl)) (List.mem_append_right _ (List.mem_append_left _ (List.mem_of_getElem? (i := 2) rfl))) (List.mem_append_right _ (List.mem_append_right _ (List.mem_append_right _ (List.mem_append_right _ (List.mem_append_right _ (List.mem_append_left _ (List.mem_of_getElem? (i := 15) rfl)))))))) rfl rfl rfl (by decide +kernel) ⟨Nat.le_of_ble_eq_true rfl, Nat.le_of_ble_eq_true rfl⟩) hK hP hD hS hA (va_recv hK hP (ci := 0) (q0 := 0) rfl (wl_atE (by decide) rfl)) rfl hl.1 rfl (Nat.le_of_ble_eq_true rfl) d_PL_stop_95 ⟨Nat.zero_le _, Nat.zero_le _⟩ (fun H locs hP hD hS => ?_)
          obtain ⟨M_1, eM_1⟩ : ∃ q_, q_ = q_fg M := ⟨_, rfl⟩
          have hP : va_P D vwCl (pg_w ad cs rp M_1) H := by rw [eM_1]; exact hP
          have hD : va_D (va_A (pg_w ad cs rp M) s.heap.size) (pg_w ad cs rp M_1) := by rw [eM_1]; exact hD
          refine lv_aload hx hb d_PL_stop_98 (lv_at hl 0 rfl) ?_
          refine lv_iload_n hx hb d_PL_stop_100 rfl (lv_at hl 3 rfl) ?_
          refine lv_iload_n hx hb d_PL_stop_101 rfl (lv_at hl 4 rfl) ?_
          have hst1 : M_1 (29 + 4 * q) 3 = ((n : Nat) : Int) := by rw [eM_1, q_fg_ne (by omega) (by omega) (by omega)]; exact hst
          refine rw_Vi (As := [.int (iI (at_)), .int (iI (k))]) (rest := []) (w' := (pg_w ad cs rp (q_stp M_1 q n at_ k))) (z := ((n : Nat) : Int) + 1) ⟨hx, hb, hml, hown, hg⟩ (c_addStop l _ q n at_ k hq3 h2 hst1) (cwV 2 hg (gt_V (List.mem_append_right _ (List.mem_append_right _ (List.mem_append_right _ (List.mem_append_right _ (List.mem_append_right _ (List.mem_append_right _ (List.mem_append_right _ (List.mem_append_right _ (List.mem_append_right _ (List.mem_append_right _ (List.mem_append_right _ (List.mem_append_left _ (List.mem_of_getElem? (i := 35) rfl))))))))))))) (List.mem_append_right _ (List.mem_append_right _ (List.mem_append_right _ (List.mem_append_right _ (List.mem_append_right _ (List.mem_append_right _ (List.mem_append_right _ (List.mem_append_right _ (List.mem_append_right _ (List.mem_append_right _ (List.mem_append_right _ (List.mem_append_left _ (List.mem_of_getElem? (i := 36) rfl))))))))))))) (List.mem_append_right _ (List.mem_append_right _ (List.mem_append_right _ (List.mem_append_right _ (List.mem_append_right _ (List.mem_append_right _ (List.mem_append_right _ (List.mem_append_right _ (List.mem_append_right _ (List.mem_append_right _ (List.mem_append_right _ (List.mem_append_left _ (List.mem_of_getElem? (i := 37) rfl))))))))))))) (List.mem_append_right _ (List.mem_append_left _ (List.mem_of_getElem? (i := 4) rfl))) (List.mem_append_right _ (List.mem_append_right _ (List.mem_append_right _ (List.mem_append_right _ (List.mem_append_right _ (List.mem_append_right _ (List.mem_append_right _ (List.mem_append_right _ (List.mem_append_right _ (List.mem_append_right _ (List.mem_append_right _ (List.mem_append_left _ (List.mem_of_getElem? (i := 38) rfl)))))))))))))) rfl rfl rfl (by decide +kernel) ⟨Nat.le_of_ble_eq_true rfl, Nat.le_of_ble_eq_true rfl⟩) hK hP hD hS hA (va_recv hK hP (ci := 6) (q0 := 29 + 4 * q) rfl (wl_atE (by omega) (pg_par _ _ _ _ _))) rfl hl.1 rfl (Nat.le_of_ble_eq_true rfl) d_PL_stop_102 ⟨Nat.zero_le _, Nat.zero_le _⟩ (fun H locs hP hD hS => ?_)
          obtain ⟨M_2, eM_2⟩ : ∃ q_, q_ = q_stp M_1 q n at_ k := ⟨_, rfl⟩
          have hP : va_P D vwCl (pg_w ad cs rp M_2) H := by rw [eM_2]; exact hP
          have hD : va_D (va_A (pg_w ad cs rp M) s.heap.size) (pg_w ad cs rp M_2) := by rw [eM_2]; exact hD
          have hM : M_2 = q_stp (q_fg M) q n at_ k := by rw [eM_2, eM_1]
          have eW : pg_w ad cs rp (M_2) = pg_w ad cs rp (q_stp (q_fg M) q n at_ k) := by rw [hM]
          have hP := Eq.mp (congrArg (fun q => va_P D vwCl q _) eW) hP
          have hD := Eq.mp (congrArg (va_D _) eW) hD
          exact W.iret (v := iI (((n : Nat) : Int) + 1)) hx hb hr (fun t ht hW => ⟨⟨_, (), rfl, rfl, by rw [ht]; exact hP, va_K.moved hW.alike hK, hD⟩, hS.F ht⟩) hS.2.2 d_PL_stop_105
        · exfalso; omega
      · exfalso; omega
  · exfalso; omega
set_option maxHeartbeats 4000000 in
set_option maxRecDepth 100000 in
/-- sheet -/
theorem c_sheet (l : Launch) {D : va_G} {ad : Nat → Nat} {cs : pg_C} {rp : Option Nat} {M : Nat → Nat → Int} (sz : Nat) (wd h sp : Int) (hx0 : zb wd) (hw : zb h) (hv : zb sp) (h1 : inn wd 1 30000 ∧ inn h 1 30000 ∧ inn sp 1 30000) : Met l y_PL_sheet ws_PL_sheet ({ frames := 1, cells := 0, slots := 0, locals := 22 } : Room) (va_Pc [.ref (ad (0)), .int (iI (wd)), .int (iI (h)), .int (iI (sp))] (rw_B D vwCl (pg_tys cs) (pg_w ad cs rp M) sz)) (va_Qv (fun _ : Unit => True) (rw_E D vwCl (pg_tys cs) (pg_w ad cs rp M) (pg_w ad cs rp (mset (mset (mset (q_fg M) 2 0 wd) 2 1 h) 2 2 sp)) sz) (va_A (pg_w ad cs rp M) sz)) 0 0 (va_A (pg_w ad cs rp M) sz) := by
  refine Met.ofW (cc := b_PL_sheet) (maxL := 4) (ret := none) (by decide) rfl ?_
  intro p e s m args below meth c s₁ B hml hv
  obtain ⟨rfl, hsz, hP, hK, hD0⟩ := hv
  have hx := B.exec
  have hb := B.bytes
  have hr := B.returns
  have hts := atoms_spec (ws := ws_PL_sheet) B.pre
  have hg : ∀ w ∈ gt, w.before _ s = true := fun w h => hts w (List.mem_cons_of_mem _ h)
  have hown : s.vm.findClass R_PL = some m.cls := findClass_of_methodNamed B.named
  have hlocks := B.notSynchronized
  subst hsz
  have hD := hD0.self (sz := s.heap.size)
  have hA : ∀ q : Nat, s.heap.size ≤ q → va_A (pg_w ad cs rp M) s.heap.size q := fun q h => Or.inr h
  have hS : va_S (va_A (pg_w ad cs rp M) s.heap.size) s.heap s.heap [] := va_S.rf
  have hl := lv_entry ([.ref (ad (0)), .int (iI (wd)), .int (iI (h)), .int (iI (sp))]) (n := 4) (Nat.le_of_ble_eq_true rfl)
  rw [lg_entry_eq]
  generalize (lg_sl ([.ref (ad (0)), .int (iI (wd)), .int (iI (h)), .int (iI (sp))]) ++ List.replicate (4 - (lg_sl ([.ref (ad (0)), .int (iI (wd)), .int (iI (h)), .int (iI (sp))])).length) Slot.unset).toArray = ls at hl ⊢
  have hl : lv_has ls 4 [(0, .ref (ad (0))), (1, .int (iI (wd))), (2, .int (iI (h))), (3, .int (iI (sp)))] := hl
  obtain ⟨hx1, hx2⟩ := hx0
  obtain ⟨hw1, hw2⟩ := hw
  obtain ⟨hv1, hv2⟩ := hv
  unfold inn at h1
  refine lv_iload_n hx hb d_PL_sheet_0 rfl (lv_at hl 1 rfl) ?_
  refine z_iconst hx hb (z := 1) d_PL_sheet_1 ?_
  refine z_sipush hx hb (z := 30000) d_PL_sheet_2 (by decide) ?_
  refine ro_S (As := [.int (iI (wd)), .int (iI (1)), .int (iI (30000))]) (rest := []) (z := bz (wd < 1 ∨ 30000 < wd) inferInstance) ⟨hx, hb, hml, hown, hg⟩ (c_isOutside l (wd) (1) (30000) ⟨by omega, by omega⟩ ⟨by decide, by decide⟩ ⟨by decide, by decide⟩) (cwS 3 hg (gt_S (List.mem_append_right _ (List.mem_append_right _ (List.mem_append_right _ (List.mem_append_right _ (List.mem_append_right _ (List.mem_append_right _ (List.mem_append_right _ (List.mem_append_right _ (List.mem_append_right _ (List.mem_append_right _ (List.mem_append_right _ (List.mem_append_left _ (List.mem_of_getElem? (i := 0) rfl))))))))))))) (List.mem_append_right _ (List.mem_append_right _ (List.mem_append_right _ (List.mem_append_right _ (List.mem_append_right _ (List.mem_append_right _ (List.mem_append_right _ (List.mem_append_right _ (List.mem_append_right _ (List.mem_append_right _ (List.mem_append_right _ (List.mem_append_left _ (List.mem_of_getElem? (i := 1) rfl))))))))))))) (List.mem_append_right _ (List.mem_append_left _ (List.mem_of_getElem? (i := 2) rfl))) (List.mem_append_right _ (List.mem_append_right _ (List.mem_append_right _ (List.mem_append_right _ (List.mem_append_right _ (List.mem_append_right _ (List.mem_append_right _ (List.mem_append_right _ (List.mem_append_right _ (List.mem_append_right _ (List.mem_append_right _ (List.mem_append_left _ (List.mem_of_getElem? (i := 2) rfl)))))))))))))) rfl rfl rfl (by decide +kernel) ⟨Nat.le_of_ble_eq_true rfl, Nat.le_of_ble_eq_true rfl⟩) hK hP rfl hl.1 rfl (Nat.le_of_ble_eq_true rfl) d_PL_sheet_5 ⟨Nat.zero_le _, Nat.zero_le _⟩ ?_
  refine z_ifb_ne hx hb (tgt := 33) d_PL_sheet_8 (by decide) (fun c_8 => ?_) (fun c_8 => ?_)
  · exfalso; omega
  · refine lv_iload_n hx hb d_PL_sheet_11 rfl (lv_at hl 2 rfl) ?_
    refine z_iconst hx hb (z := 1) d_PL_sheet_12 ?_
    refine z_sipush hx hb (z := 30000) d_PL_sheet_13 (by decide) ?_
    refine ro_S (As := [.int (iI (h)), .int (iI (1)), .int (iI (30000))]) (rest := []) (z := bz (h < 1 ∨ 30000 < h) inferInstance) ⟨hx, hb, hml, hown, hg⟩ (c_isOutside l (h) (1) (30000) ⟨by omega, by omega⟩ ⟨by decide, by decide⟩ ⟨by decide, by decide⟩) (cwS 3 hg (gt_S (List.mem_append_right _ (List.mem_append_right _ (List.mem_append_right _ (List.mem_append_right _ (List.mem_append_right _ (List.mem_append_right _ (List.mem_append_right _ (List.mem_append_right _ (List.mem_append_right _ (List.mem_append_right _ (List.mem_append_right _ (List.mem_append_left _ (List.mem_of_getElem? (i := 0) rfl))))))))))))) (List.mem_append_right _ (List.mem_append_right _ (List.mem_append_right _ (List.mem_append_right _ (List.mem_append_right _ (List.mem_append_right _ (List.mem_append_right _ (List.mem_append_right _ (List.mem_append_right _ (List.mem_append_right _ (List.mem_append_right _ (List.mem_append_left _ (List.mem_of_getElem? (i := 1) rfl))))))))))))) (List.mem_append_right _ (List.mem_append_left _ (List.mem_of_getElem? (i := 2) rfl))) (List.mem_append_right _ (List.mem_append_right _ (List.mem_append_right _ (List.mem_append_right _ (List.mem_append_right _ (List.mem_append_right _ (List.mem_append_right _ (List.mem_append_right _ (List.mem_append_right _ (List.mem_append_right _ (List.mem_append_right _ (List.mem_append_left _ (List.mem_of_getElem? (i := 2) rfl)))))))))))))) rfl rfl rfl (by decide +kernel) ⟨Nat.le_of_ble_eq_true rfl, Nat.le_of_ble_eq_true rfl⟩) hK hP rfl hl.1 rfl (Nat.le_of_ble_eq_true rfl) d_PL_sheet_16 ⟨Nat.zero_le _, Nat.zero_le _⟩ ?_
    refine z_ifb_ne hx hb (tgt := 33) d_PL_sheet_19 (by decide) (fun c_19 => ?_) (fun c_19 => ?_)
    · exfalso; omega
    · refine lv_iload_n hx hb d_PL_sheet_22 rfl (lv_at hl 3 rfl) ?_
      refine z_iconst hx hb (z := 1) d_PL_sheet_23 ?_
      refine z_sipush hx hb (z := 30000) d_PL_sheet_24 (by decide) ?_
      refine ro_S (As := [.int (iI (sp)), .int (iI (1)), .int (iI (30000))]) (rest := []) (z := bz (sp < 1 ∨ 30000 < sp) inferInstance) ⟨hx, hb, hml, hown, hg⟩ (c_isOutside l (sp) (1) (30000) ⟨by omega, by omega⟩ ⟨by decide, by decide⟩ ⟨by decide, by decide⟩) (cwS 3 hg (gt_S (List.mem_append_right _ (List.mem_append_right _ (List.mem_append_right _ (List.mem_append_right _ (List.mem_append_right _ (List.mem_append_right _ (List.mem_append_right _ (List.mem_append_right _ (List.mem_append_right _ (List.mem_append_right _ (List.mem_append_right _ (List.mem_append_left _ (List.mem_of_getElem? (i := 0) rfl))))))))))))) (List.mem_append_right _ (List.mem_append_right _ (List.mem_append_right _ (List.mem_append_right _ (List.mem_append_right _ (List.mem_append_right _ (List.mem_append_right _ (List.mem_append_right _ (List.mem_append_right _ (List.mem_append_right _ (List.mem_append_right _ (List.mem_append_left _ (List.mem_of_getElem? (i := 1) rfl))))))))))))) (List.mem_append_right _ (List.mem_append_left _ (List.mem_of_getElem? (i := 2) rfl))) (List.mem_append_right _ (List.mem_append_right _ (List.mem_append_right _ (List.mem_append_right _ (List.mem_append_right _ (List.mem_append_right _ (List.mem_append_right _ (List.mem_append_right _ (List.mem_append_right _ (List.mem_append_right _ (List.mem_append_right _ (List.mem_append_left _ (List.mem_of_getElem? (i := 2) rfl)))))))))))))) rfl rfl rfl (by decide +kernel) ⟨Nat.le_of_ble_eq_true rfl, Nat.le_of_ble_eq_true rfl⟩) hK hP rfl hl.1 rfl (Nat.le_of_ble_eq_true rfl) d_PL_sheet_27 ⟨Nat.zero_le _, Nat.zero_le _⟩ ?_
      refine z_ifb_eq hx hb (tgt := 43) d_PL_sheet_30 (by decide) (fun c_30 => ?_) (fun c_30 => ?_)
      · refine lv_aload_n hx hb d_PL_sheet_43 rfl (lv_at hl 0 rfl) ?_
        refine rw_Vv (As := []) (rest := []) (w' := (pg_w ad cs rp (q_fg M))) ⟨hx, hb, hml, hown, hg⟩ (c_forgetLayout l _) (cwV 0 hg (gt_V (List.mem_append_right _ (List.mem_append_right _ (List.mem_append_right _ (List.mem_append_right _ (List.mem_append_right _ (List.mem_append_left _ (List.mem_of_getElem? (i := 13) rfl))))))) (List.mem_append_right _ (List.mem_append_right _ (List.mem_append_right _ (List.mem_append_right _ (List.mem_append_right _ (List.mem_append_left _ (List.mem_of_getElem? (i := 14) rfl))))))) (List.mem_append_left _ (List.mem_of_getElem? (i := 0) rfl)) (List.mem_append_right _ (List.mem_append_left _ (List.mem_of_getElem? (i := 2) rfl))) (List.mem_append_right _ (List.mem_append_right _ (List.mem_append_right _ (List.mem_append_right _ (List.mem_append_right _ (List.mem_append_left _ (List.mem_of_getElem? (i := 15) rfl)))))))) rfl rfl rfl (by decide +kernel) ⟨Nat.le_of_ble_eq_true rfl, Nat.le_of_ble_eq_true rfl⟩) hK hP hD hS hA (va_recv hK hP (ci := 0) (q0 := 0) rfl (wl_atE (by decide) rfl)) rfl hl.1 rfl (Nat.le_of_ble_eq_true rfl) d_PL_sheet_44 ⟨Nat.zero_le _, Nat.zero_le _⟩ (fun H locs hP hD hS => ?_)
        obtain ⟨M_1, eM_1⟩ : ∃ q_, q_ = q_fg M := ⟨_, rfl⟩
        have hP : va_P D vwCl (pg_w ad cs rp M_1) H := by rw [eM_1]; exact hP
        have hD : va_D (va_A (pg_w ad cs rp M) s.heap.size) (pg_w ad cs rp M_1) := by rw [eM_1]; exact hD
        refine lv_aload_n hx hb d_PL_sheet_47 rfl (lv_at hl 0 rfl) ?_
        refine z_get (ci := 0) (C := R_PL) (T := T_PL) (N := 5) (v := .ref (ad (2))) hx hb hg in_PL hown hK hP (0) (by decide) rfl rfl 1 (by decide) (hg _ (List.mem_append_right _ (List.mem_append_right _ (List.mem_append_right _ (List.mem_append_right _ (List.mem_append_right _ (List.mem_append_left _ (List.mem_of_getElem? (i := 0) rfl)))))))) (fun _ h9 => h9) rfl d_PL_sheet_48 ?_
        refine lv_iload_n hx hb d_PL_sheet_51 rfl (lv_at hl 1 rfl) ?_
        refine z_put (ci := 2) (C := R_SH) (T := T_SH) (N := 3) (v := .int (iI (wd))) (ty := .int) (ce' := (pg_ce ad cs rp)) (r := va_up (M_1 (2)) 0 (wd)) hx hb hg in_SH ty_SH tk_SH nm_SH hown hK hP hD hS (2) (by decide) rfl rfl 0 (by decide) (hg _ (List.mem_append_right _ (List.mem_append_right _ (List.mem_append_right _ (List.mem_append_left _ (List.mem_of_getElem? (i := 5) rfl)))))) (fun _ h9 => h9) rfl (by decide +kernel) rfl rfl (Nat.le_of_ble_eq_true rfl) (fun _ _ => rfl) rfl d_PL_sheet_52 (fun H locs hP hD hS => ?_)
        obtain ⟨M_2, eM_2⟩ : ∃ q_, q_ = mset M_1 (2) (0) (wd) := ⟨_, rfl⟩
        have hP : va_P D vwCl (pg_w ad cs rp M_2) H := by rw [eM_2]; exact hP
        have hD : va_D (va_A (pg_w ad cs rp M) s.heap.size) (pg_w ad cs rp M_2) := by rw [eM_2]; exact hD
        refine lv_aload_n hx hb d_PL_sheet_55 rfl (lv_at hl 0 rfl) ?_
        refine z_get (ci := 0) (C := R_PL) (T := T_PL) (N := 5) (v := .ref (ad (2))) hx hb hg in_PL hown hK hP (0) (by decide) rfl rfl 1 (by decide) (hg _ (List.mem_append_right _ (List.mem_append_right _ (List.mem_append_right _ (List.mem_append_right _ (List.mem_append_right _ (List.mem_append_left _ (List.mem_of_getElem? (i := 0) rfl)))))))) (fun _ h9 => h9) rfl d_PL_sheet_56 ?_
        refine lv_iload_n hx hb d_PL_sheet_59 rfl (lv_at hl 2 rfl) ?_
        refine z_put (ci := 2) (C := R_SH) (T := T_SH) (N := 3) (v := .int (iI (h))) (ty := .int) (ce' := (pg_ce ad cs rp)) (r := va_up (M_2 (2)) 1 (h)) hx hb hg in_SH ty_SH tk_SH nm_SH hown hK hP hD hS (2) (by decide) rfl rfl 1 (by decide) (hg _ (List.mem_append_right _ (List.mem_append_right _ (List.mem_append_right _ (List.mem_append_left _ (List.mem_of_getElem? (i := 8) rfl)))))) (fun _ h9 => h9) rfl (by decide +kernel) rfl rfl (Nat.le_of_ble_eq_true rfl) (fun _ _ => rfl) rfl d_PL_sheet_60 (fun H locs hP hD hS => ?_)
        obtain ⟨M_3, eM_3⟩ : ∃ q_, q_ = mset M_2 (2) (1) (h) := ⟨_, rfl⟩
        have hP : va_P D vwCl (pg_w ad cs rp M_3) H := by rw [eM_3]; exact hP
        have hD : va_D (va_A (pg_w ad cs rp M) s.heap.size) (pg_w ad cs rp M_3) := by rw [eM_3]; exact hD
        refine lv_aload_n hx hb d_PL_sheet_63 rfl (lv_at hl 0 rfl) ?_
        refine z_get (ci := 0) (C := R_PL) (T := T_PL) (N := 5) (v := .ref (ad (2))) hx hb hg in_PL hown hK hP (0) (by decide) rfl rfl 1 (by decide) (hg _ (List.mem_append_right _ (List.mem_append_right _ (List.mem_append_right _ (List.mem_append_right _ (List.mem_append_right _ (List.mem_append_left _ (List.mem_of_getElem? (i := 0) rfl)))))))) (fun _ h9 => h9) rfl d_PL_sheet_64 ?_
        refine lv_iload_n hx hb d_PL_sheet_67 rfl (lv_at hl 3 rfl) ?_
        refine z_put (ci := 2) (C := R_SH) (T := T_SH) (N := 3) (v := .int (iI (sp))) (ty := .int) (ce' := (pg_ce ad cs rp)) (r := va_up (M_3 (2)) 2 (sp)) hx hb hg in_SH ty_SH tk_SH nm_SH hown hK hP hD hS (2) (by decide) rfl rfl 2 (by decide) (hg _ (List.mem_append_right _ (List.mem_append_right _ (List.mem_append_right _ (List.mem_append_left _ (List.mem_of_getElem? (i := 12) rfl)))))) (fun _ h9 => h9) rfl (by decide +kernel) rfl rfl (Nat.le_of_ble_eq_true rfl) (fun _ _ => rfl) rfl d_PL_sheet_68 (fun H locs hP hD hS => ?_)
        obtain ⟨M_4, eM_4⟩ : ∃ q_, q_ = mset M_3 (2) (2) (sp) := ⟨_, rfl⟩
        have hP : va_P D vwCl (pg_w ad cs rp M_4) H := by rw [eM_4]; exact hP
        have hD : va_D (va_A (pg_w ad cs rp M) s.heap.size) (pg_w ad cs rp M_4) := by rw [eM_4]; exact hD
        have hM : M_4 = mset (mset (mset (q_fg M) 2 0 wd) 2 1 h) 2 2 sp := by rw [eM_4, eM_3, eM_2, eM_1]
        have eW : pg_w ad cs rp (M_4) = pg_w ad cs rp (mset (mset (mset (q_fg M) 2 0 wd) 2 1 h) 2 2 sp) := by rw [hM]
        have hP := Eq.mp (congrArg (fun q => va_P D vwCl q _) eW) hP
        have hD := Eq.mp (congrArg (va_D _) eW) hD
        exact W.vret hx hb hr (fun t ht hW => ⟨⟨(), rfl, trivial, by rw [ht]; exact hP, va_K.moved hW.alike hK, hD⟩, hS.F ht⟩) hS.2.2 d_PL_sheet_71
      · exfalso; omega
set_option maxHeartbeats 4000000 in
set_option maxRecDepth 100000 in
/-- shape -/
theorem c_shape (l : Launch) {D : va_G} {ad : Nat → Nat} {cs : pg_C} {rp : Option Nat} {M : Nat → Nat → Int} (sz : Nat) (np : Nat) (x wh v : Int) (hx0 : zb x) (hw : zb wh) (hv : zb v) (hnp : M 1 4 = ((np : Nat) : Int)) (hn : np ≤ 30) (h0 : inn x 0 (((np : Nat) : Int) - 1)) (h1 : inn wh 0 10 ∧ inn v (r_least wh) (r_most wh)) : Met l y_PL_shape ws_PL_shape ({ frames := 1, cells := 0, slots := 0, locals := 22 } : Room) (va_Pc [.ref (ad (0)), .int (iI (x)), .int (iI (wh)), .int (iI (v))] (rz_B D vwCl (pg_tys cs) (pg_w ad cs rp M) sz)) (va_Qv (fun _ : Unit => True) (rw_E D vwCl (pg_tys cs) (pg_w ad cs rp M) (pg_w ad cs rp (mset (q_fg M) (30 + 4 * x.toNat) wh.toNat v)) sz) (va_A (pg_w ad cs rp M) sz)) 0 0 (va_A (pg_w ad cs rp M) sz) := by
  refine Met.ofW (cc := b_PL_shape) (maxL := 4) (ret := none) (by decide) rfl ?_
  intro p e s m args below meth c s₁ B hml hv
  obtain ⟨rfl, ⟨hsz, hP, hK, hD0⟩, hT⟩ := hv
  have hx := B.exec
  have hb := B.bytes
  have hr := B.returns
  have hts := atoms_spec (ws := ws_PL_shape) B.pre
  have hg : ∀ w ∈ gt, w.before _ s = true := fun w h => hts w (List.mem_cons_of_mem _ h)
  have hown : s.vm.findClass R_PL = some m.cls := findClass_of_methodNamed B.named
  have hlocks := B.notSynchronized
  subst hsz
  have hD := hD0.self (sz := s.heap.size)
  have hA : ∀ q : Nat, s.heap.size ≤ q → va_A (pg_w ad cs rp M) s.heap.size q := fun q h => Or.inr h
  have hS : va_S (va_A (pg_w ad cs rp M) s.heap.size) s.heap s.heap [] := va_S.rf
  have hl := lv_entry ([.ref (ad (0)), .int (iI (x)), .int (iI (wh)), .int (iI (v))]) (n := 4) (Nat.le_of_ble_eq_true rfl)
  rw [lg_entry_eq]
  generalize (lg_sl ([.ref (ad (0)), .int (iI (x)), .int (iI (wh)), .int (iI (v))]) ++ List.replicate (4 - (lg_sl ([.ref (ad (0)), .int (iI (x)), .int (iI (wh)), .int (iI (v))])).length) Slot.unset).toArray = ls at hl ⊢
  have hl : lv_has ls 4 [(0, .ref (ad (0))), (1, .int (iI (x))), (2, .int (iI (wh))), (3, .int (iI (v)))] := hl
  obtain ⟨hx1, hx2⟩ := hx0
  obtain ⟨hw1, hw2⟩ := hw
  obtain ⟨hv1, hv2⟩ := hv
  unfold inn at h0 h1
  obtain ⟨tf, tt, f1, f2, f3, f4⟩ := hT.2.2.2
  have hxq : x = ((x.toNat : Nat) : Int) := by omega
  have hq3 : x.toNat < 30 := by omega
  refine lv_iload_n hx hb d_PL_shape_0 rfl (lv_at hl 1 rfl) ?_
  refine z_iconst hx hb (z := 0) d_PL_shape_1 ?_
  refine lv_aload_n hx hb d_PL_shape_2 rfl (lv_at hl 0 rfl) ?_
  refine z_get (ci := 0) (C := R_PL) (T := T_PL) (N := 5) (v := .ref (ad (1))) hx hb hg in_PL hown hK hP (0) (by decide) rfl rfl 0 (by decide) (hg _ (List.mem_append_right _ (List.mem_append_right _ (List.mem_append_right _ (List.mem_append_right _ (List.mem_append_left _ (List.mem_of_getElem? (i := 39) rfl))))))) (fun _ h9 => h9) rfl d_PL_shape_3 ?_
  refine z_get (ci := 1) (C := R_TX) (T := T_TX) (N := 6) (v := .int (iI (M (1) 4))) hx hb hg in_TX hown hK hP (1) (by decide) rfl rfl 4 (by decide) (hg _ (List.mem_append_right _ (List.mem_append_right _ (List.mem_append_left _ (List.mem_of_getElem? (i := 27) rfl))))) (fun _ h9 => h9) rfl d_PL_shape_6 ?_
  refine z_iconst hx hb (z := 1) d_PL_shape_9 ?_
  refine z_isub hx hb d_PL_shape_10 (v := (M (1) 4 - 1)) rfl ?_
  refine ro_S (As := [.int (iI (x)), .int (iI (0)), .int (iI ((M (1) 4 - 1)))]) (rest := []) (z := bz (x < 0 ∨ (M (1) 4 - 1) < x) inferInstance) ⟨hx, hb, hml, hown, hg⟩ (c_isOutside l (x) (0) ((M (1) 4 - 1)) ⟨by omega, by omega⟩ ⟨by decide, by decide⟩ ⟨by omega, by omega⟩) (cwS 3 hg (gt_S (List.mem_append_right _ (List.mem_append_right _ (List.mem_append_right _ (List.mem_append_right _ (List.mem_append_right _ (List.mem_append_right _ (List.mem_append_right _ (List.mem_append_right _ (List.mem_append_right _ (List.mem_append_right _ (List.mem_append_right _ (List.mem_append_left _ (List.mem_of_getElem? (i := 0) rfl))))))))))))) (List.mem_append_right _ (List.mem_append_right _ (List.mem_append_right _ (List.mem_append_right _ (List.mem_append_right _ (List.mem_append_right _ (List.mem_append_right _ (List.mem_append_right _ (List.mem_append_right _ (List.mem_append_right _ (List.mem_append_right _ (List.mem_append_left _ (List.mem_of_getElem? (i := 1) rfl))))))))))))) (List.mem_append_right _ (List.mem_append_left _ (List.mem_of_getElem? (i := 2) rfl))) (List.mem_append_right _ (List.mem_append_right _ (List.mem_append_right _ (List.mem_append_right _ (List.mem_append_right _ (List.mem_append_right _ (List.mem_append_right _ (List.mem_append_right _ (List.mem_append_right _ (List.mem_append_right _ (List.mem_append_right _ (List.mem_append_left _ (List.mem_of_getElem? (i := 2) rfl)))))))))))))) rfl rfl rfl (by decide +kernel) ⟨Nat.le_of_ble_eq_true rfl, Nat.le_of_ble_eq_true rfl⟩) hK hP rfl hl.1 rfl (Nat.le_of_ble_eq_true rfl) d_PL_shape_11 ⟨Nat.zero_le _, Nat.zero_le _⟩ ?_
  refine z_ifb_eq hx hb (tgt := 27) d_PL_shape_14 (by decide) (fun c_14 => ?_) (fun c_14 => ?_)
  · refine lv_iload_n hx hb d_PL_shape_27 rfl (lv_at hl 2 rfl) ?_
    refine z_iconst hx hb (z := 0) d_PL_shape_28 ?_
    refine z_bipush hx hb (z := 10) d_PL_shape_29 (by decide) ?_
    refine ro_S (As := [.int (iI (wh)), .int (iI (0)), .int (iI (10))]) (rest := []) (z := bz (wh < 0 ∨ 10 < wh) inferInstance) ⟨hx, hb, hml, hown, hg⟩ (c_isOutside l (wh) (0) (10) ⟨by omega, by omega⟩ ⟨by decide, by decide⟩ ⟨by decide, by decide⟩) (cwS 3 hg (gt_S (List.mem_append_right _ (List.mem_append_right _ (List.mem_append_right _ (List.mem_append_right _ (List.mem_append_right _ (List.mem_append_right _ (List.mem_append_right _ (List.mem_append_right _ (List.mem_append_right _ (List.mem_append_right _ (List.mem_append_right _ (List.mem_append_left _ (List.mem_of_getElem? (i := 0) rfl))))))))))))) (List.mem_append_right _ (List.mem_append_right _ (List.mem_append_right _ (List.mem_append_right _ (List.mem_append_right _ (List.mem_append_right _ (List.mem_append_right _ (List.mem_append_right _ (List.mem_append_right _ (List.mem_append_right _ (List.mem_append_right _ (List.mem_append_left _ (List.mem_of_getElem? (i := 1) rfl))))))))))))) (List.mem_append_right _ (List.mem_append_left _ (List.mem_of_getElem? (i := 2) rfl))) (List.mem_append_right _ (List.mem_append_right _ (List.mem_append_right _ (List.mem_append_right _ (List.mem_append_right _ (List.mem_append_right _ (List.mem_append_right _ (List.mem_append_right _ (List.mem_append_right _ (List.mem_append_right _ (List.mem_append_right _ (List.mem_append_left _ (List.mem_of_getElem? (i := 2) rfl)))))))))))))) rfl rfl rfl (by decide +kernel) ⟨Nat.le_of_ble_eq_true rfl, Nat.le_of_ble_eq_true rfl⟩) hK hP rfl hl.1 rfl (Nat.le_of_ble_eq_true rfl) d_PL_shape_31 ⟨Nat.zero_le _, Nat.zero_le _⟩ ?_
    refine z_ifb_ne hx hb (tgt := 54) d_PL_shape_34 (by decide) (fun c_34 => ?_) (fun c_34 => ?_)
    · exfalso; omega
    · refine lv_iload_n hx hb d_PL_shape_37 rfl (lv_at hl 3 rfl) ?_
      refine va_gets hx hb f1 (va_S.rf (A := fun _ => False)) hown (hg _ (List.mem_append_right _ (List.mem_append_right _ (List.mem_append_right _ (List.mem_append_right _ (List.mem_append_right _ (List.mem_append_right _ (List.mem_append_right _ (List.mem_append_right _ (List.mem_append_right _ (List.mem_append_right _ (List.mem_append_right _ (List.mem_append_left _ (List.mem_of_getElem? (i := 26) rfl)))))))))))))) (fun _ h9 => h9) d_PL_shape_38 ?_
      refine lv_iload_n hx hb d_PL_shape_41 rfl (lv_at hl 2 rfl) ?_
      have hwi : wh = ((wh.toNat : Nat) : Int) := by omega
      have hin : vp_in (iI wh) 11 := by rw [hwi]; exact iI_in (by omega) (by decide)
      have hcl : (iI wh).toNatClampNeg = wh.toNat := iI_N ⟨hw1, hw2⟩
      refine va_ti (v := .int (iI (r_least wh))) hx hb f2 (va_S.rf (A := fun _ => False)) hin (show Value.int (iI (z_sf (iI wh).toNatClampNeg)) = .int (iI (r_least wh)) by rw [hcl]; exact congrArg (fun z => Value.int (iI z)) (by unfold z_sf r_least; repeat' (first | (exfalso; omega) | omega | split))) d_PL_shape_42 ?_
      refine va_gets hx hb f3 (va_S.rf (A := fun _ => False)) hown (hg _ (List.mem_append_right _ (List.mem_append_right _ (List.mem_append_right _ (List.mem_append_right _ (List.mem_append_right _ (List.mem_append_right _ (List.mem_append_right _ (List.mem_append_right _ (List.mem_append_right _ (List.mem_append_right _ (List.mem_append_right _ (List.mem_append_left _ (List.mem_of_getElem? (i := 27) rfl)))))))))))))) (fun _ h9 => h9) d_PL_shape_43 ?_
      refine lv_iload_n hx hb d_PL_shape_46 rfl (lv_at hl 2 rfl) ?_
      refine va_ti (v := .int (iI (r_most wh))) hx hb f4 (va_S.rf (A := fun _ => False)) hin (show Value.int (iI (z_st (iI wh).toNatClampNeg)) = .int (iI (r_most wh)) by rw [hcl]; exact congrArg (fun z => Value.int (iI z)) (by unfold z_st r_most; repeat' (first | (exfalso; omega) | omega | split))) d_PL_shape_47 ?_
      have hlb := r_leastb wh
      have hmb := r_mostb wh
      refine ro_S (As := [.int (iI (v)), .int (iI (r_least wh)), .int (iI (r_most wh))]) (rest := []) (z := bz (v < r_least wh ∨ r_most wh < v) inferInstance) ⟨hx, hb, hml, hown, hg⟩ (c_isOutside l (v) (r_least wh) (r_most wh) ⟨by omega, by omega⟩ ⟨by omega, by omega⟩ ⟨by omega, by omega⟩) (cwS 3 hg (gt_S (List.mem_append_right _ (List.mem_append_right _ (List.mem_append_right _ (List.mem_append_right _ (List.mem_append_right _ (List.mem_append_right _ (List.mem_append_right _ (List.mem_append_right _ (List.mem_append_right _ (List.mem_append_right _ (List.mem_append_right _ (List.mem_append_left _ (List.mem_of_getElem? (i := 0) rfl))))))))))))) (List.mem_append_right _ (List.mem_append_right _ (List.mem_append_right _ (List.mem_append_right _ (List.mem_append_right _ (List.mem_append_right _ (List.mem_append_right _ (List.mem_append_right _ (List.mem_append_right _ (List.mem_append_right _ (List.mem_append_right _ (List.mem_append_left _ (List.mem_of_getElem? (i := 1) rfl))))))))))))) (List.mem_append_right _ (List.mem_append_left _ (List.mem_of_getElem? (i := 2) rfl))) (List.mem_append_right _ (List.mem_append_right _ (List.mem_append_right _ (List.mem_append_right _ (List.mem_append_right _ (List.mem_append_right _ (List.mem_append_right _ (List.mem_append_right _ (List.mem_append_right _ (List.mem_append_right _ (List.mem_append_right _ (List.mem_append_left _ (List.mem_of_getElem? (i := 2) rfl)))))))))))))) rfl rfl rfl (by decide +kernel) ⟨Nat.le_of_ble_eq_true rfl, Nat.le_of_ble_eq_true rfl⟩) hK hP rfl hl.1 rfl (Nat.le_of_ble_eq_true rfl) d_PL_shape_48 ⟨Nat.zero_le _, Nat.zero_le _⟩ ?_
      refine z_ifb_eq hx hb (tgt := 64) d_PL_shape_51 (by decide) (fun c_51 => ?_) (fun c_51 => ?_)
      · refine lv_aload_n hx hb d_PL_shape_64 rfl (lv_at hl 0 rfl) ?_
        refine rw_Vv (As := []) (rest := []) (w' := (pg_w ad cs rp (q_fg M))) ⟨hx, hb, hml, hown, hg⟩ (c_forgetLayout l _) (cwV 0 hg (gt_V (List.mem_append_right _ (List.mem_append_right _ (List.mem_append_right _ (List.mem_append_right _ (List.mem_append_right _ (List.mem_append_left _ (List.mem_of_getElem? (i := 13) rfl))))))) (List.mem_append_right _ (List.mem_append_right _ (List.mem_append_right _ (List.mem_append_right _ (List.mem_append_right _ (List.mem_append_left _ (List.mem_of_getElem? (i := 14) rfl))))))) (List.mem_append_left _ (List.mem_of_getElem? (i := 0) rfl)) (List.mem_append_right _ (List.mem_append_left _ (List.mem_of_getElem? (i := 2) rfl))) (List.mem_append_right _ (List.mem_append_right _ (List.mem_append_right _ (List.mem_append_right _ (List.mem_append_right _ (List.mem_append_left _ (List.mem_of_getElem? (i := 15) rfl)))))))) rfl rfl rfl (by decide +kernel) ⟨Nat.le_of_ble_eq_true rfl, Nat.le_of_ble_eq_true rfl⟩) hK hP hD hS hA (va_recv hK hP (ci := 0) (q0 := 0) rfl (wl_atE (by decide) rfl)) rfl hl.1 rfl (Nat.le_of_ble_eq_true rfl) d_PL_shape_65 ⟨Nat.zero_le _, Nat.zero_le _⟩ (fun H locs hP hD hS => ?_)
        obtain ⟨M_1, eM_1⟩ : ∃ q_, q_ = q_fg M := ⟨_, rfl⟩
        have hP : va_P D vwCl (pg_w ad cs rp M_1) H := by rw [eM_1]; exact hP
        have hD : va_D (va_A (pg_w ad cs rp M) s.heap.size) (pg_w ad cs rp M_1) := by rw [eM_1]; exact hD
        refine lv_aload_n hx hb d_PL_shape_68 rfl (lv_at hl 0 rfl) ?_
        refine z_get (ci := 0) (C := R_PL) (T := T_PL) (N := 5) (v := .ref (ad (1))) hx hb hg in_PL hown hK hP (0) (by decide) rfl rfl 0 (by decide) (hg _ (List.mem_append_right _ (List.mem_append_right _ (List.mem_append_right _ (List.mem_append_right _ (List.mem_append_left _ (List.mem_of_getElem? (i := 39) rfl))))))) (fun _ h9 => h9) rfl d_PL_shape_69 ?_
        refine z_get (ci := 1) (C := R_TX) (T := T_TX) (N := 6) (v := .ref (ad (6))) hx hb hg in_TX hown hK hP (1) (by decide) rfl rfl 0 (by decide) (hg _ (List.mem_append_right _ (List.mem_append_right _ (List.mem_append_left _ (List.mem_of_getElem? (i := 18) rfl))))) (fun _ h9 => h9) rfl d_PL_shape_72 ?_
        refine lv_iload_n hx hb d_PL_shape_75 rfl (lv_at hl 1 rfl) ?_
        refine z_aald hx hb hK hP (6) 2 (by decide) (fun _ => rfl) rfl rfl (x.toNat) hxq (by omega) (by decide) d_PL_shape_76 ?_
        refine z_get (ci := 6) (C := R_PA) (T := T_PA) (N := 6) (v := .ref (ad (30 + 4 * x.toNat))) hx hb hg in_PA hown hK hP (29 + 4 * x.toNat) (by omega) (pg_par _ _ _ _ _) rfl 0 (by decide) (hg _ (List.mem_append_right _ (List.mem_append_left _ (List.mem_of_getElem? (i := 39) rfl)))) (fun _ h9 => h9) rfl d_PL_shape_77 ?_
        refine lv_iload_n hx hb d_PL_shape_80 rfl (lv_at hl 2 rfl) ?_
        refine lv_iload_n hx hb d_PL_shape_81 rfl (lv_at hl 3 rfl) ?_
        refine z_iast hx hb hK hP hD hS (30 + 4 * x.toNat) 0 (by omega) (fun r => pg_shp _ _ _ _ r) rfl (v := v) (wh.toNat) (by omega) (by omega) (by decide) d_PL_shape_82 (fun H locs hP hD hS => ?_)
        obtain ⟨M_2, eM_2⟩ : ∃ q_, q_ = mset M_1 (30 + 4 * x.toNat) (wh.toNat) (v) := ⟨_, rfl⟩
        have hP : va_P D vwCl (pg_w ad cs rp M_2) H := by rw [eM_2]; exact hP
        have hD : va_D (va_A (pg_w ad cs rp M) s.heap.size) (pg_w ad cs rp M_2) := by rw [eM_2]; exact hD
        have hM : M_2 = mset (q_fg M) (30 + 4 * x.toNat) wh.toNat v := by rw [eM_2, eM_1]
        have eW : pg_w ad cs rp (M_2) = pg_w ad cs rp (mset (q_fg M) (30 + 4 * x.toNat) wh.toNat v) := by rw [hM]
        have hP := Eq.mp (congrArg (fun q => va_P D vwCl q _) eW) hP
        have hD := Eq.mp (congrArg (va_D _) eW) hD
        exact W.vret hx hb hr (fun t ht hW => ⟨⟨(), rfl, trivial, by rw [ht]; exact hP, va_K.moved hW.alike hK, hD⟩, hS.F ht⟩) hS.2.2 d_PL_shape_83
      · exfalso; omega
  · exfalso; omega
set_option maxHeartbeats 4000000 in
set_option maxRecDepth 100000 in
/-- line -/
theorem c_line (l : Launch) {D : va_G} {ad : Nat → Nat} {cs : pg_C} {rp : Option Nat} {M : Nat → Nat → Int} (x wh : Int) (hx0 : zb x) (hw : zb wh) (nl : Nat) (hn : M 3 2 = ((nl : Nat) : Int)) (hn6 : nl ≤ 630) (h0 : inn x 0 (((nl : Nat) : Int) - 1)) (h1 : inn wh 0 9) : Met l y_PL_line ws_PL_line ({ frames := 1, cells := 0, slots := 0, locals := 22 } : Room) (va_Pc [.ref (ad (0)), .int (iI (x)), .int (iI (wh))] (ro_B D vwCl (pg_tys cs) (pg_w ad cs rp M))) (vp_Si (fun r => r = iI (M (13 + wh.toNat) x.toNat))) 0 0 (fun _ => False) := by
  refine Met.ofW (cc := b_PL_line) (maxL := 3) (ret := (some .int)) (by decide) rfl ?_
  intro p e s m args below meth c s₁ B hml hv
  obtain ⟨rfl, hP, hK⟩ := hv
  have hx := B.exec
  have hb := B.bytes
  have hr := B.returns
  have hts := atoms_spec (ws := ws_PL_line) B.pre
  have hg : ∀ w ∈ gt, w.before _ s = true := fun w h => hts w (List.mem_cons_of_mem _ h)
  have hown : s.vm.findClass R_PL = some m.cls := findClass_of_methodNamed B.named
  have hlocks := B.notSynchronized
  have hl := lv_entry ([.ref (ad (0)), .int (iI (x)), .int (iI (wh))]) (n := 3) (Nat.le_of_ble_eq_true rfl)
  rw [lg_entry_eq]
  generalize (lg_sl ([.ref (ad (0)), .int (iI (x)), .int (iI (wh))]) ++ List.replicate (3 - (lg_sl ([.ref (ad (0)), .int (iI (x)), .int (iI (wh))])).length) Slot.unset).toArray = ls at hl ⊢
  have hl : lv_has ls 3 [(0, .ref (ad (0))), (1, .int (iI (x))), (2, .int (iI (wh)))] := hl
  obtain ⟨hx1, hx2⟩ := hx0
  obtain ⟨hw1, hw2⟩ := hw
  unfold inn at h0 h1
  refine lv_iload_n hx hb d_PL_line_0 rfl (lv_at hl 1 rfl) ?_
  refine z_iconst hx hb (z := 0) d_PL_line_1 ?_
  refine lv_aload_n hx hb d_PL_line_2 rfl (lv_at hl 0 rfl) ?_
  refine z_get (ci := 0) (C := R_PL) (T := T_PL) (N := 5) (v := .ref (ad (3))) hx hb hg in_PL hown hK hP (0) (by decide) rfl rfl 2 (by decide) (hg _ (List.mem_append_right _ (List.mem_append_right _ (List.mem_append_right _ (List.mem_append_right _ (List.mem_append_right _ (List.mem_append_left _ (List.mem_of_getElem? (i := 1) rfl)))))))) (fun _ h9 => h9) rfl d_PL_line_3 ?_
  refine z_get (ci := 3) (C := R_LN) (T := T_LN) (N := 6) (v := .int (iI (M (3) 2))) hx hb hg in_LN hown hK hP (3) (by decide) rfl rfl 2 (by decide) (hg _ (List.mem_append_right _ (List.mem_append_right _ (List.mem_append_right _ (List.mem_append_right _ (List.mem_append_left _ (List.mem_of_getElem? (i := 10) rfl))))))) (fun _ h9 => h9) rfl d_PL_line_6 ?_
  refine z_iconst hx hb (z := 1) d_PL_line_9 ?_
  refine z_isub hx hb d_PL_line_10 (v := (M (3) 2 - 1)) rfl ?_
  refine ro_S (As := [.int (iI (x)), .int (iI (0)), .int (iI ((M (3) 2 - 1)))]) (rest := []) (z := bz (x < 0 ∨ (M (3) 2 - 1) < x) inferInstance) ⟨hx, hb, hml, hown, hg⟩ (c_isOutside l (x) (0) ((M (3) 2 - 1)) ⟨by omega, by omega⟩ ⟨by decide, by decide⟩ ⟨by omega, by omega⟩) (cwS 3 hg (gt_S (List.mem_append_right _ (List.mem_append_right _ (List.mem_append_right _ (List.mem_append_right _ (List.mem_append_right _ (List.mem_append_right _ (List.mem_append_right _ (List.mem_append_right _ (List.mem_append_right _ (List.mem_append_right _ (List.mem_append_right _ (List.mem_append_left _ (List.mem_of_getElem? (i := 0) rfl))))))))))))) (List.mem_append_right _ (List.mem_append_right _ (List.mem_append_right _ (List.mem_append_right _ (List.mem_append_right _ (List.mem_append_right _ (List.mem_append_right _ (List.mem_append_right _ (List.mem_append_right _ (List.mem_append_right _ (List.mem_append_right _ (List.mem_append_left _ (List.mem_of_getElem? (i := 1) rfl))))))))))))) (List.mem_append_right _ (List.mem_append_left _ (List.mem_of_getElem? (i := 2) rfl))) (List.mem_append_right _ (List.mem_append_right _ (List.mem_append_right _ (List.mem_append_right _ (List.mem_append_right _ (List.mem_append_right _ (List.mem_append_right _ (List.mem_append_right _ (List.mem_append_right _ (List.mem_append_right _ (List.mem_append_right _ (List.mem_append_left _ (List.mem_of_getElem? (i := 2) rfl)))))))))))))) rfl rfl rfl (by decide +kernel) ⟨Nat.le_of_ble_eq_true rfl, Nat.le_of_ble_eq_true rfl⟩) hK hP rfl hl.1 rfl (Nat.le_of_ble_eq_true rfl) d_PL_line_11 ⟨Nat.zero_le _, Nat.zero_le _⟩ ?_
  refine z_ifb_eq hx hb (tgt := 27) d_PL_line_14 (by decide) (fun c_14 => ?_) (fun c_14 => ?_)
  · refine lv_iload_n hx hb d_PL_line_27 rfl (lv_at hl 2 rfl) ?_
    refine z_iconst hx hb (z := 0) d_PL_line_28 ?_
    refine z_bipush hx hb (z := 9) d_PL_line_29 (by decide) ?_
    refine ro_S (As := [.int (iI (wh)), .int (iI (0)), .int (iI (9))]) (rest := []) (z := bz (wh < 0 ∨ 9 < wh) inferInstance) ⟨hx, hb, hml, hown, hg⟩ (c_isOutside l (wh) (0) (9) ⟨by omega, by omega⟩ ⟨by decide, by decide⟩ ⟨by decide, by decide⟩) (cwS 3 hg (gt_S (List.mem_append_right _ (List.mem_append_right _ (List.mem_append_right _ (List.mem_append_right _ (List.mem_append_right _ (List.mem_append_right _ (List.mem_append_right _ (List.mem_append_right _ (List.mem_append_right _ (List.mem_append_right _ (List.mem_append_right _ (List.mem_append_left _ (List.mem_of_getElem? (i := 0) rfl))))))))))))) (List.mem_append_right _ (List.mem_append_right _ (List.mem_append_right _ (List.mem_append_right _ (List.mem_append_right _ (List.mem_append_right _ (List.mem_append_right _ (List.mem_append_right _ (List.mem_append_right _ (List.mem_append_right _ (List.mem_append_right _ (List.mem_append_left _ (List.mem_of_getElem? (i := 1) rfl))))))))))))) (List.mem_append_right _ (List.mem_append_left _ (List.mem_of_getElem? (i := 2) rfl))) (List.mem_append_right _ (List.mem_append_right _ (List.mem_append_right _ (List.mem_append_right _ (List.mem_append_right _ (List.mem_append_right _ (List.mem_append_right _ (List.mem_append_right _ (List.mem_append_right _ (List.mem_append_right _ (List.mem_append_right _ (List.mem_append_left _ (List.mem_of_getElem? (i := 2) rfl)))))))))))))) rfl rfl rfl (by decide +kernel) ⟨Nat.le_of_ble_eq_true rfl, Nat.le_of_ble_eq_true rfl⟩) hK hP rfl hl.1 rfl (Nat.le_of_ble_eq_true rfl) d_PL_line_31 ⟨Nat.zero_le _, Nat.zero_le _⟩ ?_
    refine z_ifb_eq hx hb (tgt := 47) d_PL_line_34 (by decide) (fun c_34 => ?_) (fun c_34 => ?_)
    · refine lv_aload_n hx hb d_PL_line_47 rfl (lv_at hl 0 rfl) ?_
      refine z_get (ci := 0) (C := R_PL) (T := T_PL) (N := 5) (v := .ref (ad (3))) hx hb hg in_PL hown hK hP (0) (by decide) rfl rfl 2 (by decide) (hg _ (List.mem_append_right _ (List.mem_append_right _ (List.mem_append_right _ (List.mem_append_right _ (List.mem_append_right _ (List.mem_append_left _ (List.mem_of_getElem? (i := 1) rfl)))))))) (fun _ h9 => h9) rfl d_PL_line_48 ?_
      refine z_get (ci := 3) (C := R_LN) (T := T_LN) (N := 6) (v := .ref (ad (10))) hx hb hg in_LN hown hK hP (3) (by decide) rfl rfl 0 (by decide) (hg _ (List.mem_append_right _ (List.mem_append_right _ (List.mem_append_right _ (List.mem_append_right _ (List.mem_append_left _ (List.mem_of_getElem? (i := 5) rfl))))))) (fun _ h9 => h9) rfl d_PL_line_51 ?_
      refine lv_iload_n hx hb d_PL_line_54 rfl (lv_at hl 2 rfl) ?_
      refine z_aald hx hb hK hP (10) 1 (by decide) (fun _ => rfl) rfl rfl (wh.toNat) (by omega) (by omega) (by decide) d_PL_line_55 ?_
      refine lv_iload_n hx hb d_PL_line_56 rfl (lv_at hl 1 rfl) ?_
      refine z_iald hx hb hK hP (13 + wh.toNat) 0 (by omega) (fun r => pg_tld _ _ _ (by omega) r) rfl ((x).toNat) (by omega) (by omega) (by decide) d_PL_line_57 ?_
      exact W.iret (v := iI (M (13 + wh.toNat) ((x).toNat))) hx hb hr (fun t ht hW => ⟨_, rfl, rfl, ht⟩) (fun q h => by cases h) d_PL_line_58
    · exfalso; omega
  · exfalso; omega
set_option maxHeartbeats 4000000 in
set_option maxRecDepth 100000 in
/-- where -/
theorem c_where (l : Launch) {D : va_G} {ad : Nat → Nat} {cs : pg_C} {rp : Option Nat} {M : Nat → Nat → Int} (x wh : Int) (hx0 : zb x) (hw : zb wh) (n : Nat) (hs : M 1 5 = ((n : Nat) : Int)) (hn6 : n ≤ 600) (h0 : M 0 4 = 1 ∧ inn x 0 (((n : Nat) : Int) - 1)) (h1 : inn wh 0 2) : Met l y_PL_where ws_PL_where ({ frames := 1, cells := 0, slots := 0, locals := 22 } : Room) (va_Pc [.ref (ad (0)), .int (iI (x)), .int (iI (wh))] (ro_B D vwCl (pg_tys cs) (pg_w ad cs rp M))) (vp_Si (fun r => r = iI (M (23 + wh.toNat) x.toNat))) 0 0 (fun _ => False) := by
  refine Met.ofW (cc := b_PL_where) (maxL := 3) (ret := (some .int)) (by decide) rfl ?_
  intro p e s m args below meth c s₁ B hml hv
  obtain ⟨rfl, hP, hK⟩ := hv
  have hx := B.exec
  have hb := B.bytes
  have hr := B.returns
  have hts := atoms_spec (ws := ws_PL_where) B.pre
  have hg : ∀ w ∈ gt, w.before _ s = true := fun w h => hts w (List.mem_cons_of_mem _ h)
  have hown : s.vm.findClass R_PL = some m.cls := findClass_of_methodNamed B.named
  have hlocks := B.notSynchronized
  have hl := lv_entry ([.ref (ad (0)), .int (iI (x)), .int (iI (wh))]) (n := 3) (Nat.le_of_ble_eq_true rfl)
  rw [lg_entry_eq]
  generalize (lg_sl ([.ref (ad (0)), .int (iI (x)), .int (iI (wh))]) ++ List.replicate (3 - (lg_sl ([.ref (ad (0)), .int (iI (x)), .int (iI (wh))])).length) Slot.unset).toArray = ls at hl ⊢
  have hl : lv_has ls 3 [(0, .ref (ad (0))), (1, .int (iI (x))), (2, .int (iI (wh)))] := hl
  obtain ⟨hx1, hx2⟩ := hx0
  obtain ⟨hw1, hw2⟩ := hw
  unfold inn at h0 h1
  refine lv_aload_n hx hb d_PL_where_0 rfl (lv_at hl 0 rfl) ?_
  refine z_get (ci := 0) (C := R_PL) (T := T_PL) (N := 5) (v := .int (iI (M (0) 4))) hx hb hg in_PL hown hK hP (0) (by decide) rfl rfl 4 (by decide) (hg _ (List.mem_append_right _ (List.mem_append_right _ (List.mem_append_right _ (List.mem_append_right _ (List.mem_append_right _ (List.mem_append_left _ (List.mem_of_getElem? (i := 3) rfl)))))))) (fun _ h9 => h9) rfl d_PL_where_1 ?_
  refine z_if_eq hx hb (tgt := 24) d_PL_where_4 (by decide) ⟨by omega, by omega⟩ (fun c_4 => ?_) (fun c_4 => ?_)
  · exfalso; omega
  · refine lv_iload_n hx hb d_PL_where_7 rfl (lv_at hl 1 rfl) ?_
    refine z_iconst hx hb (z := 0) d_PL_where_8 ?_
    refine lv_aload_n hx hb d_PL_where_9 rfl (lv_at hl 0 rfl) ?_
    refine z_get (ci := 0) (C := R_PL) (T := T_PL) (N := 5) (v := .ref (ad (1))) hx hb hg in_PL hown hK hP (0) (by decide) rfl rfl 0 (by decide) (hg _ (List.mem_append_right _ (List.mem_append_right _ (List.mem_append_right _ (List.mem_append_right _ (List.mem_append_left _ (List.mem_of_getElem? (i := 39) rfl))))))) (fun _ h9 => h9) rfl d_PL_where_10 ?_
    refine z_get (ci := 1) (C := R_TX) (T := T_TX) (N := 6) (v := .int (iI (M (1) 5))) hx hb hg in_TX hown hK hP (1) (by decide) rfl rfl 5 (by decide) (hg _ (List.mem_append_right _ (List.mem_append_right _ (List.mem_append_left _ (List.mem_of_getElem? (i := 31) rfl))))) (fun _ h9 => h9) rfl d_PL_where_13 ?_
    refine z_iconst hx hb (z := 1) d_PL_where_16 ?_
    refine z_isub hx hb d_PL_where_17 (v := (M (1) 5 - 1)) rfl ?_
    refine ro_S (As := [.int (iI (x)), .int (iI (0)), .int (iI ((M (1) 5 - 1)))]) (rest := []) (z := bz (x < 0 ∨ (M (1) 5 - 1) < x) inferInstance) ⟨hx, hb, hml, hown, hg⟩ (c_isOutside l (x) (0) ((M (1) 5 - 1)) ⟨by omega, by omega⟩ ⟨by decide, by decide⟩ ⟨by omega, by omega⟩) (cwS 3 hg (gt_S (List.mem_append_right _ (List.mem_append_right _ (List.mem_append_right _ (List.mem_append_right _ (List.mem_append_right _ (List.mem_append_right _ (List.mem_append_right _ (List.mem_append_right _ (List.mem_append_right _ (List.mem_append_right _ (List.mem_append_right _ (List.mem_append_left _ (List.mem_of_getElem? (i := 0) rfl))))))))))))) (List.mem_append_right _ (List.mem_append_right _ (List.mem_append_right _ (List.mem_append_right _ (List.mem_append_right _ (List.mem_append_right _ (List.mem_append_right _ (List.mem_append_right _ (List.mem_append_right _ (List.mem_append_right _ (List.mem_append_right _ (List.mem_append_left _ (List.mem_of_getElem? (i := 1) rfl))))))))))))) (List.mem_append_right _ (List.mem_append_left _ (List.mem_of_getElem? (i := 2) rfl))) (List.mem_append_right _ (List.mem_append_right _ (List.mem_append_right _ (List.mem_append_right _ (List.mem_append_right _ (List.mem_append_right _ (List.mem_append_right _ (List.mem_append_right _ (List.mem_append_right _ (List.mem_append_right _ (List.mem_append_right _ (List.mem_append_left _ (List.mem_of_getElem? (i := 2) rfl)))))))))))))) rfl rfl rfl (by decide +kernel) ⟨Nat.le_of_ble_eq_true rfl, Nat.le_of_ble_eq_true rfl⟩) hK hP rfl hl.1 rfl (Nat.le_of_ble_eq_true rfl) d_PL_where_18 ⟨Nat.zero_le _, Nat.zero_le _⟩ ?_
    refine z_ifb_eq hx hb (tgt := 34) d_PL_where_21 (by decide) (fun c_21 => ?_) (fun c_21 => ?_)
    · refine lv_iload_n hx hb d_PL_where_34 rfl (lv_at hl 2 rfl) ?_
      refine z_iconst hx hb (z := 0) d_PL_where_35 ?_
      refine z_iconst hx hb (z := 2) d_PL_where_36 ?_
      refine ro_S (As := [.int (iI (wh)), .int (iI (0)), .int (iI (2))]) (rest := []) (z := bz (wh < 0 ∨ 2 < wh) inferInstance) ⟨hx, hb, hml, hown, hg⟩ (c_isOutside l (wh) (0) (2) ⟨by omega, by omega⟩ ⟨by decide, by decide⟩ ⟨by decide, by decide⟩) (cwS 3 hg (gt_S (List.mem_append_right _ (List.mem_append_right _ (List.mem_append_right _ (List.mem_append_right _ (List.mem_append_right _ (List.mem_append_right _ (List.mem_append_right _ (List.mem_append_right _ (List.mem_append_right _ (List.mem_append_right _ (List.mem_append_right _ (List.mem_append_left _ (List.mem_of_getElem? (i := 0) rfl))))))))))))) (List.mem_append_right _ (List.mem_append_right _ (List.mem_append_right _ (List.mem_append_right _ (List.mem_append_right _ (List.mem_append_right _ (List.mem_append_right _ (List.mem_append_right _ (List.mem_append_right _ (List.mem_append_right _ (List.mem_append_right _ (List.mem_append_left _ (List.mem_of_getElem? (i := 1) rfl))))))))))))) (List.mem_append_right _ (List.mem_append_left _ (List.mem_of_getElem? (i := 2) rfl))) (List.mem_append_right _ (List.mem_append_right _ (List.mem_append_right _ (List.mem_append_right _ (List.mem_append_right _ (List.mem_append_right _ (List.mem_append_right _ (List.mem_append_right _ (List.mem_append_right _ (List.mem_append_right _ (List.mem_append_right _ (List.mem_append_left _ (List.mem_of_getElem? (i := 2) rfl)))))))))))))) rfl rfl rfl (by decide +kernel) ⟨Nat.le_of_ble_eq_true rfl, Nat.le_of_ble_eq_true rfl⟩) hK hP rfl hl.1 rfl (Nat.le_of_ble_eq_true rfl) d_PL_where_37 ⟨Nat.zero_le _, Nat.zero_le _⟩ ?_
      refine z_ifb_eq hx hb (tgt := 53) d_PL_where_40 (by decide) (fun c_40 => ?_) (fun c_40 => ?_)
      · refine lv_aload_n hx hb d_PL_where_53 rfl (lv_at hl 0 rfl) ?_
        refine z_get (ci := 0) (C := R_PL) (T := T_PL) (N := 5) (v := .ref (ad (3))) hx hb hg in_PL hown hK hP (0) (by decide) rfl rfl 2 (by decide) (hg _ (List.mem_append_right _ (List.mem_append_right _ (List.mem_append_right _ (List.mem_append_right _ (List.mem_append_right _ (List.mem_append_left _ (List.mem_of_getElem? (i := 1) rfl)))))))) (fun _ h9 => h9) rfl d_PL_where_54 ?_
        refine z_get (ci := 3) (C := R_LN) (T := T_LN) (N := 6) (v := .ref (ad (11))) hx hb hg in_LN hown hK hP (3) (by decide) rfl rfl 1 (by decide) (hg _ (List.mem_append_right _ (List.mem_append_right _ (List.mem_append_right _ (List.mem_append_right _ (List.mem_append_left _ (List.mem_of_getElem? (i := 7) rfl))))))) (fun _ h9 => h9) rfl d_PL_where_57 ?_
        refine lv_iload_n hx hb d_PL_where_60 rfl (lv_at hl 2 rfl) ?_
        refine z_aald hx hb hK hP (11) 1 (by decide) (fun _ => rfl) rfl rfl (wh.toNat) (by omega) (by omega) (by decide) d_PL_where_61 ?_
        refine lv_iload_n hx hb d_PL_where_62 rfl (lv_at hl 1 rfl) ?_
        refine z_iald hx hb hK hP (23 + wh.toNat) 0 (by omega) (fun r => pg_plx _ _ _ (by omega) r) rfl ((x).toNat) (by omega) (by omega) (by decide) d_PL_where_63 ?_
        exact W.iret (v := iI (M (23 + wh.toNat) ((x).toNat))) hx hb hr (fun t ht hW => ⟨_, rfl, rfl, ht⟩) (fun q h => by cases h) d_PL_where_64
      · exfalso; omega
    · exfalso; omega
set_option maxHeartbeats 4000000 in
set_option maxRecDepth 100000 in
/-- page -/
theorem c_page (l : Launch) {D : va_G} {ad : Nat → Nat} {cs : pg_C} {rp : Option Nat} {M : Nat → Nat → Int} (x wh : Int) (hx0 : zb x) (hw : zb wh) (np : Nat) (hn : M 5 1 = ((np : Nat) : Int)) (hn6 : np ≤ 630) (h0 : inn x 0 (((np : Nat) : Int) - 1)) (h1 : inn wh 0 2) : Met l y_PL_page ws_PL_page ({ frames := 1, cells := 0, slots := 0, locals := 22 } : Room) (va_Pc [.ref (ad (0)), .int (iI (x)), .int (iI (wh))] (ro_B D vwCl (pg_tys cs) (pg_w ad cs rp M))) (vp_Si (fun r => r = iI (M (26 + wh.toNat) x.toNat))) 0 0 (fun _ => False) := by
  refine Met.ofW (cc := b_PL_page) (maxL := 3) (ret := (some .int)) (by decide) rfl ?_
  intro p e s m args below meth c s₁ B hml hv
  obtain ⟨rfl, hP, hK⟩ := hv
  have hx := B.exec
  have hb := B.bytes
  have hr := B.returns
  have hts := atoms_spec (ws := ws_PL_page) B.pre
  have hg : ∀ w ∈ gt, w.before _ s = true := fun w h => hts w (List.mem_cons_of_mem _ h)
  have hown : s.vm.findClass R_PL = some m.cls := findClass_of_methodNamed B.named
  have hlocks := B.notSynchronized
  have hl := lv_entry ([.ref (ad (0)), .int (iI (x)), .int (iI (wh))]) (n := 3) (Nat.le_of_ble_eq_true rfl)
  rw [lg_entry_eq]
  generalize (lg_sl ([.ref (ad (0)), .int (iI (x)), .int (iI (wh))]) ++ List.replicate (3 - (lg_sl ([.ref (ad (0)), .int (iI (x)), .int (iI (wh))])).length) Slot.unset).toArray = ls at hl ⊢
  have hl : lv_has ls 3 [(0, .ref (ad (0))), (1, .int (iI (x))), (2, .int (iI (wh)))] := hl
  obtain ⟨hx1, hx2⟩ := hx0
  obtain ⟨hw1, hw2⟩ := hw
  unfold inn at h0 h1
  refine lv_iload_n hx hb d_PL_page_0 rfl (lv_at hl 1 rfl) ?_
  refine z_iconst hx hb (z := 0) d_PL_page_1 ?_
  refine lv_aload_n hx hb d_PL_page_2 rfl (lv_at hl 0 rfl) ?_
  refine z_get (ci := 0) (C := R_PL) (T := T_PL) (N := 5) (v := .ref (ad (5))) hx hb hg in_PL hown hK hP (0) (by decide) rfl rfl 3 (by decide) (hg _ (List.mem_append_right _ (List.mem_append_right _ (List.mem_append_right _ (List.mem_append_right _ (List.mem_append_right _ (List.mem_append_left _ (List.mem_of_getElem? (i := 2) rfl)))))))) (fun _ h9 => h9) rfl d_PL_page_3 ?_
  refine z_get (ci := 5) (C := R_PG) (T := T_PG) (N := 5) (v := .int (iI (M (5) 1))) hx hb hg in_PG hown hK hP (5) (by decide) rfl rfl 1 (by decide) (hg _ (List.mem_append_right _ (List.mem_append_right _ (List.mem_append_right _ (List.mem_append_right _ (List.mem_append_left _ (List.mem_of_getElem? (i := 30) rfl))))))) (fun _ h9 => h9) rfl d_PL_page_6 ?_
  refine z_iconst hx hb (z := 1) d_PL_page_9 ?_
  refine z_isub hx hb d_PL_page_10 (v := (M (5) 1 - 1)) rfl ?_
  refine ro_S (As := [.int (iI (x)), .int (iI (0)), .int (iI ((M (5) 1 - 1)))]) (rest := []) (z := bz (x < 0 ∨ (M (5) 1 - 1) < x) inferInstance) ⟨hx, hb, hml, hown, hg⟩ (c_isOutside l (x) (0) ((M (5) 1 - 1)) ⟨by omega, by omega⟩ ⟨by decide, by decide⟩ ⟨by omega, by omega⟩) (cwS 3 hg (gt_S (List.mem_append_right _ (List.mem_append_right _ (List.mem_append_right _ (List.mem_append_right _ (List.mem_append_right _ (List.mem_append_right _ (List.mem_append_right _ (List.mem_append_right _ (List.mem_append_right _ (List.mem_append_right _ (List.mem_append_right _ (List.mem_append_left _ (List.mem_of_getElem? (i := 0) rfl))))))))))))) (List.mem_append_right _ (List.mem_append_right _ (List.mem_append_right _ (List.mem_append_right _ (List.mem_append_right _ (List.mem_append_right _ (List.mem_append_right _ (List.mem_append_right _ (List.mem_append_right _ (List.mem_append_right _ (List.mem_append_right _ (List.mem_append_left _ (List.mem_of_getElem? (i := 1) rfl))))))))))))) (List.mem_append_right _ (List.mem_append_left _ (List.mem_of_getElem? (i := 2) rfl))) (List.mem_append_right _ (List.mem_append_right _ (List.mem_append_right _ (List.mem_append_right _ (List.mem_append_right _ (List.mem_append_right _ (List.mem_append_right _ (List.mem_append_right _ (List.mem_append_right _ (List.mem_append_right _ (List.mem_append_right _ (List.mem_append_left _ (List.mem_of_getElem? (i := 2) rfl)))))))))))))) rfl rfl rfl (by decide +kernel) ⟨Nat.le_of_ble_eq_true rfl, Nat.le_of_ble_eq_true rfl⟩) hK hP rfl hl.1 rfl (Nat.le_of_ble_eq_true rfl) d_PL_page_11 ⟨Nat.zero_le _, Nat.zero_le _⟩ ?_
  refine z_ifb_eq hx hb (tgt := 27) d_PL_page_14 (by decide) (fun c_14 => ?_) (fun c_14 => ?_)
  · refine lv_iload_n hx hb d_PL_page_27 rfl (lv_at hl 2 rfl) ?_
    refine z_iconst hx hb (z := 0) d_PL_page_28 ?_
    refine z_iconst hx hb (z := 2) d_PL_page_29 ?_
    refine ro_S (As := [.int (iI (wh)), .int (iI (0)), .int (iI (2))]) (rest := []) (z := bz (wh < 0 ∨ 2 < wh) inferInstance) ⟨hx, hb, hml, hown, hg⟩ (c_isOutside l (wh) (0) (2) ⟨by omega, by omega⟩ ⟨by decide, by decide⟩ ⟨by decide, by decide⟩) (cwS 3 hg (gt_S (List.mem_append_right _ (List.mem_append_right _ (List.mem_append_right _ (List.mem_append_right _ (List.mem_append_right _ (List.mem_append_right _ (List.mem_append_right _ (List.mem_append_right _ (List.mem_append_right _ (List.mem_append_right _ (List.mem_append_right _ (List.mem_append_left _ (List.mem_of_getElem? (i := 0) rfl))))))))))))) (List.mem_append_right _ (List.mem_append_right _ (List.mem_append_right _ (List.mem_append_right _ (List.mem_append_right _ (List.mem_append_right _ (List.mem_append_right _ (List.mem_append_right _ (List.mem_append_right _ (List.mem_append_right _ (List.mem_append_right _ (List.mem_append_left _ (List.mem_of_getElem? (i := 1) rfl))))))))))))) (List.mem_append_right _ (List.mem_append_left _ (List.mem_of_getElem? (i := 2) rfl))) (List.mem_append_right _ (List.mem_append_right _ (List.mem_append_right _ (List.mem_append_right _ (List.mem_append_right _ (List.mem_append_right _ (List.mem_append_right _ (List.mem_append_right _ (List.mem_append_right _ (List.mem_append_right _ (List.mem_append_right _ (List.mem_append_left _ (List.mem_of_getElem? (i := 2) rfl)))))))))))))) rfl rfl rfl (by decide +kernel) ⟨Nat.le_of_ble_eq_true rfl, Nat.le_of_ble_eq_true rfl⟩) hK hP rfl hl.1 rfl (Nat.le_of_ble_eq_true rfl) d_PL_page_30 ⟨Nat.zero_le _, Nat.zero_le _⟩ ?_
    refine z_ifb_eq hx hb (tgt := 46) d_PL_page_33 (by decide) (fun c_33 => ?_) (fun c_33 => ?_)
    · refine lv_aload_n hx hb d_PL_page_46 rfl (lv_at hl 0 rfl) ?_
      refine z_get (ci := 0) (C := R_PL) (T := T_PL) (N := 5) (v := .ref (ad (5))) hx hb hg in_PL hown hK hP (0) (by decide) rfl rfl 3 (by decide) (hg _ (List.mem_append_right _ (List.mem_append_right _ (List.mem_append_right _ (List.mem_append_right _ (List.mem_append_right _ (List.mem_append_left _ (List.mem_of_getElem? (i := 2) rfl)))))))) (fun _ h9 => h9) rfl d_PL_page_47 ?_
      refine z_get (ci := 5) (C := R_PG) (T := T_PG) (N := 5) (v := .ref (ad (12))) hx hb hg in_PG hown hK hP (5) (by decide) rfl rfl 0 (by decide) (hg _ (List.mem_append_right _ (List.mem_append_right _ (List.mem_append_right _ (List.mem_append_right _ (List.mem_append_left _ (List.mem_of_getElem? (i := 28) rfl))))))) (fun _ h9 => h9) rfl d_PL_page_50 ?_
      refine lv_iload_n hx hb d_PL_page_53 rfl (lv_at hl 2 rfl) ?_
      refine z_aald hx hb hK hP (12) 1 (by decide) (fun _ => rfl) rfl rfl (wh.toNat) (by omega) (by omega) (by decide) d_PL_page_54 ?_
      refine lv_iload_n hx hb d_PL_page_55 rfl (lv_at hl 1 rfl) ?_
      refine z_iald hx hb hK hP (26 + wh.toNat) 0 (by omega) (fun r => pg_ptd _ _ _ (by omega) r) rfl ((x).toNat) (by omega) (by omega) (by decide) d_PL_page_56 ?_
      exact W.iret (v := iI (M (26 + wh.toNat) ((x).toNat))) hx hb hr (fun t ht hW => ⟨_, rfl, rfl, ht⟩) (fun q h => by cases h) d_PL_page_57
    · exfalso; omega
  · exfalso; omega
set_option maxHeartbeats 4000000 in
set_option maxRecDepth 100000 in
/-- hit -/
theorem c_hit (l : Launch) {D : va_G} {ad : Nat → Nat} {cs : pg_C} {rp : Option Nat} {M : Nat → Nat → Int} (x xx yy : Int) (hx0 : zb x) (hxx : zb xx) (hyy : zb yy) (np : Nat) (hn : M 5 1 = ((np : Nat) : Int)) (hn6 : np ≤ 630) (h0 : inn x 0 (((np : Nat) : Int) - 1)) (g a k : Nat) (hg0 : x = ((g : Nat) : Int)) (ha : M 26 g = ((a : Nat) : Int)) (hk : M 27 g = ((k : Nat) : Int)) (hk1 : 1 ≤ k) (hak : a + k ≤ 630) (hz : ∀ j, zb (M 20 j)) (hL : wfl M) (ht : wfT M) (hpf : ∀ j, 0 ≤ M 24 j ∧ M 24 j ≤ 100000000) (hpw : ∀ j, 0 ≤ M 25 j ∧ M 25 j ≤ 100000000) : Met l y_PL_hit ws_PL_hit ({ frames := 2, cells := 0, slots := 0, locals := 47 } : Room) (va_Pc [.ref (ad (0)), .int (iI (x)), .int (iI (xx)), .int (iI (yy))] (ro_B D vwCl (pg_tys cs) (pg_w ad cs rp M))) (vp_Si (fun r => r = iI (((p_ah (M 7) (M 24) (M 25) xx (lk M (p_lat (M 20) yy a (a + k - 1))) (lf M (p_lat (M 20) yy a (a + k - 1))) : Nat) : Int)))) 0 0 (fun _ => False) := by
  refine Met.ofW (cc := b_PL_hit) (maxL := 4) (ret := (some .int)) (by decide) rfl ?_
  intro p e s m args below meth c s₁ B hml hv
  obtain ⟨rfl, hP, hK⟩ := hv
  have hx := B.exec
  have hb := B.bytes
  have hr := B.returns
  have hts := atoms_spec (ws := ws_PL_hit) B.pre
  have hg : ∀ w ∈ gt, w.before _ s = true := fun w h => hts w (List.mem_cons_of_mem _ h)
  have hown : s.vm.findClass R_PL = some m.cls := findClass_of_methodNamed B.named
  have hlocks := B.notSynchronized
  have hl := lv_entry ([.ref (ad (0)), .int (iI (x)), .int (iI (xx)), .int (iI (yy))]) (n := 4) (Nat.le_of_ble_eq_true rfl)
  rw [lg_entry_eq]
  generalize (lg_sl ([.ref (ad (0)), .int (iI (x)), .int (iI (xx)), .int (iI (yy))]) ++ List.replicate (4 - (lg_sl ([.ref (ad (0)), .int (iI (x)), .int (iI (xx)), .int (iI (yy))])).length) Slot.unset).toArray = ls at hl ⊢
  have hl : lv_has ls 4 [(0, .ref (ad (0))), (1, .int (iI (x))), (2, .int (iI (xx))), (3, .int (iI (yy)))] := hl
  obtain ⟨hx1, hx2⟩ := hx0
  unfold inn at h0
  obtain ⟨t, et⟩ : ∃ q_, q_ = p_lat (M 20) yy a (a + k - 1) := ⟨_, rfl⟩
  have htb := p_lat_le (M 20) yy a (a + k - 1)
  rw [← et] at htb
  have hfk := wfl_f hL t
  rw [← et]
  refine lv_iload_n hx hb d_PL_hit_0 rfl (lv_at hl 1 rfl) ?_
  refine z_iconst hx hb (z := 0) d_PL_hit_1 ?_
  refine lv_aload_n hx hb d_PL_hit_2 rfl (lv_at hl 0 rfl) ?_
  refine z_get (ci := 0) (C := R_PL) (T := T_PL) (N := 5) (v := .ref (ad (5))) hx hb hg in_PL hown hK hP (0) (by decide) rfl rfl 3 (by decide) (hg _ (List.mem_append_right _ (List.mem_append_right _ (List.mem_append_right _ (List.mem_append_right _ (List.mem_append_right _ (List.mem_append_left _ (List.mem_of_getElem? (i := 2) rfl)))))))) (fun _ h9 => h9) rfl d_PL_hit_3 ?_
  refine z_get (ci := 5) (C := R_PG) (T := T_PG) (N := 5) (v := .int (iI (M (5) 1))) hx hb hg in_PG hown hK hP (5) (by decide) rfl rfl 1 (by decide) (hg _ (List.mem_append_right _ (List.mem_append_right _ (List.mem_append_right _ (List.mem_append_right _ (List.mem_append_left _ (List.mem_of_getElem? (i := 30) rfl))))))) (fun _ h9 => h9) rfl d_PL_hit_6 ?_
  refine z_iconst hx hb (z := 1) d_PL_hit_9 ?_
  refine z_isub hx hb d_PL_hit_10 (v := (M (5) 1 - 1)) rfl ?_
  refine ro_S (As := [.int (iI (x)), .int (iI (0)), .int (iI ((M (5) 1 - 1)))]) (rest := []) (z := bz (x < 0 ∨ (M (5) 1 - 1) < x) inferInstance) ⟨hx, hb, hml, hown, hg⟩ (c_isOutside l (x) (0) ((M (5) 1 - 1)) ⟨by omega, by omega⟩ ⟨by decide, by decide⟩ ⟨by omega, by omega⟩) (cwS 3 hg (gt_S (List.mem_append_right _ (List.mem_append_right _ (List.mem_append_right _ (List.mem_append_right _ (List.mem_append_right _ (List.mem_append_right _ (List.mem_append_right _ (List.mem_append_right _ (List.mem_append_right _ (List.mem_append_right _ (List.mem_append_right _ (List.mem_append_left _ (List.mem_of_getElem? (i := 0) rfl))))))))))))) (List.mem_append_right _ (List.mem_append_right _ (List.mem_append_right _ (List.mem_append_right _ (List.mem_append_right _ (List.mem_append_right _ (List.mem_append_right _ (List.mem_append_right _ (List.mem_append_right _ (List.mem_append_right _ (List.mem_append_right _ (List.mem_append_left _ (List.mem_of_getElem? (i := 1) rfl))))))))))))) (List.mem_append_right _ (List.mem_append_left _ (List.mem_of_getElem? (i := 2) rfl))) (List.mem_append_right _ (List.mem_append_right _ (List.mem_append_right _ (List.mem_append_right _ (List.mem_append_right _ (List.mem_append_right _ (List.mem_append_right _ (List.mem_append_right _ (List.mem_append_right _ (List.mem_append_right _ (List.mem_append_right _ (List.mem_append_left _ (List.mem_of_getElem? (i := 2) rfl)))))))))))))) rfl rfl rfl (by decide +kernel) ⟨Nat.le_of_ble_eq_true rfl, Nat.le_of_ble_eq_true rfl⟩) hK hP rfl hl.1 rfl (Nat.le_of_ble_eq_true rfl) d_PL_hit_11 ⟨Nat.zero_le _, Nat.zero_le _⟩ ?_
  refine z_ifb_eq hx hb (tgt := 27) d_PL_hit_14 (by decide) (fun c_14 => ?_) (fun c_14 => ?_)
  · refine lv_aload_n hx hb d_PL_hit_27 rfl (lv_at hl 0 rfl) ?_
    refine z_get (ci := 0) (C := R_PL) (T := T_PL) (N := 5) (v := .ref (ad (3))) hx hb hg in_PL hown hK hP (0) (by decide) rfl rfl 2 (by decide) (hg _ (List.mem_append_right _ (List.mem_append_right _ (List.mem_append_right _ (List.mem_append_right _ (List.mem_append_right _ (List.mem_append_left _ (List.mem_of_getElem? (i := 1) rfl)))))))) (fun _ h9 => h9) rfl d_PL_hit_28 ?_
    refine lv_aload_n hx hb d_PL_hit_31 rfl (lv_at hl 0 rfl) ?_
    refine z_get (ci := 0) (C := R_PL) (T := T_PL) (N := 5) (v := .ref (ad (5))) hx hb hg in_PL hown hK hP (0) (by decide) rfl rfl 3 (by decide) (hg _ (List.mem_append_right _ (List.mem_append_right _ (List.mem_append_right _ (List.mem_append_right _ (List.mem_append_right _ (List.mem_append_left _ (List.mem_of_getElem? (i := 2) rfl)))))))) (fun _ h9 => h9) rfl d_PL_hit_32 ?_
    refine lv_iload_n hx hb d_PL_hit_35 rfl (lv_at hl 1 rfl) ?_
    refine lv_iload_n hx hb d_PL_hit_36 rfl (lv_at hl 3 rfl) ?_
    refine ro_V (As := [.int (iI (x)), .int (iI (yy))]) (rest := [.ref (ad (3))]) (z := ((t : Nat) : Int)) ⟨hx, hb, hml, hown, hg⟩ (et ▸ hg0 ▸ c_lineAt l g a k yy (by omega) hyy ha hk hk1 hak hz) (cwV 2 hg (gt_V (List.mem_append_right _ (List.mem_append_right _ (List.mem_append_right _ (List.mem_append_right _ (List.mem_append_right _ (List.mem_append_right _ (List.mem_append_right _ (List.mem_append_right _ (List.mem_append_right _ (List.mem_append_right _ (List.mem_append_right _ (List.mem_append_right _ (List.mem_append_left _ (List.mem_of_getElem? (i := 29) rfl)))))))))))))) (List.mem_append_right _ (List.mem_append_right _ (List.mem_append_right _ (List.mem_append_right _ (List.mem_append_right _ (List.mem_append_right _ (List.mem_append_right _ (List.mem_append_right _ (List.mem_append_right _ (List.mem_append_right _ (List.mem_append_right _ (List.mem_append_right _ (List.mem_append_left _ (List.mem_of_getElem? (i := 30) rfl)))))))))))))) (List.mem_append_right _ (List.mem_append_right _ (List.mem_append_right _ (List.mem_append_right _ (List.mem_append_right _ (List.mem_append_right _ (List.mem_append_right _ (List.mem_append_right _ (List.mem_append_right _ (List.mem_append_right _ (List.mem_append_right _ (List.mem_append_right _ (List.mem_append_left _ (List.mem_of_getElem? (i := 31) rfl)))))))))))))) (List.mem_append_right _ (List.mem_append_left _ (List.mem_of_getElem? (i := 8) rfl))) (List.mem_append_right _ (List.mem_append_right _ (List.mem_append_right _ (List.mem_append_right _ (List.mem_append_right _ (List.mem_append_right _ (List.mem_append_right _ (List.mem_append_right _ (List.mem_append_right _ (List.mem_append_right _ (List.mem_append_right _ (List.mem_append_right _ (List.mem_append_left _ (List.mem_of_getElem? (i := 32) rfl))))))))))))))) rfl rfl rfl (by decide +kernel) ⟨Nat.le_of_ble_eq_true rfl, Nat.le_of_ble_eq_true rfl⟩) hK hP (va_recv hK hP (ci := 5) (q0 := 5) rfl (wl_atE (by decide) rfl)) rfl hl.1 rfl (Nat.le_of_ble_eq_true rfl) d_PL_hit_37 ⟨Nat.zero_le _, Nat.zero_le _⟩ ?_
    refine lv_iload_n hx hb d_PL_hit_40 rfl (lv_at hl 2 rfl) ?_
    refine ro_V (As := [.int (iI (((t : Nat) : Int))), .int (iI (xx))]) (rest := []) (z := ((p_ah (M 7) (M 24) (M 25) xx (lk M t) (lf M t) : Nat) : Int)) ⟨hx, hb, hml, hown, hg⟩ (c_signAhead l t (lf M t) (lk M t) xx (by omega) hxx hfk.1 hfk.2.1 hfk.2.2 ht hpf hpw) (cwV 2 hg (gt_V (List.mem_append_right _ (List.mem_append_right _ (List.mem_append_right _ (List.mem_append_right _ (List.mem_append_right _ (List.mem_append_right _ (List.mem_append_right _ (List.mem_append_right _ (List.mem_append_right _ (List.mem_append_right _ (List.mem_append_right _ (List.mem_append_right _ (List.mem_append_left _ (List.mem_of_getElem? (i := 33) rfl)))))))))))))) (List.mem_append_right _ (List.mem_append_right _ (List.mem_append_right _ (List.mem_append_right _ (List.mem_append_right _ (List.mem_append_right _ (List.mem_append_right _ (List.mem_append_right _ (List.mem_append_right _ (List.mem_append_right _ (List.mem_append_right _ (List.mem_append_right _ (List.mem_append_left _ (List.mem_of_getElem? (i := 34) rfl)))))))))))))) (List.mem_append_right _ (List.mem_append_right _ (List.mem_append_right _ (List.mem_append_right _ (List.mem_append_right _ (List.mem_append_right _ (List.mem_append_right _ (List.mem_append_right _ (List.mem_append_right _ (List.mem_append_right _ (List.mem_append_right _ (List.mem_append_right _ (List.mem_append_left _ (List.mem_of_getElem? (i := 35) rfl)))))))))))))) (List.mem_append_right _ (List.mem_append_left _ (List.mem_of_getElem? (i := 6) rfl))) (List.mem_append_right _ (List.mem_append_right _ (List.mem_append_right _ (List.mem_append_right _ (List.mem_append_right _ (List.mem_append_right _ (List.mem_append_right _ (List.mem_append_right _ (List.mem_append_right _ (List.mem_append_right _ (List.mem_append_right _ (List.mem_append_right _ (List.mem_append_left _ (List.mem_of_getElem? (i := 36) rfl))))))))))))))) rfl rfl rfl (by decide +kernel) ⟨Nat.le_of_ble_eq_true rfl, Nat.le_of_ble_eq_true rfl⟩) hK hP (va_recv hK hP (ci := 3) (q0 := 3) rfl (wl_atE (by decide) rfl)) rfl hl.1 rfl (Nat.le_of_ble_eq_true rfl) d_PL_hit_41 ⟨Nat.zero_le _, Nat.zero_le _⟩ ?_
    exact W.iret (v := iI (((p_ah (M 7) (M 24) (M 25) xx (lk M t) (lf M t) : Nat) : Int))) hx hb hr (fun t ht hW => ⟨_, rfl, rfl, ht⟩) (fun q h => by cases h) d_PL_hit_44
  · exfalso; omega
