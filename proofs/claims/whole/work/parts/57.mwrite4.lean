set_option maxHeartbeats 4000000 in
set_option maxRecDepth 100000 in
/-- thrown -/
theorem r_thrown (l : Launch) {D : va_G} {ad : Nat → Nat} {cs : ClassId} {M : Nat → Nat → Int}  : Met l y_MO_thrown ws_MO_thrown ({ frames := 0, cells := 0, slots := 0, locals := 0 } : Room) (va_Pc [.ref (ad (0))] (ro_B D vwCl (mo_tys cs) (mo_w ad cs M))) (vp_Si (fun r => r = iI (M 0 0))) 0 0 (fun _ => False) := by
  refine Met.ofW (cc := b_MO_thrown) (maxL := 1) (ret := (some .int)) (by decide) rfl ?_
  intro p e s m args below meth c s₁ B hml hv
  obtain ⟨rfl, hP, hK⟩ := hv
  have hx := B.exec
  have hb := B.bytes
  have hr := B.returns
  have hts := atoms_spec (ws := ws_MO_thrown) B.pre
  have hg : ∀ w ∈ gt, w.before _ s = true := fun w h => hts w (List.mem_cons_of_mem _ h)
  have hown : s.vm.findClass R_MO = some m.cls := findClass_of_methodNamed B.named
  have hlocks := B.notSynchronized
  have hl := lv_entry ([.ref (ad (0))]) (n := 1) (Nat.le_of_ble_eq_true rfl)
  rw [lg_entry_eq]
  generalize (lg_sl ([.ref (ad (0))]) ++ List.replicate (1 - (lg_sl ([.ref (ad (0))])).length) Slot.unset).toArray = ls at hl ⊢
  have hl : lv_has ls 1 [(0, .ref (ad (0)))] := hl
  refine lv_aload_n hx hb d_MO_thrown_0 rfl (lv_at hl 0 rfl) ?_
  refine z_get (ci := 7) (C := R_MO) (T := T_MO) (N := 32) (v := .int (iI (M (0) 0))) hx hb hg in_MO hown hK hP (0) (by decide) rfl rfl 0 (by decide) (hg _ (List.mem_append_right _ (List.mem_append_right _ (List.mem_append_right _ (List.mem_append_right _ (List.mem_append_right _ (List.mem_append_right _ (List.mem_append_right _ (List.mem_append_right _ (List.mem_append_right _ (List.mem_append_right _ (List.mem_append_right _ (List.mem_append_right _ (List.mem_append_right _ (List.mem_append_left _ (List.mem_of_getElem? (i := 3) rfl)))))))))))))))) (fun _ h9 => h9) rfl d_MO_thrown_1 ?_
  exact W.iret (v := iI (M (0) 0)) hx hb hr (fun t ht hW => ⟨_, rfl, rfl, ht⟩) (fun q h => by cases h) d_MO_thrown_4
set_option maxHeartbeats 4000000 in
set_option maxRecDepth 100000 in
/-- raise -/
theorem r_raise (l : Launch) {D : va_G} {ad : Nat → Nat} {cs : ClassId} {M : Nat → Nat → Int} (sz : Nat) (v : Int) : Met l y_MO_raise ws_MO_raise ({ frames := 0, cells := 0, slots := 0, locals := 0 } : Room) (va_Pc [.ref (ad (0)), .int (iI (v))] (rw_B D vwCl (mo_tys cs) (mo_w ad cs M) sz)) (va_Qi (fun (r : Int32) (_ : Unit) => r = iI (0)) (rw_E D vwCl (mo_tys cs) (mo_w ad cs M) (mo_w ad cs (mset M 0 0 v)) sz) (va_A (mo_w ad cs M) sz)) 0 0 (va_A (mo_w ad cs M) sz) := by
  refine Met.ofW (cc := b_MO_raise) (maxL := 2) (ret := (some .int)) (by decide) rfl ?_
  intro p e s m args below meth c s₁ B hml hv
  obtain ⟨rfl, hsz, hP, hK, hD0⟩ := hv
  have hx := B.exec
  have hb := B.bytes
  have hr := B.returns
  have hts := atoms_spec (ws := ws_MO_raise) B.pre
  have hg : ∀ w ∈ gt, w.before _ s = true := fun w h => hts w (List.mem_cons_of_mem _ h)
  have hown : s.vm.findClass R_MO = some m.cls := findClass_of_methodNamed B.named
  have hlocks := B.notSynchronized
  subst hsz
  have hD := hD0.self (sz := s.heap.size)
  have hA : ∀ q : Nat, s.heap.size ≤ q → va_A (mo_w ad cs M) s.heap.size q := fun q h => Or.inr h
  have hS : va_S (va_A (mo_w ad cs M) s.heap.size) s.heap s.heap [] := va_S.rf
  have hl := lv_entry ([.ref (ad (0)), .int (iI (v))]) (n := 2) (Nat.le_of_ble_eq_true rfl)
  rw [lg_entry_eq]
  generalize (lg_sl ([.ref (ad (0)), .int (iI (v))]) ++ List.replicate (2 - (lg_sl ([.ref (ad (0)), .int (iI (v))])).length) Slot.unset).toArray = ls at hl ⊢
  have hl : lv_has ls 2 [(0, .ref (ad (0))), (1, .int (iI (v)))] := hl
  refine lv_aload_n hx hb d_MO_raise_0 rfl (lv_at hl 0 rfl) ?_
  refine lv_iload_n hx hb d_MO_raise_1 rfl (lv_at hl 1 rfl) ?_
  refine z_put (ci := 7) (C := R_MO) (T := T_MO) (N := 32) (v := .int (iI (v))) (ty := .int) (ce' := (mo_ce ad cs)) (r := va_up (M (0)) 0 (v)) hx hb hg in_MO ty_MO tk_MO nm_MO hown hK hP hD hS (0) (by decide) rfl rfl 0 (by decide) (hg _ (List.mem_append_right _ (List.mem_append_right _ (List.mem_append_right _ (List.mem_append_right _ (List.mem_append_right _ (List.mem_append_right _ (List.mem_append_right _ (List.mem_append_right _ (List.mem_append_right _ (List.mem_append_right _ (List.mem_append_right _ (List.mem_append_right _ (List.mem_append_right _ (List.mem_append_left _ (List.mem_of_getElem? (i := 3) rfl)))))))))))))))) (fun _ h9 => h9) rfl (by decide +kernel) rfl rfl (Nat.le_of_ble_eq_true rfl) (fun _ _ => rfl) rfl d_MO_raise_2 (fun H locs hP hD hS => ?_)
  obtain ⟨M_1, eM_1⟩ : ∃ q_, q_ = mset M (0) (0) (v) := ⟨_, rfl⟩
  have hP : va_P D vwCl (mo_w ad cs M_1) H := by rw [eM_1]; exact hP
  have hD : va_D (va_A (mo_w ad cs M) s.heap.size) (mo_w ad cs M_1) := by rw [eM_1]; exact hD
  refine z_iconst hx hb (z := 0) d_MO_raise_5 ?_
  have hM : M_1 = mset M 0 0 v := by rw [eM_1]
  have eW : mo_w ad cs (M_1) = mo_w ad cs (mset M 0 0 v) := by rw [hM]
  have hP := Eq.mp (congrArg (fun q => va_P D vwCl q _) eW) hP
  have hD := Eq.mp (congrArg (va_D _) eW) hD
  exact W.iret (v := iI (0)) hx hb hr (fun t ht hW => ⟨⟨_, (), rfl, rfl, by rw [ht]; exact hP, va_K.moved hW.alike hK, hD⟩, hS.F ht⟩) hS.2.2 d_MO_raise_6
set_option maxHeartbeats 4000000 in
set_option maxRecDepth 100000 in
/-- clear -/
theorem r_clear (l : Launch) {D : va_G} {ad : Nat → Nat} {cs : ClassId} {M : Nat → Nat → Int} (sz : Nat)  : Met l y_MO_clear ws_MO_clear ({ frames := 0, cells := 0, slots := 0, locals := 0 } : Room) (va_Pc [.ref (ad (0))] (rw_B D vwCl (mo_tys cs) (mo_w ad cs M) sz)) (va_Qv (fun _ : Unit => True) (rw_E D vwCl (mo_tys cs) (mo_w ad cs M) (mo_w ad cs (r_clr M)) sz) (va_A (mo_w ad cs M) sz)) 0 0 (va_A (mo_w ad cs M) sz) := by
  refine Met.ofW (cc := b_MO_clear) (maxL := 1) (ret := none) (by decide) rfl ?_
  intro p e s m args below meth c s₁ B hml hv
  obtain ⟨rfl, hsz, hP, hK, hD0⟩ := hv
  have hx := B.exec
  have hb := B.bytes
  have hr := B.returns
  have hts := atoms_spec (ws := ws_MO_clear) B.pre
  have hg : ∀ w ∈ gt, w.before _ s = true := fun w h => hts w (List.mem_cons_of_mem _ h)
  have hown : s.vm.findClass R_MO = some m.cls := findClass_of_methodNamed B.named
  have hlocks := B.notSynchronized
  subst hsz
  have hD := hD0.self (sz := s.heap.size)
  have hA : ∀ q : Nat, s.heap.size ≤ q → va_A (mo_w ad cs M) s.heap.size q := fun q h => Or.inr h
  have hS : va_S (va_A (mo_w ad cs M) s.heap.size) s.heap s.heap [] := va_S.rf
  have hl := lv_entry ([.ref (ad (0))]) (n := 1) (Nat.le_of_ble_eq_true rfl)
  rw [lg_entry_eq]
  generalize (lg_sl ([.ref (ad (0))]) ++ List.replicate (1 - (lg_sl ([.ref (ad (0))])).length) Slot.unset).toArray = ls at hl ⊢
  have hl : lv_has ls 1 [(0, .ref (ad (0)))] := hl
  refine lv_aload_n hx hb d_MO_clear_0 rfl (lv_at hl 0 rfl) ?_
  refine z_iconst hx hb (z := 0) d_MO_clear_1 ?_
  refine z_put (ci := 7) (C := R_MO) (T := T_MO) (N := 32) (v := .int (iI (0))) (ty := .int) (ce' := (mo_ce ad cs)) (r := va_up (M (0)) 0 (0)) hx hb hg in_MO ty_MO tk_MO nm_MO hown hK hP hD hS (0) (by decide) rfl rfl 0 (by decide) (hg _ (List.mem_append_right _ (List.mem_append_right _ (List.mem_append_right _ (List.mem_append_right _ (List.mem_append_right _ (List.mem_append_right _ (List.mem_append_right _ (List.mem_append_right _ (List.mem_append_right _ (List.mem_append_right _ (List.mem_append_right _ (List.mem_append_right _ (List.mem_append_right _ (List.mem_append_left _ (List.mem_of_getElem? (i := 3) rfl)))))))))))))))) (fun _ h9 => h9) rfl (by decide +kernel) rfl rfl (Nat.le_of_ble_eq_true rfl) (fun _ _ => rfl) rfl d_MO_clear_2 (fun H locs hP hD hS => ?_)
  obtain ⟨M_1, eM_1⟩ : ∃ q_, q_ = mset M (0) (0) (0) := ⟨_, rfl⟩
  have hP : va_P D vwCl (mo_w ad cs M_1) H := by rw [eM_1]; exact hP
  have hD : va_D (va_A (mo_w ad cs M) s.heap.size) (mo_w ad cs M_1) := by rw [eM_1]; exact hD
  refine lv_aload_n hx hb d_MO_clear_5 rfl (lv_at hl 0 rfl) ?_
  refine z_iconst hx hb (z := 0) d_MO_clear_6 ?_
  refine z_put (ci := 7) (C := R_MO) (T := T_MO) (N := 32) (v := .int (iI (0))) (ty := .int) (ce' := (mo_ce ad cs)) (r := va_up (M_1 (0)) 4 (0)) hx hb hg in_MO ty_MO tk_MO nm_MO hown hK hP hD hS (0) (by decide) rfl rfl 4 (by decide) (hg _ (List.mem_append_right _ (List.mem_append_right _ (List.mem_append_right _ (List.mem_append_right _ (List.mem_append_right _ (List.mem_append_right _ (List.mem_append_right _ (List.mem_append_right _ (List.mem_append_right _ (List.mem_append_right _ (List.mem_append_right _ (List.mem_append_right _ (List.mem_append_right _ (List.mem_append_left _ (List.mem_of_getElem? (i := 7) rfl)))))))))))))))) (fun _ h9 => h9) rfl (by decide +kernel) rfl rfl (Nat.le_of_ble_eq_true rfl) (fun _ _ => rfl) rfl d_MO_clear_7 (fun H locs hP hD hS => ?_)
  obtain ⟨M_2, eM_2⟩ : ∃ q_, q_ = mset M_1 (0) (4) (0) := ⟨_, rfl⟩
  have hP : va_P D vwCl (mo_w ad cs M_2) H := by rw [eM_2]; exact hP
  have hD : va_D (va_A (mo_w ad cs M) s.heap.size) (mo_w ad cs M_2) := by rw [eM_2]; exact hD
  refine lv_aload_n hx hb d_MO_clear_10 rfl (lv_at hl 0 rfl) ?_
  refine z_iconst hx hb (z := 0) d_MO_clear_11 ?_
  refine z_put (ci := 7) (C := R_MO) (T := T_MO) (N := 32) (v := .int (iI (0))) (ty := .boolean) (ce' := (mo_ce ad cs)) (r := va_up (M_2 (0)) 15 (0)) hx hb hg in_MO ty_MO tk_MO nm_MO hown hK hP hD hS (0) (by decide) rfl rfl 15 (by decide) (hg _ (List.mem_append_right _ (List.mem_append_right _ (List.mem_append_right _ (List.mem_append_right _ (List.mem_append_right _ (List.mem_append_right _ (List.mem_append_right _ (List.mem_append_right _ (List.mem_append_right _ (List.mem_append_right _ (List.mem_append_right _ (List.mem_append_right _ (List.mem_append_right _ (List.mem_append_left _ (List.mem_of_getElem? (i := 18) rfl)))))))))))))))) (fun _ h9 => h9) rfl (by decide +kernel) rfl rfl (Nat.le_of_ble_eq_true rfl) (fun _ _ => rfl) rfl d_MO_clear_12 (fun H locs hP hD hS => ?_)
  obtain ⟨M_3, eM_3⟩ : ∃ q_, q_ = mset M_2 (0) (15) (0) := ⟨_, rfl⟩
  have hP : va_P D vwCl (mo_w ad cs M_3) H := by rw [eM_3]; exact hP
  have hD : va_D (va_A (mo_w ad cs M) s.heap.size) (mo_w ad cs M_3) := by rw [eM_3]; exact hD
  have hM : M_3 = r_clr M := by rw [eM_3, eM_2, eM_1]; rfl
  have eW : mo_w ad cs (M_3) = mo_w ad cs (r_clr M) := by rw [hM]
  have hP := Eq.mp (congrArg (fun q => va_P D vwCl q _) eW) hP
  have hD := Eq.mp (congrArg (va_D _) eW) hD
  exact W.vret hx hb hr (fun t ht hW => ⟨⟨(), rfl, trivial, by rw [ht]; exact hP, va_K.moved hW.alike hK, hD⟩, hS.F ht⟩) hS.2.2 d_MO_clear_15
set_option maxHeartbeats 4000000 in
set_option maxRecDepth 100000 in
/-- least -/
theorem r_leastc (l : Launch) {D : va_G} {ad : Nat → Nat} {cs : ClassId} {M : Nat → Nat → Int} (w : Int) (hw : zb w) : Met l y_MO_least ws_MO_least ({ frames := 0, cells := 0, slots := 0, locals := 0 } : Room) (va_Pc [.int (iI (w))] (ro_B D vwCl (mo_tys cs) (mo_w ad cs M))) (vp_Si (fun r => r = iI (r_least w))) 0 0 (fun _ => False) := by
  refine Met.ofW (cc := b_MO_least) (maxL := 1) (ret := (some .int)) (by decide) rfl ?_
  intro p e s m args below meth c s₁ B hml hv
  obtain ⟨rfl, hP, hK⟩ := hv
  have hx := B.exec
  have hb := B.bytes
  have hr := B.returns
  have hts := atoms_spec (ws := ws_MO_least) B.pre
  have hg : ∀ w ∈ gt, w.before _ s = true := fun w h => hts w (List.mem_cons_of_mem _ h)
  have hown : s.vm.findClass R_MO = some m.cls := findClass_of_methodNamed B.named
  have hlocks := B.notSynchronized
  have hl := lv_entry ([.int (iI (w))]) (n := 1) (Nat.le_of_ble_eq_true rfl)
  rw [lg_entry_eq]
  generalize (lg_sl ([.int (iI (w))]) ++ List.replicate (1 - (lg_sl ([.int (iI (w))])).length) Slot.unset).toArray = ls at hl ⊢
  have hl : lv_has ls 1 [(0, .int (iI (w)))] := hl
  obtain ⟨hw1, hw2⟩ := hw
  refine lv_iload_n hx hb d_MO_least_0 rfl (lv_at hl 0 rfl) ?_
  refine z_iconst hx hb (z := 2) d_MO_least_1 ?_
  refine z_icmp_ne hx hb (tgt := 11) d_MO_least_2 (by decide) ⟨by omega, by omega⟩ ⟨by decide, by decide⟩ (fun c_2 => ?_) (fun c_2 => ?_)
  · refine lv_iload_n hx hb d_MO_least_11 rfl (lv_at hl 0 rfl) ?_
    refine z_bipush hx hb (z := 10) d_MO_least_12 (by decide) ?_
    refine z_icmp_ne hx hb (tgt := 21) d_MO_least_14 (by decide) ⟨by omega, by omega⟩ ⟨by decide, by decide⟩ (fun c_14 => ?_) (fun c_14 => ?_)
    · refine z_iconst hx hb (z := 0) d_MO_least_21 ?_
      exact W.iret (v := iI (0)) hx hb hr (fun t ht hW => ⟨_, rfl, congrArg iI (by unfold r_least; repeat' (first | (exfalso; omega) | omega | split)), ht⟩) (fun q h => by cases h) d_MO_least_22
    · refine z_iconst hx hb (z := 1) d_MO_least_17 ?_
      refine lv_goto (tgt := 22) hx hb d_MO_least_18 (by decide) ?_
      exact W.iret (v := iI (1)) hx hb hr (fun t ht hW => ⟨_, rfl, congrArg iI (by unfold r_least; repeat' (first | (exfalso; omega) | omega | split)), ht⟩) (fun q h => by cases h) d_MO_least_22
  · refine z_sipush hx hb (z := (-5000)) d_MO_least_5 (by decide) ?_
    refine lv_goto (tgt := 22) hx hb d_MO_least_8 (by decide) ?_
    exact W.iret (v := iI ((-5000))) hx hb hr (fun t ht hW => ⟨_, rfl, congrArg iI (by unfold r_least; repeat' (first | (exfalso; omega) | omega | split)), ht⟩) (fun q h => by cases h) d_MO_least_22
set_option maxHeartbeats 4000000 in
set_option maxRecDepth 100000 in
/-- most -/
theorem r_mostc (l : Launch) {D : va_G} {ad : Nat → Nat} {cs : ClassId} {M : Nat → Nat → Int} (w : Int) (hw : zb w) : Met l y_MO_most ws_MO_most ({ frames := 0, cells := 0, slots := 0, locals := 0 } : Room) (va_Pc [.int (iI (w))] (ro_B D vwCl (mo_tys cs) (mo_w ad cs M))) (vp_Si (fun r => r = iI (r_most w))) 0 0 (fun _ => False) := by
  refine Met.ofW (cc := b_MO_most) (maxL := 1) (ret := (some .int)) (by decide) rfl ?_
  intro p e s m args below meth c s₁ B hml hv
  obtain ⟨rfl, hP, hK⟩ := hv
  have hx := B.exec
  have hb := B.bytes
  have hr := B.returns
  have hts := atoms_spec (ws := ws_MO_most) B.pre
  have hg : ∀ w ∈ gt, w.before _ s = true := fun w h => hts w (List.mem_cons_of_mem _ h)
  have hown : s.vm.findClass R_MO = some m.cls := findClass_of_methodNamed B.named
  have hlocks := B.notSynchronized
  have hl := lv_entry ([.int (iI (w))]) (n := 1) (Nat.le_of_ble_eq_true rfl)
  rw [lg_entry_eq]
  generalize (lg_sl ([.int (iI (w))]) ++ List.replicate (1 - (lg_sl ([.int (iI (w))])).length) Slot.unset).toArray = ls at hl ⊢
  have hl : lv_has ls 1 [(0, .int (iI (w)))] := hl
  obtain ⟨hw1, hw2⟩ := hw
  refine lv_iload_n hx hb d_MO_most_0 rfl (lv_at hl 0 rfl) ?_
  refine z_iconst hx hb (z := 5) d_MO_most_1 ?_
  refine z_icmp_ge hx hb (tgt := 11) d_MO_most_2 (by decide) ⟨by omega, by omega⟩ ⟨by decide, by decide⟩ (fun c_2 => ?_) (fun c_2 => ?_)
  · refine lv_iload_n hx hb d_MO_most_11 rfl (lv_at hl 0 rfl) ?_
    refine z_iconst hx hb (z := 5) d_MO_most_12 ?_
    refine z_icmp_ne hx hb (tgt := 20) d_MO_most_13 (by decide) ⟨by omega, by omega⟩ ⟨by decide, by decide⟩ (fun c_13 => ?_) (fun c_13 => ?_)
    · refine lv_iload_n hx hb d_MO_most_20 rfl (lv_at hl 0 rfl) ?_
      refine z_bipush hx hb (z := 10) d_MO_most_21 (by decide) ?_
      refine z_icmp_ge hx hb (tgt := 30) d_MO_most_23 (by decide) ⟨by omega, by omega⟩ ⟨by decide, by decide⟩ (fun c_23 => ?_) (fun c_23 => ?_)
      · refine z_sipush hx hb (z := 2000) d_MO_most_30 (by decide) ?_
        exact W.iret (v := iI (2000)) hx hb hr (fun t ht hW => ⟨_, rfl, congrArg iI (by unfold r_most; repeat' (first | (exfalso; omega) | omega | split)), ht⟩) (fun q h => by cases h) d_MO_most_33
      · refine z_iconst hx hb (z := 1) d_MO_most_26 ?_
        refine lv_goto (tgt := 33) hx hb d_MO_most_27 (by decide) ?_
        exact W.iret (v := iI (1)) hx hb hr (fun t ht hW => ⟨_, rfl, congrArg iI (by unfold r_most; repeat' (first | (exfalso; omega) | omega | split)), ht⟩) (fun q h => by cases h) d_MO_most_33
    · refine z_iconst hx hb (z := 3) d_MO_most_16 ?_
      refine lv_goto (tgt := 33) hx hb d_MO_most_17 (by decide) ?_
      exact W.iret (v := iI (3)) hx hb hr (fun t ht hW => ⟨_, rfl, congrArg iI (by unfold r_most; repeat' (first | (exfalso; omega) | omega | split)), ht⟩) (fun q h => by cases h) d_MO_most_33
  · refine z_sipush hx hb (z := 5000) d_MO_most_5 (by decide) ?_
    refine lv_goto (tgt := 33) hx hb d_MO_most_8 (by decide) ?_
    exact W.iret (v := iI (5000)) hx hb hr (fun t ht hW => ⟨_, rfl, congrArg iI (by unfold r_most; repeat' (first | (exfalso; omega) | omega | split)), ht⟩) (fun q h => by cases h) d_MO_most_33
set_option maxHeartbeats 4000000 in
set_option maxRecDepth 100000 in
/-- isParagraph -/
theorem r_isPar (l : Launch) {D : va_G} {ad : Nat → Nat} {cs : ClassId} {M : Nat → Nat → Int} (np : Nat) (x : Int) (hx0 : zb x) (hnp : M 0 4 = ((np : Nat) : Int)) (hn : np ≤ 30) : Met l y_MO_isParagraph ws_MO_isParagraph ({ frames := 1, cells := 0, slots := 0, locals := 22 } : Room) (va_Pc [.ref (ad (0)), .int (iI (x))] (ro_B D vwCl (mo_tys cs) (mo_w ad cs M))) (vp_Si (fun r => r = iI (bz (inn x 0 (((np : Nat) : Int) - 1)) inferInstance))) 0 0 (fun _ => False) := by
  refine Met.ofW (cc := b_MO_isParagraph) (maxL := 2) (ret := (some .boolean)) (by decide) rfl ?_
  intro p e s m args below meth c s₁ B hml hv
  obtain ⟨rfl, hP, hK⟩ := hv
  have hx := B.exec
  have hb := B.bytes
  have hr := B.returns
  have hts := atoms_spec (ws := ws_MO_isParagraph) B.pre
  have hg : ∀ w ∈ gt, w.before _ s = true := fun w h => hts w (List.mem_cons_of_mem _ h)
  have hown : s.vm.findClass R_MO = some m.cls := findClass_of_methodNamed B.named
  have hlocks := B.notSynchronized
  have hl := lv_entry ([.ref (ad (0)), .int (iI (x))]) (n := 2) (Nat.le_of_ble_eq_true rfl)
  rw [lg_entry_eq]
  generalize (lg_sl ([.ref (ad (0)), .int (iI (x))]) ++ List.replicate (2 - (lg_sl ([.ref (ad (0)), .int (iI (x))])).length) Slot.unset).toArray = ls at hl ⊢
  have hl : lv_has ls 2 [(0, .ref (ad (0))), (1, .int (iI (x)))] := hl
  obtain ⟨hx1, hx2⟩ := hx0
  refine lv_iload_n hx hb d_MO_isParagraph_0 rfl (lv_at hl 1 rfl) ?_
  refine z_iconst hx hb (z := 0) d_MO_isParagraph_1 ?_
  refine lv_aload_n hx hb d_MO_isParagraph_2 rfl (lv_at hl 0 rfl) ?_
  refine z_get (ci := 7) (C := R_MO) (T := T_MO) (N := 32) (v := .int (iI (M (0) 4))) hx hb hg in_MO hown hK hP (0) (by decide) rfl rfl 4 (by decide) (hg _ (List.mem_append_right _ (List.mem_append_right _ (List.mem_append_right _ (List.mem_append_right _ (List.mem_append_right _ (List.mem_append_right _ (List.mem_append_right _ (List.mem_append_right _ (List.mem_append_right _ (List.mem_append_right _ (List.mem_append_right _ (List.mem_append_right _ (List.mem_append_right _ (List.mem_append_left _ (List.mem_of_getElem? (i := 7) rfl)))))))))))))))) (fun _ h9 => h9) rfl d_MO_isParagraph_3 ?_
  refine lv_topi (fun y_ ey => ?_)
  have ey := ey.trans (congrArg iI hnp)
  subst ey
  refine z_iconst hx hb (z := 1) d_MO_isParagraph_6 ?_
  refine z_isub hx hb d_MO_isParagraph_7 (v := (((np : Nat) : Int) - 1)) rfl ?_
  refine ro_S (As := [.int (iI (x)), .int (iI (0)), .int (iI ((((np : Nat) : Int) - 1)))]) (rest := []) (z := bz (inn (x) (0) ((((np : Nat) : Int) - 1))) inferInstance) ⟨hx, hb, hml, hown, hg⟩ (r_in l (x) (0) ((((np : Nat) : Int) - 1)) ⟨by omega, by omega⟩ ⟨by decide, by decide⟩ ⟨by omega, by omega⟩) (cwS 3 hg (gt_S (List.mem_append_right _ (List.mem_append_right _ (List.mem_append_right _ (List.mem_append_right _ (List.mem_append_right _ (List.mem_append_right _ (List.mem_append_right _ (List.mem_append_right _ (List.mem_append_right _ (List.mem_append_right _ (List.mem_append_right _ (List.mem_append_right _ (List.mem_append_right _ (List.mem_append_right _ (List.mem_append_right _ (List.mem_append_left _ (List.mem_of_getElem? (i := 3) rfl))))))))))))))))) (List.mem_append_right _ (List.mem_append_right _ (List.mem_append_right _ (List.mem_append_right _ (List.mem_append_right _ (List.mem_append_right _ (List.mem_append_right _ (List.mem_append_right _ (List.mem_append_right _ (List.mem_append_right _ (List.mem_append_right _ (List.mem_append_right _ (List.mem_append_right _ (List.mem_append_right _ (List.mem_append_right _ (List.mem_append_left _ (List.mem_of_getElem? (i := 4) rfl))))))))))))))))) (List.mem_append_right _ (List.mem_append_left _ (List.mem_of_getElem? (i := 9) rfl))) (List.mem_append_right _ (List.mem_append_right _ (List.mem_append_right _ (List.mem_append_right _ (List.mem_append_right _ (List.mem_append_right _ (List.mem_append_right _ (List.mem_append_right _ (List.mem_append_right _ (List.mem_append_right _ (List.mem_append_right _ (List.mem_append_right _ (List.mem_append_right _ (List.mem_append_right _ (List.mem_append_right _ (List.mem_append_left _ (List.mem_of_getElem? (i := 5) rfl)))))))))))))))))) rfl rfl rfl (by decide +kernel) ⟨Nat.le_of_ble_eq_true rfl, Nat.le_of_ble_eq_true rfl⟩) hK hP rfl hl.1 rfl (Nat.le_of_ble_eq_true rfl) d_MO_isParagraph_8 ⟨Nat.zero_le _, Nat.zero_le _⟩ ?_
  exact W.zret (v := iI (bz (inn (x) (0) ((((np : Nat) : Int) - 1))) inferInstance)) hx hb hr z_nb (fun t ht hW => ⟨_, rfl, rfl, ht⟩) (fun q h => by cases h) d_MO_isParagraph_11
set_option maxHeartbeats 4000000 in
set_option maxRecDepth 100000 in
/-- isPage -/
theorem r_isPage (l : Launch) {D : va_G} {ad : Nat → Nat} {cs : ClassId} {M : Nat → Nat → Int} (x : Int) (hx0 : zb x) (hG : rG M) : Met l y_MO_isPage ws_MO_isPage ({ frames := 1, cells := 0, slots := 0, locals := 22 } : Room) (va_Pc [.ref (ad (0)), .int (iI (x))] (ro_B D vwCl (mo_tys cs) (mo_w ad cs M))) (vp_Si (fun r => r = iI (bz (r_isp M x) inferInstance))) 0 0 (fun _ => False) := by
  refine Met.ofW (cc := b_MO_isPage) (maxL := 2) (ret := (some .boolean)) (by decide) rfl ?_
  intro p e s m args below meth c s₁ B hml hv
  obtain ⟨rfl, hP, hK⟩ := hv
  have hx := B.exec
  have hb := B.bytes
  have hr := B.returns
  have hts := atoms_spec (ws := ws_MO_isPage) B.pre
  have hg : ∀ w ∈ gt, w.before _ s = true := fun w h => hts w (List.mem_cons_of_mem _ h)
  have hown : s.vm.findClass R_MO = some m.cls := findClass_of_methodNamed B.named
  have hlocks := B.notSynchronized
  have hl := lv_entry ([.ref (ad (0)), .int (iI (x))]) (n := 2) (Nat.le_of_ble_eq_true rfl)
  rw [lg_entry_eq]
  generalize (lg_sl ([.ref (ad (0)), .int (iI (x))]) ++ List.replicate (2 - (lg_sl ([.ref (ad (0)), .int (iI (x))])).length) Slot.unset).toArray = ls at hl ⊢
  have hl : lv_has ls 2 [(0, .ref (ad (0))), (1, .int (iI (x)))] := hl
  obtain ⟨hx1, hx2⟩ := hx0
  have hg1 := hG.1
  have hg2 := hG.2.1
  have hg3 := hG.2.2.1
  refine lv_aload_n hx hb d_MO_isPage_0 rfl (lv_at hl 0 rfl) ?_
  refine z_get (ci := 7) (C := R_MO) (T := T_MO) (N := 32) (v := .int (iI (M (0) 15))) hx hb hg in_MO hown hK hP (0) (by decide) rfl rfl 15 (by decide) (hg _ (List.mem_append_right _ (List.mem_append_right _ (List.mem_append_right _ (List.mem_append_right _ (List.mem_append_right _ (List.mem_append_right _ (List.mem_append_right _ (List.mem_append_right _ (List.mem_append_right _ (List.mem_append_right _ (List.mem_append_right _ (List.mem_append_right _ (List.mem_append_right _ (List.mem_append_left _ (List.mem_of_getElem? (i := 18) rfl)))))))))))))))) (fun _ h9 => h9) rfl d_MO_isPage_1 ?_
  refine z_if_eq hx hb (tgt := 25) d_MO_isPage_4 (by decide) ⟨by omega, by omega⟩ (fun c_4 => ?_) (fun c_4 => ?_)
  · refine z_iconst hx hb (z := 0) d_MO_isPage_25 ?_
    exact W.zret (v := iI (0)) hx hb hr (by first | rfl | decide) (fun t ht hW => ⟨_, rfl, by rw [bz_f (fun h => by omega)], ht⟩) (fun q h => by cases h) d_MO_isPage_26
  · refine lv_iload_n hx hb d_MO_isPage_7 rfl (lv_at hl 1 rfl) ?_
    refine z_iconst hx hb (z := 0) d_MO_isPage_8 ?_
    refine lv_aload_n hx hb d_MO_isPage_9 rfl (lv_at hl 0 rfl) ?_
    refine z_get (ci := 7) (C := R_MO) (T := T_MO) (N := 32) (v := .int (iI (M (0) 30))) hx hb hg in_MO hown hK hP (0) (by decide) rfl rfl 30 (by decide) (hg _ (List.mem_append_right _ (List.mem_append_right _ (List.mem_append_right _ (List.mem_append_right _ (List.mem_append_right _ (List.mem_append_right _ (List.mem_append_right _ (List.mem_append_right _ (List.mem_append_right _ (List.mem_append_right _ (List.mem_append_right _ (List.mem_append_right _ (List.mem_append_right _ (List.mem_append_left _ (List.mem_of_getElem? (i := 33) rfl)))))))))))))))) (fun _ h9 => h9) rfl d_MO_isPage_10 ?_
    refine z_iconst hx hb (z := 1) d_MO_isPage_13 ?_
    refine z_isub hx hb d_MO_isPage_14 (v := (M (0) 30 - 1)) rfl ?_
    refine ro_S (As := [.int (iI (x)), .int (iI (0)), .int (iI ((M (0) 30 - 1)))]) (rest := []) (z := bz (inn (x) (0) ((M (0) 30 - 1))) inferInstance) ⟨hx, hb, hml, hown, hg⟩ (r_in l (x) (0) ((M (0) 30 - 1)) ⟨by omega, by omega⟩ ⟨by decide, by decide⟩ ⟨by omega, by omega⟩) (cwS 3 hg (gt_S (List.mem_append_right _ (List.mem_append_right _ (List.mem_append_right _ (List.mem_append_right _ (List.mem_append_right _ (List.mem_append_right _ (List.mem_append_right _ (List.mem_append_right _ (List.mem_append_right _ (List.mem_append_right _ (List.mem_append_right _ (List.mem_append_right _ (List.mem_append_right _ (List.mem_append_right _ (List.mem_append_right _ (List.mem_append_left _ (List.mem_of_getElem? (i := 3) rfl))))))))))))))))) (List.mem_append_right _ (List.mem_append_right _ (List.mem_append_right _ (List.mem_append_right _ (List.mem_append_right _ (List.mem_append_right _ (List.mem_append_right _ (List.mem_append_right _ (List.mem_append_right _ (List.mem_append_right _ (List.mem_append_right _ (List.mem_append_right _ (List.mem_append_right _ (List.mem_append_right _ (List.mem_append_right _ (List.mem_append_left _ (List.mem_of_getElem? (i := 4) rfl))))))))))))))))) (List.mem_append_right _ (List.mem_append_left _ (List.mem_of_getElem? (i := 9) rfl))) (List.mem_append_right _ (List.mem_append_right _ (List.mem_append_right _ (List.mem_append_right _ (List.mem_append_right _ (List.mem_append_right _ (List.mem_append_right _ (List.mem_append_right _ (List.mem_append_right _ (List.mem_append_right _ (List.mem_append_right _ (List.mem_append_right _ (List.mem_append_right _ (List.mem_append_right _ (List.mem_append_right _ (List.mem_append_left _ (List.mem_of_getElem? (i := 5) rfl)))))))))))))))))) rfl rfl rfl (by decide +kernel) ⟨Nat.le_of_ble_eq_true rfl, Nat.le_of_ble_eq_true rfl⟩) hK hP rfl hl.1 rfl (Nat.le_of_ble_eq_true rfl) d_MO_isPage_15 ⟨Nat.zero_le _, Nat.zero_le _⟩ ?_
    refine z_ifb_eq hx hb (tgt := 25) d_MO_isPage_18 (by decide) (fun c_18 => ?_) (fun c_18 => ?_)
    · refine z_iconst hx hb (z := 0) d_MO_isPage_25 ?_
      exact W.zret (v := iI (0)) hx hb hr (by first | rfl | decide) (fun t ht hW => ⟨_, rfl, by rw [bz_f (fun h => c_18 h.2)], ht⟩) (fun q h => by cases h) d_MO_isPage_26
    · refine z_iconst hx hb (z := 1) d_MO_isPage_21 ?_
      refine lv_goto (tgt := 26) hx hb d_MO_isPage_22 (by decide) ?_
      exact W.zret (v := iI (1)) hx hb hr (by first | rfl | decide) (fun t ht hW => ⟨_, rfl, by rw [bz_t ⟨by omega, c_18⟩], ht⟩) (fun q h => by cases h) d_MO_isPage_26
set_option maxHeartbeats 4000000 in
set_option maxRecDepth 100000 in
theorem lr_par {p : Program} {l : Launch} {e : Env} {s : State} {m : MethodId} {args : Array Value} {below : List Frame} {meth : Method} {c : Code} {Q : State → Prop} {A : Nat → Prop} {H0 : Heap} {D : va_G} {ad : Nat → Nat} {cs : ClassId} (hx : p.tables.exec = Jvm.exec) (hb : c.code = b_MO_paragraph) (hml : c.maxLocals = 3) (hg : ∀ w ∈ gt, w.before args s = true) (hown : s.vm.findClass R_MO = some m.cls) (hK : va_K D vwCl (mo_tys cs) s) (hA : ∀ q, H0.size ≤ q → A q) (q : Nat) (hq : q < 30) (MF : Nat → Nat → Int) (kk : ∀ (H : Heap) (locs : List Loc) (ls : Array Slot), va_P D vwCl (mo_w ad cs MF) H → va_D A (mo_w ad cs MF) → va_S A H0 H locs → lv_has ls 3 [(1, .int (iI (((q : Nat) : Int)))), (0, .ref (ad (0)))] → W p l e ({ frames := 0, cells := 0, slots := 0, locals := 0 } : Room) s m args below meth c H locs 0 0 Q (F0 m 93 ls [])) : ∀ (f k : Nat) (M : Nat → Nat → Int), k + f = 11 → r_shl q f k M = MF → ∀ (H : Heap) (locs : List Loc) (ls : Array Slot), va_P D vwCl (mo_w ad cs M) H → va_D A (mo_w ad cs M) → va_S A H0 H locs → lv_has ls 3 [(2, .int (iI (((k : Nat) : Int)))), (1, .int (iI (((q : Nat) : Int)))), (0, .ref (ad (0)))] → W p l e ({ frames := 0, cells := 0, slots := 0, locals := 0 } : Room) s m args below meth c H locs 0 0 Q (F0 m 59 ls []) := by
  intro f
  induction f with
  | zero =>
    intro k M hf he H locs ls hP hD hS hl
    refine lv_iload_n hx hb d_MO_paragraph_59 rfl (lv_at hl 0 rfl) ?_
    refine z_bipush hx hb (z := 11) d_MO_paragraph_60 (by decide) ?_
    refine z_icmp_ge hx hb (tgt := 93) d_MO_paragraph_62 (by decide) ⟨by omega, by omega⟩ ⟨by decide, by decide⟩ (fun c_62 => ?_) (fun c_62 => ?_)
    · have he : M = MF := he
      subst he
      exact kk H locs ls hP hD hS (lv_sub hl [1, 2] rfl)
    · exact absurd c_62 (by omega)
  | succ f ih =>
    intro k M hf he H locs ls hP hD hS hl
    refine lv_iload_n hx hb d_MO_paragraph_59 rfl (lv_at hl 0 rfl) ?_
    refine z_bipush hx hb (z := 11) d_MO_paragraph_60 (by decide) ?_
    refine z_icmp_ge hx hb (tgt := 93) d_MO_paragraph_62 (by decide) ⟨by omega, by omega⟩ ⟨by decide, by decide⟩ (fun c_62 => ?_) (fun c_62 => ?_)
    · exact absurd c_62 (by omega)
    · refine lv_aload_n hx hb d_MO_paragraph_65 rfl (lv_at hl 2 rfl) ?_
      refine z_get (ci := 7) (C := R_MO) (T := T_MO) (N := 32) (v := .ref (ad (2))) hx hb hg in_MO hown hK hP (0) (by decide) rfl rfl 6 (by decide) (hg _ (List.mem_append_right _ (List.mem_append_right _ (List.mem_append_right _ (List.mem_append_right _ (List.mem_append_right _ (List.mem_append_right _ (List.mem_append_right _ (List.mem_append_right _ (List.mem_append_right _ (List.mem_append_right _ (List.mem_append_right _ (List.mem_append_right _ (List.mem_append_right _ (List.mem_append_left _ (List.mem_of_getElem? (i := 9) rfl)))))))))))))))) (fun _ h9 => h9) rfl d_MO_paragraph_66 ?_
      refine z_bipush hx hb (z := 11) d_MO_paragraph_69 (by decide) ?_
      refine lv_iload_n hx hb d_MO_paragraph_71 rfl (lv_at hl 1 rfl) ?_
      refine z_imul hx hb d_MO_paragraph_72 (v := ((11 * q : Nat) : Int)) (by omega) ?_
      refine lv_iload_n hx hb d_MO_paragraph_73 rfl (lv_at hl 0 rfl) ?_
      refine z_iadd hx hb d_MO_paragraph_74 (v := ((11 * q + k : Nat) : Int)) (by omega) ?_
      refine lv_iload_n hx hb d_MO_paragraph_75 rfl (lv_at hl 0 rfl) ?_
      refine z_bipush hx hb (z := 10) d_MO_paragraph_76 (by decide) ?_
      refine z_icmp_ne hx hb (tgt := 85) d_MO_paragraph_78 (by decide) ⟨by omega, by omega⟩ ⟨by decide, by decide⟩ (fun c_78 => ?_) (fun c_78 => ?_)
      · refine z_iconst hx hb (z := 0) d_MO_paragraph_85 ?_
        refine z_iast hx hb hK hP hD hS (2) 0 (by decide) (fun _ => rfl) rfl (v := 0) (11 * q + k) rfl (by omega) (by decide) d_MO_paragraph_86 (fun H locs hP hD hS => ?_)
        obtain ⟨M_1, eM_1⟩ : ∃ q_, q_ = mset M (2) (11 * q + k) (0) := ⟨_, rfl⟩
        have hP : va_P D vwCl (mo_w ad cs M_1) H := by rw [eM_1]; exact hP
        have hD : va_D A (mo_w ad cs M_1) := by rw [eM_1]; exact hD
        refine z_iinc (v := ((k + 1 : Nat) : Int)) (lv' := [(2, .int (iI (((k + 1 : Nat) : Int)))), (1, .int (iI (((q : Nat) : Int)))), (0, .ref (ad (0)))]) hx hb d_MO_paragraph_87 hl (k := 0) rfl (by omega) (by decide) rfl (fun ls hl => ?_)
        refine lv_goto (tgt := 59) hx hb d_MO_paragraph_90 (by decide) ?_
        exact ih (k + 1) M_1 (by omega) (by rw [← he, eM_1]; conv => rhs; unfold r_shl; rw [if_neg (by omega)]) H locs ls hP hD hS (lv_sub hl [0, 1, 2] rfl)
      · refine z_iconst hx hb (z := 1) d_MO_paragraph_81 ?_
        refine lv_goto (tgt := 86) hx hb d_MO_paragraph_82 (by decide) ?_
        refine z_iast hx hb hK hP hD hS (2) 0 (by decide) (fun _ => rfl) rfl (v := 1) (11 * q + k) rfl (by omega) (by decide) d_MO_paragraph_86 (fun H locs hP hD hS => ?_)
        obtain ⟨M_2, eM_2⟩ : ∃ q_, q_ = mset M (2) (11 * q + k) (1) := ⟨_, rfl⟩
        have hP : va_P D vwCl (mo_w ad cs M_2) H := by rw [eM_2]; exact hP
        have hD : va_D A (mo_w ad cs M_2) := by rw [eM_2]; exact hD
        refine z_iinc (v := ((k + 1 : Nat) : Int)) (lv' := [(2, .int (iI (((k + 1 : Nat) : Int)))), (1, .int (iI (((q : Nat) : Int)))), (0, .ref (ad (0)))]) hx hb d_MO_paragraph_87 hl (k := 0) rfl (by omega) (by decide) rfl (fun ls hl => ?_)
        refine lv_goto (tgt := 59) hx hb d_MO_paragraph_90 (by decide) ?_
        exact ih (k + 1) M_2 (by omega) (by rw [← he, eM_2]; conv => rhs; unfold r_shl; rw [if_pos (by omega)]) H locs ls hP hD hS (lv_sub hl [0, 1, 2] rfl)
set_option maxHeartbeats 4000000 in
set_option maxRecDepth 100000 in
/-- paragraph -/
theorem r_paragraph (l : Launch) {D : va_G} {ad : Nat → Nat} {cs : ClassId} {M : Nat → Nat → Int} (sz : Nat) (np : Nat) (hnp : M 0 4 = ((np : Nat) : Int)) (hn : np ≤ 30) : Met l y_MO_paragraph ws_MO_paragraph ({ frames := 0, cells := 0, slots := 0, locals := 0 } : Room) (va_Pc [.ref (ad (0))] (rw_B D vwCl (mo_tys cs) (mo_w ad cs M) sz)) (va_Qi (fun (r : Int32) (_ : Unit) => r = iI (if np = 30 then 0 else ((np : Nat) : Int))) (rw_E D vwCl (mo_tys cs) (mo_w ad cs M) (mo_w ad cs (if np = 30 then mset M 0 0 1 else r_pa M np)) sz) (va_A (mo_w ad cs M) sz)) 0 0 (va_A (mo_w ad cs M) sz) := by
  refine Met.ofW (cc := b_MO_paragraph) (maxL := 3) (ret := (some .int)) (by decide) rfl ?_
  intro p e s m args below meth c s₁ B hml hv
  obtain ⟨rfl, hsz, hP, hK, hD0⟩ := hv
  have hx := B.exec
  have hb := B.bytes
  have hr := B.returns
  have hts := atoms_spec (ws := ws_MO_paragraph) B.pre
  have hg : ∀ w ∈ gt, w.before _ s = true := fun w h => hts w (List.mem_cons_of_mem _ h)
  have hown : s.vm.findClass R_MO = some m.cls := findClass_of_methodNamed B.named
  have hlocks := B.notSynchronized
  subst hsz
  have hD := hD0.self (sz := s.heap.size)
  have hA : ∀ q : Nat, s.heap.size ≤ q → va_A (mo_w ad cs M) s.heap.size q := fun q h => Or.inr h
  have hS : va_S (va_A (mo_w ad cs M) s.heap.size) s.heap s.heap [] := va_S.rf
  have hl := lv_entry ([.ref (ad (0))]) (n := 3) (Nat.le_of_ble_eq_true rfl)
  rw [lg_entry_eq]
  generalize (lg_sl ([.ref (ad (0))]) ++ List.replicate (3 - (lg_sl ([.ref (ad (0))])).length) Slot.unset).toArray = ls at hl ⊢
  have hl : lv_has ls 3 [(0, .ref (ad (0)))] := hl
  refine lv_aload_n hx hb d_MO_paragraph_0 rfl (lv_at hl 0 rfl) ?_
  refine lv_aload_n hx hb d_MO_paragraph_1 rfl (lv_at hl 0 rfl) ?_
  refine z_get (ci := 7) (C := R_MO) (T := T_MO) (N := 32) (v := .int (iI (M (0) 4))) hx hb hg in_MO hown hK hP (0) (by decide) rfl rfl 4 (by decide) (hg _ (List.mem_append_right _ (List.mem_append_right _ (List.mem_append_right _ (List.mem_append_right _ (List.mem_append_right _ (List.mem_append_right _ (List.mem_append_right _ (List.mem_append_right _ (List.mem_append_right _ (List.mem_append_right _ (List.mem_append_right _ (List.mem_append_right _ (List.mem_append_right _ (List.mem_append_left _ (List.mem_of_getElem? (i := 7) rfl)))))))))))))))) (fun _ h9 => h9) rfl d_MO_paragraph_2 ?_
  refine z_bipush hx hb (z := 30) d_MO_paragraph_5 (by decide) ?_
  refine z_icmp_ne hx hb (tgt := 14) d_MO_paragraph_7 (by decide) ⟨by omega, by omega⟩ ⟨by decide, by decide⟩ (fun c_7 => ?_) (fun c_7 => ?_)
  · refine z_iconst hx hb (z := 0) d_MO_paragraph_14 ?_
    refine z_put (ci := 7) (C := R_MO) (T := T_MO) (N := 32) (v := .int (iI (0))) (ty := .int) (ce' := (mo_ce ad cs)) (r := va_up (M (0)) 0 (0)) hx hb hg in_MO ty_MO tk_MO nm_MO hown hK hP hD hS (0) (by decide) rfl rfl 0 (by decide) (hg _ (List.mem_append_right _ (List.mem_append_right _ (List.mem_append_right _ (List.mem_append_right _ (List.mem_append_right _ (List.mem_append_right _ (List.mem_append_right _ (List.mem_append_right _ (List.mem_append_right _ (List.mem_append_right _ (List.mem_append_right _ (List.mem_append_right _ (List.mem_append_right _ (List.mem_append_left _ (List.mem_of_getElem? (i := 3) rfl)))))))))))))))) (fun _ h9 => h9) rfl (by decide +kernel) rfl rfl (Nat.le_of_ble_eq_true rfl) (fun _ _ => rfl) rfl d_MO_paragraph_15 (fun H locs hP hD hS => ?_)
    obtain ⟨M_1, eM_1⟩ : ∃ q_, q_ = mset M (0) (0) (0) := ⟨_, rfl⟩
    have hP : va_P D vwCl (mo_w ad cs M_1) H := by rw [eM_1]; exact hP
    have hD : va_D (va_A (mo_w ad cs M) s.heap.size) (mo_w ad cs M_1) := by rw [eM_1]; exact hD
    have g0 : M_1 0 0 = 0 := by rw [eM_1]; exact mset_same _ _ _ _
    have g4 : M_1 0 4 = ((np : Nat) : Int) := by rw [eM_1, mset_at, va_up_ne _ _ (by omega)]; exact hnp
    refine lv_aload_n hx hb d_MO_paragraph_18 rfl (lv_at hl 0 rfl) ?_
    refine z_get (ci := 7) (C := R_MO) (T := T_MO) (N := 32) (v := .int (iI (M_1 (0) 0))) hx hb hg in_MO hown hK hP (0) (by decide) rfl rfl 0 (by decide) (hg _ (List.mem_append_right _ (List.mem_append_right _ (List.mem_append_right _ (List.mem_append_right _ (List.mem_append_right _ (List.mem_append_right _ (List.mem_append_right _ (List.mem_append_right _ (List.mem_append_right _ (List.mem_append_right _ (List.mem_append_right _ (List.mem_append_right _ (List.mem_append_right _ (List.mem_append_left _ (List.mem_of_getElem? (i := 3) rfl)))))))))))))))) (fun _ h9 => h9) rfl d_MO_paragraph_19 ?_
    refine z_if_le hx hb (tgt := 27) d_MO_paragraph_22 (by decide) ⟨by omega, by omega⟩ (fun c_22 => ?_) (fun c_22 => ?_)
    · have hn3 : np < 30 := by omega
      refine lv_aload_n hx hb d_MO_paragraph_27 rfl (lv_at hl 0 rfl) ?_
      refine z_get (ci := 7) (C := R_MO) (T := T_MO) (N := 32) (v := .int (iI (M_1 (0) 4))) hx hb hg in_MO hown hK hP (0) (by decide) rfl rfl 4 (by decide) (hg _ (List.mem_append_right _ (List.mem_append_right _ (List.mem_append_right _ (List.mem_append_right _ (List.mem_append_right _ (List.mem_append_right _ (List.mem_append_right _ (List.mem_append_right _ (List.mem_append_right _ (List.mem_append_right _ (List.mem_append_right _ (List.mem_append_right _ (List.mem_append_right _ (List.mem_append_left _ (List.mem_of_getElem? (i := 7) rfl)))))))))))))))) (fun _ h9 => h9) rfl d_MO_paragraph_28 ?_
      refine lv_topi (fun y_ ey => ?_)
      have ey := ey.trans (congrArg iI g4)
      subst ey
      refine lv_istore_n (lv' := [(1, .int (iI (((np : Nat) : Int)))), (0, .ref (ad (0)))]) hx hb d_MO_paragraph_31 rfl hl (by decide) rfl (fun ls hl => ?_)
      refine lv_iload_n hx hb d_MO_paragraph_32 rfl (lv_at hl 0 rfl) ?_
      refine z_if_ne hx hb (tgt := 43) d_MO_paragraph_33 (by decide) ⟨by omega, by omega⟩ (fun c_33 => ?_) (fun c_33 => ?_)
      · have hpab : M_1 = r_pab (mset M 0 0 0) np := by rw [eM_1]; unfold r_pab; rw [if_neg (by omega)]
        refine lv_aload_n hx hb d_MO_paragraph_43 rfl (lv_at hl 1 rfl) ?_
        refine z_get (ci := 7) (C := R_MO) (T := T_MO) (N := 32) (v := .ref (ad (1))) hx hb hg in_MO hown hK hP (0) (by decide) rfl rfl 5 (by decide) (hg _ (List.mem_append_right _ (List.mem_append_right _ (List.mem_append_right _ (List.mem_append_right _ (List.mem_append_right _ (List.mem_append_right _ (List.mem_append_right _ (List.mem_append_right _ (List.mem_append_right _ (List.mem_append_right _ (List.mem_append_right _ (List.mem_append_right _ (List.mem_append_right _ (List.mem_append_left _ (List.mem_of_getElem? (i := 8) rfl)))))))))))))))) (fun _ h9 => h9) rfl d_MO_paragraph_44 ?_
        refine lv_iload_n hx hb d_MO_paragraph_47 rfl (lv_at hl 0 rfl) ?_
        refine z_iconst hx hb (z := 1) d_MO_paragraph_48 ?_
        refine z_iadd hx hb d_MO_paragraph_49 (v := ((np + 1 : Nat) : Int)) (by omega) ?_
        refine lv_aload_n hx hb d_MO_paragraph_50 rfl (lv_at hl 1 rfl) ?_
        refine z_get (ci := 7) (C := R_MO) (T := T_MO) (N := 32) (v := .ref (ad (1))) hx hb hg in_MO hown hK hP (0) (by decide) rfl rfl 5 (by decide) (hg _ (List.mem_append_right _ (List.mem_append_right _ (List.mem_append_right _ (List.mem_append_right _ (List.mem_append_right _ (List.mem_append_right _ (List.mem_append_right _ (List.mem_append_right _ (List.mem_append_right _ (List.mem_append_right _ (List.mem_append_right _ (List.mem_append_right _ (List.mem_append_right _ (List.mem_append_left _ (List.mem_of_getElem? (i := 8) rfl)))))))))))))))) (fun _ h9 => h9) rfl d_MO_paragraph_51 ?_
        refine lv_iload_n hx hb d_MO_paragraph_54 rfl (lv_at hl 0 rfl) ?_
        refine z_iald hx hb hK hP (1) 0 (by decide) (fun _ => rfl) rfl (np) rfl (by omega) (by decide) d_MO_paragraph_55 ?_
        refine z_iast hx hb hK hP hD hS (1) 0 (by decide) (fun _ => rfl) rfl (v := M_1 (1) (np)) (np + 1) rfl (by omega) (by decide) d_MO_paragraph_56 (fun H locs hP hD hS => ?_)
        obtain ⟨M_2, eM_2⟩ : ∃ q_, q_ = mset M_1 (1) (np + 1) (M_1 (1) (np)) := ⟨_, rfl⟩
        have hP : va_P D vwCl (mo_w ad cs M_2) H := by rw [eM_2]; exact hP
        have hD : va_D (va_A (mo_w ad cs M) s.heap.size) (mo_w ad cs M_2) := by rw [eM_2]; exact hD
        have hpa1 : M_2 = r_pa1 M np := by rw [eM_2, hpab]; rfl
        refine z_iconst hx hb (z := 0) d_MO_paragraph_57 ?_
        refine lv_istore_n (lv' := [(2, .int (iI (0))), (1, .int (iI (((np : Nat) : Int)))), (0, .ref (ad (0)))]) hx hb d_MO_paragraph_58 rfl hl (by decide) rfl (fun ls hl => ?_)
        obtain ⟨MG, eMG⟩ : ∃ q_, q_ = r_shl np 11 0 (r_pa1 M np) := ⟨_, rfl⟩
        have h04 : MG 0 4 = ((np : Nat) : Int) := by rw [eMG, r_shl_ne _ (by omega), ← hpa1, eM_2, mset_ne (by omega), hpab]; rw [r_pab_ne _ _ (by omega), mset_at, va_up_ne _ _ (by omega)]; exact hnp
        refine lr_par hx hb hml hg hown hK hA np hn3 MG (fun H locs ls hP hD hS hl => ?_) 11 0 M_2 (by omega) (by rw [hpa1, eMG]) H locs ls hP hD hS (lv_sub hl [0, 1, 2] rfl)
        refine lv_aload_n hx hb d_MO_paragraph_93 rfl (lv_at hl 1 rfl) ?_
        refine z_get (ci := 7) (C := R_MO) (T := T_MO) (N := 32) (v := .ref (ad (3))) hx hb hg in_MO hown hK hP (0) (by decide) rfl rfl 7 (by decide) (hg _ (List.mem_append_right _ (List.mem_append_right _ (List.mem_append_right _ (List.mem_append_right _ (List.mem_append_right _ (List.mem_append_right _ (List.mem_append_right _ (List.mem_append_right _ (List.mem_append_right _ (List.mem_append_right _ (List.mem_append_right _ (List.mem_append_right _ (List.mem_append_right _ (List.mem_append_left _ (List.mem_of_getElem? (i := 10) rfl)))))))))))))))) (fun _ h9 => h9) rfl d_MO_paragraph_94 ?_
        refine lv_iload_n hx hb d_MO_paragraph_97 rfl (lv_at hl 0 rfl) ?_
        refine z_iconst hx hb (z := 0) d_MO_paragraph_98 ?_
        refine z_iast hx hb hK hP hD hS (3) 0 (by decide) (fun _ => rfl) rfl (v := 0) (np) rfl (by omega) (by decide) d_MO_paragraph_99 (fun H locs hP hD hS => ?_)
        obtain ⟨M_3, eM_3⟩ : ∃ q_, q_ = mset MG (3) (np) (0) := ⟨_, rfl⟩
        have hP : va_P D vwCl (mo_w ad cs M_3) H := by rw [eM_3]; exact hP
        have hD : va_D (va_A (mo_w ad cs M) s.heap.size) (mo_w ad cs M_3) := by rw [eM_3]; exact hD
        refine lv_aload_n hx hb d_MO_paragraph_100 rfl (lv_at hl 1 rfl) ?_
        refine lv_dup hx hb d_MO_paragraph_101 rfl ?_
        refine z_get (ci := 7) (C := R_MO) (T := T_MO) (N := 32) (v := .int (iI (M_3 (0) 4))) hx hb hg in_MO hown hK hP (0) (by decide) rfl rfl 4 (by decide) (hg _ (List.mem_append_right _ (List.mem_append_right _ (List.mem_append_right _ (List.mem_append_right _ (List.mem_append_right _ (List.mem_append_right _ (List.mem_append_right _ (List.mem_append_right _ (List.mem_append_right _ (List.mem_append_right _ (List.mem_append_right _ (List.mem_append_right _ (List.mem_append_right _ (List.mem_append_left _ (List.mem_of_getElem? (i := 7) rfl)))))))))))))))) (fun _ h9 => h9) rfl d_MO_paragraph_102 ?_
        have k04 : M_3 (0) 4 = ((np : Nat) : Int) := by rw [eM_3, mset_ne (by omega)]; exact h04
        refine lv_topi (fun y_ ey => ?_)
        have ey := ey.trans (congrArg iI k04)
        subst ey
        refine z_iconst hx hb (z := 1) d_MO_paragraph_105 ?_
        refine z_iadd hx hb d_MO_paragraph_106 (v := ((np + 1 : Nat) : Int)) (by omega) ?_
        refine z_put (ci := 7) (C := R_MO) (T := T_MO) (N := 32) (v := .int (iI (((np + 1 : Nat) : Int)))) (ty := .int) (ce' := (mo_ce ad cs)) (r := va_up (M_3 (0)) 4 (((np + 1 : Nat) : Int))) hx hb hg in_MO ty_MO tk_MO nm_MO hown hK hP hD hS (0) (by decide) rfl rfl 4 (by decide) (hg _ (List.mem_append_right _ (List.mem_append_right _ (List.mem_append_right _ (List.mem_append_right _ (List.mem_append_right _ (List.mem_append_right _ (List.mem_append_right _ (List.mem_append_right _ (List.mem_append_right _ (List.mem_append_right _ (List.mem_append_right _ (List.mem_append_right _ (List.mem_append_right _ (List.mem_append_left _ (List.mem_of_getElem? (i := 7) rfl)))))))))))))))) (fun _ h9 => h9) rfl (by decide +kernel) rfl rfl (Nat.le_of_ble_eq_true rfl) (fun _ _ => rfl) rfl d_MO_paragraph_107 (fun H locs hP hD hS => ?_)
        obtain ⟨M_4, eM_4⟩ : ∃ q_, q_ = mset M_3 (0) (4) (((np + 1 : Nat) : Int)) := ⟨_, rfl⟩
        have hP : va_P D vwCl (mo_w ad cs M_4) H := by rw [eM_4]; exact hP
        have hD : va_D (va_A (mo_w ad cs M) s.heap.size) (mo_w ad cs M_4) := by rw [eM_4]; exact hD
        refine lv_aload_n hx hb d_MO_paragraph_110 rfl (lv_at hl 1 rfl) ?_
        refine z_iconst hx hb (z := 0) d_MO_paragraph_111 ?_
        refine z_put (ci := 7) (C := R_MO) (T := T_MO) (N := 32) (v := .int (iI (0))) (ty := .boolean) (ce' := (mo_ce ad cs)) (r := va_up (M_4 (0)) 15 (0)) hx hb hg in_MO ty_MO tk_MO nm_MO hown hK hP hD hS (0) (by decide) rfl rfl 15 (by decide) (hg _ (List.mem_append_right _ (List.mem_append_right _ (List.mem_append_right _ (List.mem_append_right _ (List.mem_append_right _ (List.mem_append_right _ (List.mem_append_right _ (List.mem_append_right _ (List.mem_append_right _ (List.mem_append_right _ (List.mem_append_right _ (List.mem_append_right _ (List.mem_append_right _ (List.mem_append_left _ (List.mem_of_getElem? (i := 18) rfl)))))))))))))))) (fun _ h9 => h9) rfl (by decide +kernel) rfl rfl (Nat.le_of_ble_eq_true rfl) (fun _ _ => rfl) rfl d_MO_paragraph_112 (fun H locs hP hD hS => ?_)
        obtain ⟨M_5, eM_5⟩ : ∃ q_, q_ = mset M_4 (0) (15) (0) := ⟨_, rfl⟩
        have hP : va_P D vwCl (mo_w ad cs M_5) H := by rw [eM_5]; exact hP
        have hD : va_D (va_A (mo_w ad cs M) s.heap.size) (mo_w ad cs M_5) := by rw [eM_5]; exact hD
        refine lv_iload_n hx hb d_MO_paragraph_115 rfl (lv_at hl 0 rfl) ?_
        have hM : M_5 = if np = 30 then mset M 0 0 1 else r_pa M np := by rw [if_neg (by omega), eM_5, eM_4, eM_3, eMG]; rfl
        have eW : mo_w ad cs (M_5) = mo_w ad cs (if np = 30 then mset M 0 0 1 else r_pa M np) := by rw [hM]
        have hP := Eq.mp (congrArg (fun q => va_P D vwCl q _) eW) hP
        have hD := Eq.mp (congrArg (va_D _) eW) hD
        exact W.iret (v := iI (((np : Nat) : Int))) hx hb hr (fun t ht hW => ⟨⟨_, (), rfl, by rw [if_neg (by omega)], by rw [ht]; exact hP, va_K.moved hW.alike hK, hD⟩, hS.F ht⟩) hS.2.2 d_MO_paragraph_116
      · refine lv_aload_n hx hb d_MO_paragraph_36 rfl (lv_at hl 1 rfl) ?_
        refine z_get (ci := 7) (C := R_MO) (T := T_MO) (N := 32) (v := .ref (ad (1))) hx hb hg in_MO hown hK hP (0) (by decide) rfl rfl 5 (by decide) (hg _ (List.mem_append_right _ (List.mem_append_right _ (List.mem_append_right _ (List.mem_append_right _ (List.mem_append_right _ (List.mem_append_right _ (List.mem_append_right _ (List.mem_append_right _ (List.mem_append_right _ (List.mem_append_right _ (List.mem_append_right _ (List.mem_append_right _ (List.mem_append_right _ (List.mem_append_left _ (List.mem_of_getElem? (i := 8) rfl)))))))))))))))) (fun _ h9 => h9) rfl d_MO_paragraph_37 ?_
        refine z_iconst hx hb (z := 0) d_MO_paragraph_40 ?_
        refine z_iconst hx hb (z := 0) d_MO_paragraph_41 ?_
        refine z_iast hx hb hK hP hD hS (1) 0 (by decide) (fun _ => rfl) rfl (v := 0) (0) rfl (by decide) (by decide) d_MO_paragraph_42 (fun H locs hP hD hS => ?_)
        obtain ⟨M_6, eM_6⟩ : ∃ q_, q_ = mset M_1 (1) (0) (0) := ⟨_, rfl⟩
        have hP : va_P D vwCl (mo_w ad cs M_6) H := by rw [eM_6]; exact hP
        have hD : va_D (va_A (mo_w ad cs M) s.heap.size) (mo_w ad cs M_6) := by rw [eM_6]; exact hD
        have hpab : M_6 = r_pab (mset M 0 0 0) np := by rw [eM_6, eM_1]; unfold r_pab; rw [if_pos (by omega)]
        refine lv_aload_n hx hb d_MO_paragraph_43 rfl (lv_at hl 1 rfl) ?_
        refine z_get (ci := 7) (C := R_MO) (T := T_MO) (N := 32) (v := .ref (ad (1))) hx hb hg in_MO hown hK hP (0) (by decide) rfl rfl 5 (by decide) (hg _ (List.mem_append_right _ (List.mem_append_right _ (List.mem_append_right _ (List.mem_append_right _ (List.mem_append_right _ (List.mem_append_right _ (List.mem_append_right _ (List.mem_append_right _ (List.mem_append_right _ (List.mem_append_right _ (List.mem_append_right _ (List.mem_append_right _ (List.mem_append_right _ (List.mem_append_left _ (List.mem_of_getElem? (i := 8) rfl)))))))))))))))) (fun _ h9 => h9) rfl d_MO_paragraph_44 ?_
        refine lv_iload_n hx hb d_MO_paragraph_47 rfl (lv_at hl 0 rfl) ?_
        refine z_iconst hx hb (z := 1) d_MO_paragraph_48 ?_
        refine z_iadd hx hb d_MO_paragraph_49 (v := ((np + 1 : Nat) : Int)) (by omega) ?_
        refine lv_aload_n hx hb d_MO_paragraph_50 rfl (lv_at hl 1 rfl) ?_
        refine z_get (ci := 7) (C := R_MO) (T := T_MO) (N := 32) (v := .ref (ad (1))) hx hb hg in_MO hown hK hP (0) (by decide) rfl rfl 5 (by decide) (hg _ (List.mem_append_right _ (List.mem_append_right _ (List.mem_append_right _ (List.mem_append_right _ (List.mem_append_right _ (List.mem_append_right _ (List.mem_append_right _ (List.mem_append_right _ (List.mem_append_right _ (List.mem_append_right _ (List.mem_append_right _ (List.mem_append_right _ (List.mem_append_right _ (List.mem_append_left _ (List.mem_of_getElem? (i := 8) rfl)))))))))))))))) (fun _ h9 => h9) rfl d_MO_paragraph_51 ?_
        refine lv_iload_n hx hb d_MO_paragraph_54 rfl (lv_at hl 0 rfl) ?_
        refine z_iald hx hb hK hP (1) 0 (by decide) (fun _ => rfl) rfl (np) rfl (by omega) (by decide) d_MO_paragraph_55 ?_
        refine z_iast hx hb hK hP hD hS (1) 0 (by decide) (fun _ => rfl) rfl (v := M_6 (1) (np)) (np + 1) rfl (by omega) (by decide) d_MO_paragraph_56 (fun H locs hP hD hS => ?_)
        obtain ⟨M_7, eM_7⟩ : ∃ q_, q_ = mset M_6 (1) (np + 1) (M_6 (1) (np)) := ⟨_, rfl⟩
        have hP : va_P D vwCl (mo_w ad cs M_7) H := by rw [eM_7]; exact hP
        have hD : va_D (va_A (mo_w ad cs M) s.heap.size) (mo_w ad cs M_7) := by rw [eM_7]; exact hD
        have hpa1 : M_7 = r_pa1 M np := by rw [eM_7, hpab]; rfl
        refine z_iconst hx hb (z := 0) d_MO_paragraph_57 ?_
        refine lv_istore_n (lv' := [(2, .int (iI (0))), (1, .int (iI (((np : Nat) : Int)))), (0, .ref (ad (0)))]) hx hb d_MO_paragraph_58 rfl hl (by decide) rfl (fun ls hl => ?_)
        obtain ⟨MG, eMG⟩ : ∃ q_, q_ = r_shl np 11 0 (r_pa1 M np) := ⟨_, rfl⟩
        have h04 : MG 0 4 = ((np : Nat) : Int) := by rw [eMG, r_shl_ne _ (by omega), ← hpa1, eM_7, mset_ne (by omega), hpab]; rw [r_pab_ne _ _ (by omega), mset_at, va_up_ne _ _ (by omega)]; exact hnp
        refine lr_par hx hb hml hg hown hK hA np hn3 MG (fun H locs ls hP hD hS hl => ?_) 11 0 M_7 (by omega) (by rw [hpa1, eMG]) H locs ls hP hD hS (lv_sub hl [0, 1, 2] rfl)
        refine lv_aload_n hx hb d_MO_paragraph_93 rfl (lv_at hl 1 rfl) ?_
        refine z_get (ci := 7) (C := R_MO) (T := T_MO) (N := 32) (v := .ref (ad (3))) hx hb hg in_MO hown hK hP (0) (by decide) rfl rfl 7 (by decide) (hg _ (List.mem_append_right _ (List.mem_append_right _ (List.mem_append_right _ (List.mem_append_right _ (List.mem_append_right _ (List.mem_append_right _ (List.mem_append_right _ (List.mem_append_right _ (List.mem_append_right _ (List.mem_append_right _ (List.mem_append_right _ (List.mem_append_right _ (List.mem_append_right _ (List.mem_append_left _ (List.mem_of_getElem? (i := 10) rfl)))))))))))))))) (fun _ h9 => h9) rfl d_MO_paragraph_94 ?_
        refine lv_iload_n hx hb d_MO_paragraph_97 rfl (lv_at hl 0 rfl) ?_
        refine z_iconst hx hb (z := 0) d_MO_paragraph_98 ?_
        refine z_iast hx hb hK hP hD hS (3) 0 (by decide) (fun _ => rfl) rfl (v := 0) (np) rfl (by omega) (by decide) d_MO_paragraph_99 (fun H locs hP hD hS => ?_)
        obtain ⟨M_8, eM_8⟩ : ∃ q_, q_ = mset MG (3) (np) (0) := ⟨_, rfl⟩
        have hP : va_P D vwCl (mo_w ad cs M_8) H := by rw [eM_8]; exact hP
        have hD : va_D (va_A (mo_w ad cs M) s.heap.size) (mo_w ad cs M_8) := by rw [eM_8]; exact hD
        refine lv_aload_n hx hb d_MO_paragraph_100 rfl (lv_at hl 1 rfl) ?_
        refine lv_dup hx hb d_MO_paragraph_101 rfl ?_
        refine z_get (ci := 7) (C := R_MO) (T := T_MO) (N := 32) (v := .int (iI (M_8 (0) 4))) hx hb hg in_MO hown hK hP (0) (by decide) rfl rfl 4 (by decide) (hg _ (List.mem_append_right _ (List.mem_append_right _ (List.mem_append_right _ (List.mem_append_right _ (List.mem_append_right _ (List.mem_append_right _ (List.mem_append_right _ (List.mem_append_right _ (List.mem_append_right _ (List.mem_append_right _ (List.mem_append_right _ (List.mem_append_right _ (List.mem_append_right _ (List.mem_append_left _ (List.mem_of_getElem? (i := 7) rfl)))))))))))))))) (fun _ h9 => h9) rfl d_MO_paragraph_102 ?_
        have k04 : M_8 (0) 4 = ((np : Nat) : Int) := by rw [eM_8, mset_ne (by omega)]; exact h04
        refine lv_topi (fun y_ ey => ?_)
        have ey := ey.trans (congrArg iI k04)
        subst ey
        refine z_iconst hx hb (z := 1) d_MO_paragraph_105 ?_
        refine z_iadd hx hb d_MO_paragraph_106 (v := ((np + 1 : Nat) : Int)) (by omega) ?_
        refine z_put (ci := 7) (C := R_MO) (T := T_MO) (N := 32) (v := .int (iI (((np + 1 : Nat) : Int)))) (ty := .int) (ce' := (mo_ce ad cs)) (r := va_up (M_8 (0)) 4 (((np + 1 : Nat) : Int))) hx hb hg in_MO ty_MO tk_MO nm_MO hown hK hP hD hS (0) (by decide) rfl rfl 4 (by decide) (hg _ (List.mem_append_right _ (List.mem_append_right _ (List.mem_append_right _ (List.mem_append_right _ (List.mem_append_right _ (List.mem_append_right _ (List.mem_append_right _ (List.mem_append_right _ (List.mem_append_right _ (List.mem_append_right _ (List.mem_append_right _ (List.mem_append_right _ (List.mem_append_right _ (List.mem_append_left _ (List.mem_of_getElem? (i := 7) rfl)))))))))))))))) (fun _ h9 => h9) rfl (by decide +kernel) rfl rfl (Nat.le_of_ble_eq_true rfl) (fun _ _ => rfl) rfl d_MO_paragraph_107 (fun H locs hP hD hS => ?_)
        obtain ⟨M_9, eM_9⟩ : ∃ q_, q_ = mset M_8 (0) (4) (((np + 1 : Nat) : Int)) := ⟨_, rfl⟩
        have hP : va_P D vwCl (mo_w ad cs M_9) H := by rw [eM_9]; exact hP
        have hD : va_D (va_A (mo_w ad cs M) s.heap.size) (mo_w ad cs M_9) := by rw [eM_9]; exact hD
        refine lv_aload_n hx hb d_MO_paragraph_110 rfl (lv_at hl 1 rfl) ?_
        refine z_iconst hx hb (z := 0) d_MO_paragraph_111 ?_
        refine z_put (ci := 7) (C := R_MO) (T := T_MO) (N := 32) (v := .int (iI (0))) (ty := .boolean) (ce' := (mo_ce ad cs)) (r := va_up (M_9 (0)) 15 (0)) hx hb hg in_MO ty_MO tk_MO nm_MO hown hK hP hD hS (0) (by decide) rfl rfl 15 (by decide) (hg _ (List.mem_append_right _ (List.mem_append_right _ (List.mem_append_right _ (List.mem_append_right _ (List.mem_append_right _ (List.mem_append_right _ (List.mem_append_right _ (List.mem_append_right _ (List.mem_append_right _ (List.mem_append_right _ (List.mem_append_right _ (List.mem_append_right _ (List.mem_append_right _ (List.mem_append_left _ (List.mem_of_getElem? (i := 18) rfl)))))))))))))))) (fun _ h9 => h9) rfl (by decide +kernel) rfl rfl (Nat.le_of_ble_eq_true rfl) (fun _ _ => rfl) rfl d_MO_paragraph_112 (fun H locs hP hD hS => ?_)
        obtain ⟨M_10, eM_10⟩ : ∃ q_, q_ = mset M_9 (0) (15) (0) := ⟨_, rfl⟩
        have hP : va_P D vwCl (mo_w ad cs M_10) H := by rw [eM_10]; exact hP
        have hD : va_D (va_A (mo_w ad cs M) s.heap.size) (mo_w ad cs M_10) := by rw [eM_10]; exact hD
        refine lv_iload_n hx hb d_MO_paragraph_115 rfl (lv_at hl 0 rfl) ?_
        have hM : M_10 = if np = 30 then mset M 0 0 1 else r_pa M np := by rw [if_neg (by omega), eM_10, eM_9, eM_8, eMG]; rfl
        have eW : mo_w ad cs (M_10) = mo_w ad cs (if np = 30 then mset M 0 0 1 else r_pa M np) := by rw [hM]
        have hP := Eq.mp (congrArg (fun q => va_P D vwCl q _) eW) hP
        have hD := Eq.mp (congrArg (va_D _) eW) hD
        exact W.iret (v := iI (((np : Nat) : Int))) hx hb hr (fun t ht hW => ⟨⟨_, (), rfl, by rw [if_neg (by omega)], by rw [ht]; exact hP, va_K.moved hW.alike hK, hD⟩, hS.F ht⟩) hS.2.2 d_MO_paragraph_116
    · refine z_iconst hx hb (z := 0) d_MO_paragraph_25 ?_
      exact absurd c_22 (by omega)
  · refine z_iconst hx hb (z := 1) d_MO_paragraph_10 ?_
    refine lv_goto (tgt := 15) hx hb d_MO_paragraph_11 (by decide) ?_
    refine z_put (ci := 7) (C := R_MO) (T := T_MO) (N := 32) (v := .int (iI (1))) (ty := .int) (ce' := (mo_ce ad cs)) (r := va_up (M (0)) 0 (1)) hx hb hg in_MO ty_MO tk_MO nm_MO hown hK hP hD hS (0) (by decide) rfl rfl 0 (by decide) (hg _ (List.mem_append_right _ (List.mem_append_right _ (List.mem_append_right _ (List.mem_append_right _ (List.mem_append_right _ (List.mem_append_right _ (List.mem_append_right _ (List.mem_append_right _ (List.mem_append_right _ (List.mem_append_right _ (List.mem_append_right _ (List.mem_append_right _ (List.mem_append_right _ (List.mem_append_left _ (List.mem_of_getElem? (i := 3) rfl)))))))))))))))) (fun _ h9 => h9) rfl (by decide +kernel) rfl rfl (Nat.le_of_ble_eq_true rfl) (fun _ _ => rfl) rfl d_MO_paragraph_15 (fun H locs hP hD hS => ?_)
    obtain ⟨M_11, eM_11⟩ : ∃ q_, q_ = mset M (0) (0) (1) := ⟨_, rfl⟩
    have hP : va_P D vwCl (mo_w ad cs M_11) H := by rw [eM_11]; exact hP
    have hD : va_D (va_A (mo_w ad cs M) s.heap.size) (mo_w ad cs M_11) := by rw [eM_11]; exact hD
    have g0 : M_11 0 0 = 1 := by rw [eM_11]; exact mset_same _ _ _ _
    have g4 : M_11 0 4 = ((np : Nat) : Int) := by rw [eM_11, mset_at, va_up_ne _ _ (by omega)]; exact hnp
    refine lv_aload_n hx hb d_MO_paragraph_18 rfl (lv_at hl 0 rfl) ?_
    refine z_get (ci := 7) (C := R_MO) (T := T_MO) (N := 32) (v := .int (iI (M_11 (0) 0))) hx hb hg in_MO hown hK hP (0) (by decide) rfl rfl 0 (by decide) (hg _ (List.mem_append_right _ (List.mem_append_right _ (List.mem_append_right _ (List.mem_append_right _ (List.mem_append_right _ (List.mem_append_right _ (List.mem_append_right _ (List.mem_append_right _ (List.mem_append_right _ (List.mem_append_right _ (List.mem_append_right _ (List.mem_append_right _ (List.mem_append_right _ (List.mem_append_left _ (List.mem_of_getElem? (i := 3) rfl)))))))))))))))) (fun _ h9 => h9) rfl d_MO_paragraph_19 ?_
    refine z_if_le hx hb (tgt := 27) d_MO_paragraph_22 (by decide) ⟨by omega, by omega⟩ (fun c_22 => ?_) (fun c_22 => ?_)
    · exact absurd c_22 (by omega)
    · refine z_iconst hx hb (z := 0) d_MO_paragraph_25 ?_
      have hM : M_11 = if np = 30 then mset M 0 0 1 else r_pa M np := by rw [eM_11]; rw [if_pos (by omega)]
      have eW : mo_w ad cs (M_11) = mo_w ad cs (if np = 30 then mset M 0 0 1 else r_pa M np) := by rw [hM]
      have hP := Eq.mp (congrArg (fun q => va_P D vwCl q _) eW) hP
      have hD := Eq.mp (congrArg (va_D _) eW) hD
      exact W.iret (v := iI (0)) hx hb hr (fun t ht hW => ⟨⟨_, (), rfl, by rw [if_pos (by omega)], by rw [ht]; exact hP, va_K.moved hW.alike hK, hD⟩, hS.F ht⟩) hS.2.2 d_MO_paragraph_26
set_option maxHeartbeats 4000000 in
set_option maxRecDepth 100000 in
/-- sign -/
theorem r_sign (l : Launch) {D : va_G} {ad : Nat → Nat} {cs : ClassId} {M : Nat → Nat → Int} (sz : Nat) (np n : Nat) (k wd h : Int) (hk : zb k) (hw : zb wd) (hh : zb h) (hnp : M 0 4 = ((np : Nat) : Int)) (hn : np ≤ 30) (hb0 : 0 < np → M 1 np = ((n : Nat) : Int)) (hn6 : n ≤ 600) : Met l y_MO_sign ws_MO_sign ({ frames := 1, cells := 0, slots := 0, locals := 22 } : Room) (va_Pc [.ref (ad (0)), .int (iI (k)), .int (iI (wd)), .int (iI (h))] (rw_B D vwCl (mo_tys cs) (mo_w ad cs M) sz)) (va_Qi (fun (r : Int32) (_ : Unit) => r = iI (if r_sgc M np k wd h = 0 then ((n : Nat) : Int) else 0)) (rw_E D vwCl (mo_tys cs) (mo_w ad cs M) (mo_w ad cs (if r_sgc M np k wd h = 0 then r_sg M np n k wd h else mset M 0 0 (r_sgc M np k wd h))) sz) (va_A (mo_w ad cs M) sz)) 0 0 (va_A (mo_w ad cs M) sz) := by
  refine Met.ofW (cc := b_MO_sign) (maxL := 5) (ret := (some .int)) (by decide) rfl ?_
  intro p e s m args below meth c s₁ B hml hv
  obtain ⟨rfl, hsz, hP, hK, hD0⟩ := hv
  have hx := B.exec
  have hb := B.bytes
  have hr := B.returns
  have hts := atoms_spec (ws := ws_MO_sign) B.pre
  have hg : ∀ w ∈ gt, w.before _ s = true := fun w h => hts w (List.mem_cons_of_mem _ h)
  have hown : s.vm.findClass R_MO = some m.cls := findClass_of_methodNamed B.named
  have hlocks := B.notSynchronized
  subst hsz
  have hD := hD0.self (sz := s.heap.size)
  have hA : ∀ q : Nat, s.heap.size ≤ q → va_A (mo_w ad cs M) s.heap.size q := fun q h => Or.inr h
  have hS : va_S (va_A (mo_w ad cs M) s.heap.size) s.heap s.heap [] := va_S.rf
  have hl := lv_entry ([.ref (ad (0)), .int (iI (k)), .int (iI (wd)), .int (iI (h))]) (n := 5) (Nat.le_of_ble_eq_true rfl)
  rw [lg_entry_eq]
  generalize (lg_sl ([.ref (ad (0)), .int (iI (k)), .int (iI (wd)), .int (iI (h))]) ++ List.replicate (5 - (lg_sl ([.ref (ad (0)), .int (iI (k)), .int (iI (wd)), .int (iI (h))])).length) Slot.unset).toArray = ls at hl ⊢
  have hl : lv_has ls 5 [(0, .ref (ad (0))), (1, .int (iI (k))), (2, .int (iI (wd))), (3, .int (iI (h)))] := hl
  obtain ⟨hk1, hk2⟩ := hk
  obtain ⟨hw1, hw2⟩ := hw
  obtain ⟨hh1, hh2⟩ := hh
  refine lv_aload_n hx hb d_MO_sign_0 rfl (lv_at hl 0 rfl) ?_
  refine lv_aload_n hx hb d_MO_sign_1 rfl (lv_at hl 0 rfl) ?_
  refine z_get (ci := 7) (C := R_MO) (T := T_MO) (N := 32) (v := .int (iI (M (0) 4))) hx hb hg in_MO hown hK hP (0) (by decide) rfl rfl 4 (by decide) (hg _ (List.mem_append_right _ (List.mem_append_right _ (List.mem_append_right _ (List.mem_append_right _ (List.mem_append_right _ (List.mem_append_right _ (List.mem_append_right _ (List.mem_append_right _ (List.mem_append_right _ (List.mem_append_right _ (List.mem_append_right _ (List.mem_append_right _ (List.mem_append_right _ (List.mem_append_left _ (List.mem_of_getElem? (i := 7) rfl)))))))))))))))) (fun _ h9 => h9) rfl d_MO_sign_2 ?_
  refine z_if_ne hx hb (tgt := 12) d_MO_sign_5 (by decide) ⟨by omega, by omega⟩ (fun c_5 => ?_) (fun c_5 => ?_)
  · refine lv_iload_n hx hb d_MO_sign_12 rfl (lv_at hl 1 rfl) ?_
    refine z_iconst hx hb (z := 0) d_MO_sign_13 ?_
    refine z_bipush hx hb (z := 6) d_MO_sign_14 (by decide) ?_
    refine ro_S (As := [.int (iI (k)), .int (iI (0)), .int (iI (6))]) (rest := [.ref (ad (0))]) (z := bz (inn (k) (0) (6)) inferInstance) ⟨hx, hb, hml, hown, hg⟩ (r_in l (k) (0) (6) ⟨by omega, by omega⟩ ⟨by decide, by decide⟩ ⟨by decide, by decide⟩) (cwS 3 hg (gt_S (List.mem_append_right _ (List.mem_append_right _ (List.mem_append_right _ (List.mem_append_right _ (List.mem_append_right _ (List.mem_append_right _ (List.mem_append_right _ (List.mem_append_right _ (List.mem_append_right _ (List.mem_append_right _ (List.mem_append_right _ (List.mem_append_right _ (List.mem_append_right _ (List.mem_append_right _ (List.mem_append_right _ (List.mem_append_left _ (List.mem_of_getElem? (i := 3) rfl))))))))))))))))) (List.mem_append_right _ (List.mem_append_right _ (List.mem_append_right _ (List.mem_append_right _ (List.mem_append_right _ (List.mem_append_right _ (List.mem_append_right _ (List.mem_append_right _ (List.mem_append_right _ (List.mem_append_right _ (List.mem_append_right _ (List.mem_append_right _ (List.mem_append_right _ (List.mem_append_right _ (List.mem_append_right _ (List.mem_append_left _ (List.mem_of_getElem? (i := 4) rfl))))))))))))))))) (List.mem_append_right _ (List.mem_append_left _ (List.mem_of_getElem? (i := 9) rfl))) (List.mem_append_right _ (List.mem_append_right _ (List.mem_append_right _ (List.mem_append_right _ (List.mem_append_right _ (List.mem_append_right _ (List.mem_append_right _ (List.mem_append_right _ (List.mem_append_right _ (List.mem_append_right _ (List.mem_append_right _ (List.mem_append_right _ (List.mem_append_right _ (List.mem_append_right _ (List.mem_append_right _ (List.mem_append_left _ (List.mem_of_getElem? (i := 5) rfl)))))))))))))))))) rfl rfl rfl (by decide +kernel) ⟨Nat.le_of_ble_eq_true rfl, Nat.le_of_ble_eq_true rfl⟩) hK hP rfl hl.1 rfl (Nat.le_of_ble_eq_true rfl) d_MO_sign_16 ⟨Nat.zero_le _, Nat.zero_le _⟩ ?_
    refine z_ifb_eq hx hb (tgt := 44) d_MO_sign_19 (by decide) (fun c_19 => ?_) (fun c_19 => ?_)
    · refine z_iconst hx hb (z := 2) d_MO_sign_44 ?_
      refine lv_goto (tgt := 68) hx hb d_MO_sign_45 (by decide) ?_
      have hcd : r_sgc M np k wd h = 2 := by unfold r_sgc; rw [if_neg (by omega), if_neg (fun g => c_19 g.1)]
      refine z_put (ci := 7) (C := R_MO) (T := T_MO) (N := 32) (v := .int (iI (2))) (ty := .int) (ce' := (mo_ce ad cs)) (r := va_up (M (0)) 0 (2)) hx hb hg in_MO ty_MO tk_MO nm_MO hown hK hP hD hS (0) (by decide) rfl rfl 0 (by decide) (hg _ (List.mem_append_right _ (List.mem_append_right _ (List.mem_append_right _ (List.mem_append_right _ (List.mem_append_right _ (List.mem_append_right _ (List.mem_append_right _ (List.mem_append_right _ (List.mem_append_right _ (List.mem_append_right _ (List.mem_append_right _ (List.mem_append_right _ (List.mem_append_right _ (List.mem_append_left _ (List.mem_of_getElem? (i := 3) rfl)))))))))))))))) (fun _ h9 => h9) rfl (by decide +kernel) rfl rfl (Nat.le_of_ble_eq_true rfl) (fun _ _ => rfl) rfl d_MO_sign_68 (fun H locs hP hD hS => ?_)
      obtain ⟨M_1, eM_1⟩ : ∃ q_, q_ = mset M (0) (0) (2) := ⟨_, rfl⟩
      have hP : va_P D vwCl (mo_w ad cs M_1) H := by rw [eM_1]; exact hP
      have hD : va_D (va_A (mo_w ad cs M) s.heap.size) (mo_w ad cs M_1) := by rw [eM_1]; exact hD
      have g0 : M_1 0 0 = 2 := by rw [eM_1]; exact mset_same _ _ _ _
      have hnp1 : M_1 0 4 = ((np : Nat) : Int) := by rw [eM_1, mset_at, va_up_ne _ _ (by omega)]; exact hnp
      refine lv_aload_n hx hb d_MO_sign_71 rfl (lv_at hl 0 rfl) ?_
      refine z_get (ci := 7) (C := R_MO) (T := T_MO) (N := 32) (v := .int (iI (M_1 (0) 0))) hx hb hg in_MO hown hK hP (0) (by decide) rfl rfl 0 (by decide) (hg _ (List.mem_append_right _ (List.mem_append_right _ (List.mem_append_right _ (List.mem_append_right _ (List.mem_append_right _ (List.mem_append_right _ (List.mem_append_right _ (List.mem_append_right _ (List.mem_append_right _ (List.mem_append_right _ (List.mem_append_right _ (List.mem_append_right _ (List.mem_append_right _ (List.mem_append_left _ (List.mem_of_getElem? (i := 3) rfl)))))))))))))))) (fun _ h9 => h9) rfl d_MO_sign_72 ?_
      refine z_if_le hx hb (tgt := 80) d_MO_sign_75 (by decide) ⟨by omega, by omega⟩ (fun c_75 => ?_) (fun c_75 => ?_)
      · exact absurd c_75 (by omega)
      · refine z_iconst hx hb (z := 0) d_MO_sign_78 ?_
        have hM : M_1 = if r_sgc M np k wd h = 0 then r_sg M np n k wd h else mset M 0 0 (r_sgc M np k wd h) := by rw [hcd, if_neg (by omega), eM_1]
        have eW : mo_w ad cs (M_1) = mo_w ad cs (if r_sgc M np k wd h = 0 then r_sg M np n k wd h else mset M 0 0 (r_sgc M np k wd h)) := by rw [hM]
        have hP := Eq.mp (congrArg (fun q => va_P D vwCl q _) eW) hP
        have hD := Eq.mp (congrArg (va_D _) eW) hD
        exact W.iret (v := iI (0)) hx hb hr (fun t ht hW => ⟨⟨_, (), rfl, by rw [hcd, if_neg (by omega)], by rw [ht]; exact hP, va_K.moved hW.alike hK, hD⟩, hS.F ht⟩) hS.2.2 d_MO_sign_79
    · refine lv_iload_n hx hb d_MO_sign_22 rfl (lv_at hl 2 rfl) ?_
      refine z_iconst hx hb (z := 0) d_MO_sign_23 ?_
      refine z_sipush hx hb (z := 4000) d_MO_sign_24 (by decide) ?_
      refine ro_S (As := [.int (iI (wd)), .int (iI (0)), .int (iI (4000))]) (rest := [.ref (ad (0))]) (z := bz (inn (wd) (0) (4000)) inferInstance) ⟨hx, hb, hml, hown, hg⟩ (r_in l (wd) (0) (4000) ⟨by omega, by omega⟩ ⟨by decide, by decide⟩ ⟨by decide, by decide⟩) (cwS 3 hg (gt_S (List.mem_append_right _ (List.mem_append_right _ (List.mem_append_right _ (List.mem_append_right _ (List.mem_append_right _ (List.mem_append_right _ (List.mem_append_right _ (List.mem_append_right _ (List.mem_append_right _ (List.mem_append_right _ (List.mem_append_right _ (List.mem_append_right _ (List.mem_append_right _ (List.mem_append_right _ (List.mem_append_right _ (List.mem_append_left _ (List.mem_of_getElem? (i := 3) rfl))))))))))))))))) (List.mem_append_right _ (List.mem_append_right _ (List.mem_append_right _ (List.mem_append_right _ (List.mem_append_right _ (List.mem_append_right _ (List.mem_append_right _ (List.mem_append_right _ (List.mem_append_right _ (List.mem_append_right _ (List.mem_append_right _ (List.mem_append_right _ (List.mem_append_right _ (List.mem_append_right _ (List.mem_append_right _ (List.mem_append_left _ (List.mem_of_getElem? (i := 4) rfl))))))))))))))))) (List.mem_append_right _ (List.mem_append_left _ (List.mem_of_getElem? (i := 9) rfl))) (List.mem_append_right _ (List.mem_append_right _ (List.mem_append_right _ (List.mem_append_right _ (List.mem_append_right _ (List.mem_append_right _ (List.mem_append_right _ (List.mem_append_right _ (List.mem_append_right _ (List.mem_append_right _ (List.mem_append_right _ (List.mem_append_right _ (List.mem_append_right _ (List.mem_append_right _ (List.mem_append_right _ (List.mem_append_left _ (List.mem_of_getElem? (i := 5) rfl)))))))))))))))))) rfl rfl rfl (by decide +kernel) ⟨Nat.le_of_ble_eq_true rfl, Nat.le_of_ble_eq_true rfl⟩) hK hP rfl hl.1 rfl (Nat.le_of_ble_eq_true rfl) d_MO_sign_27 ⟨Nat.zero_le _, Nat.zero_le _⟩ ?_
      refine z_ifb_eq hx hb (tgt := 44) d_MO_sign_30 (by decide) (fun c_30 => ?_) (fun c_30 => ?_)
      · refine z_iconst hx hb (z := 2) d_MO_sign_44 ?_
        refine lv_goto (tgt := 68) hx hb d_MO_sign_45 (by decide) ?_
        have hcd : r_sgc M np k wd h = 2 := by unfold r_sgc; rw [if_neg (by omega), if_neg (fun g => c_30 g.2.1)]
        refine z_put (ci := 7) (C := R_MO) (T := T_MO) (N := 32) (v := .int (iI (2))) (ty := .int) (ce' := (mo_ce ad cs)) (r := va_up (M (0)) 0 (2)) hx hb hg in_MO ty_MO tk_MO nm_MO hown hK hP hD hS (0) (by decide) rfl rfl 0 (by decide) (hg _ (List.mem_append_right _ (List.mem_append_right _ (List.mem_append_right _ (List.mem_append_right _ (List.mem_append_right _ (List.mem_append_right _ (List.mem_append_right _ (List.mem_append_right _ (List.mem_append_right _ (List.mem_append_right _ (List.mem_append_right _ (List.mem_append_right _ (List.mem_append_right _ (List.mem_append_left _ (List.mem_of_getElem? (i := 3) rfl)))))))))))))))) (fun _ h9 => h9) rfl (by decide +kernel) rfl rfl (Nat.le_of_ble_eq_true rfl) (fun _ _ => rfl) rfl d_MO_sign_68 (fun H locs hP hD hS => ?_)
        obtain ⟨M_2, eM_2⟩ : ∃ q_, q_ = mset M (0) (0) (2) := ⟨_, rfl⟩
        have hP : va_P D vwCl (mo_w ad cs M_2) H := by rw [eM_2]; exact hP
        have hD : va_D (va_A (mo_w ad cs M) s.heap.size) (mo_w ad cs M_2) := by rw [eM_2]; exact hD
        have g0 : M_2 0 0 = 2 := by rw [eM_2]; exact mset_same _ _ _ _
        have hnp1 : M_2 0 4 = ((np : Nat) : Int) := by rw [eM_2, mset_at, va_up_ne _ _ (by omega)]; exact hnp
        refine lv_aload_n hx hb d_MO_sign_71 rfl (lv_at hl 0 rfl) ?_
        refine z_get (ci := 7) (C := R_MO) (T := T_MO) (N := 32) (v := .int (iI (M_2 (0) 0))) hx hb hg in_MO hown hK hP (0) (by decide) rfl rfl 0 (by decide) (hg _ (List.mem_append_right _ (List.mem_append_right _ (List.mem_append_right _ (List.mem_append_right _ (List.mem_append_right _ (List.mem_append_right _ (List.mem_append_right _ (List.mem_append_right _ (List.mem_append_right _ (List.mem_append_right _ (List.mem_append_right _ (List.mem_append_right _ (List.mem_append_right _ (List.mem_append_left _ (List.mem_of_getElem? (i := 3) rfl)))))))))))))))) (fun _ h9 => h9) rfl d_MO_sign_72 ?_
        refine z_if_le hx hb (tgt := 80) d_MO_sign_75 (by decide) ⟨by omega, by omega⟩ (fun c_75 => ?_) (fun c_75 => ?_)
        · exact absurd c_75 (by omega)
        · refine z_iconst hx hb (z := 0) d_MO_sign_78 ?_
          have hM : M_2 = if r_sgc M np k wd h = 0 then r_sg M np n k wd h else mset M 0 0 (r_sgc M np k wd h) := by rw [hcd, if_neg (by omega), eM_2]
          have eW : mo_w ad cs (M_2) = mo_w ad cs (if r_sgc M np k wd h = 0 then r_sg M np n k wd h else mset M 0 0 (r_sgc M np k wd h)) := by rw [hM]
          have hP := Eq.mp (congrArg (fun q => va_P D vwCl q _) eW) hP
          have hD := Eq.mp (congrArg (va_D _) eW) hD
          exact W.iret (v := iI (0)) hx hb hr (fun t ht hW => ⟨⟨_, (), rfl, by rw [hcd, if_neg (by omega)], by rw [ht]; exact hP, va_K.moved hW.alike hK, hD⟩, hS.F ht⟩) hS.2.2 d_MO_sign_79
      · refine lv_iload_n hx hb d_MO_sign_33 rfl (lv_at hl 3 rfl) ?_
        refine z_iconst hx hb (z := 0) d_MO_sign_34 ?_
        refine z_sipush hx hb (z := 2000) d_MO_sign_35 (by decide) ?_
        refine ro_S (As := [.int (iI (h)), .int (iI (0)), .int (iI (2000))]) (rest := [.ref (ad (0))]) (z := bz (inn (h) (0) (2000)) inferInstance) ⟨hx, hb, hml, hown, hg⟩ (r_in l (h) (0) (2000) ⟨by omega, by omega⟩ ⟨by decide, by decide⟩ ⟨by decide, by decide⟩) (cwS 3 hg (gt_S (List.mem_append_right _ (List.mem_append_right _ (List.mem_append_right _ (List.mem_append_right _ (List.mem_append_right _ (List.mem_append_right _ (List.mem_append_right _ (List.mem_append_right _ (List.mem_append_right _ (List.mem_append_right _ (List.mem_append_right _ (List.mem_append_right _ (List.mem_append_right _ (List.mem_append_right _ (List.mem_append_right _ (List.mem_append_left _ (List.mem_of_getElem? (i := 3) rfl))))))))))))))))) (List.mem_append_right _ (List.mem_append_right _ (List.mem_append_right _ (List.mem_append_right _ (List.mem_append_right _ (List.mem_append_right _ (List.mem_append_right _ (List.mem_append_right _ (List.mem_append_right _ (List.mem_append_right _ (List.mem_append_right _ (List.mem_append_right _ (List.mem_append_right _ (List.mem_append_right _ (List.mem_append_right _ (List.mem_append_left _ (List.mem_of_getElem? (i := 4) rfl))))))))))))))))) (List.mem_append_right _ (List.mem_append_left _ (List.mem_of_getElem? (i := 9) rfl))) (List.mem_append_right _ (List.mem_append_right _ (List.mem_append_right _ (List.mem_append_right _ (List.mem_append_right _ (List.mem_append_right _ (List.mem_append_right _ (List.mem_append_right _ (List.mem_append_right _ (List.mem_append_right _ (List.mem_append_right _ (List.mem_append_right _ (List.mem_append_right _ (List.mem_append_right _ (List.mem_append_right _ (List.mem_append_left _ (List.mem_of_getElem? (i := 5) rfl)))))))))))))))))) rfl rfl rfl (by decide +kernel) ⟨Nat.le_of_ble_eq_true rfl, Nat.le_of_ble_eq_true rfl⟩) hK hP rfl hl.1 rfl (Nat.le_of_ble_eq_true rfl) d_MO_sign_38 ⟨Nat.zero_le _, Nat.zero_le _⟩ ?_
        refine z_ifb_ne hx hb (tgt := 48) d_MO_sign_41 (by decide) (fun c_41 => ?_) (fun c_41 => ?_)
        · refine lv_aload_n hx hb d_MO_sign_48 rfl (lv_at hl 0 rfl) ?_
          refine z_get (ci := 7) (C := R_MO) (T := T_MO) (N := 32) (v := .ref (ad (1))) hx hb hg in_MO hown hK hP (0) (by decide) rfl rfl 5 (by decide) (hg _ (List.mem_append_right _ (List.mem_append_right _ (List.mem_append_right _ (List.mem_append_right _ (List.mem_append_right _ (List.mem_append_right _ (List.mem_append_right _ (List.mem_append_right _ (List.mem_append_right _ (List.mem_append_right _ (List.mem_append_right _ (List.mem_append_right _ (List.mem_append_right _ (List.mem_append_left _ (List.mem_of_getElem? (i := 8) rfl)))))))))))))))) (fun _ h9 => h9) rfl d_MO_sign_49 ?_
          refine lv_aload_n hx hb d_MO_sign_52 rfl (lv_at hl 0 rfl) ?_
          refine z_get (ci := 7) (C := R_MO) (T := T_MO) (N := 32) (v := .int (iI (M (0) 4))) hx hb hg in_MO hown hK hP (0) (by decide) rfl rfl 4 (by decide) (hg _ (List.mem_append_right _ (List.mem_append_right _ (List.mem_append_right _ (List.mem_append_right _ (List.mem_append_right _ (List.mem_append_right _ (List.mem_append_right _ (List.mem_append_right _ (List.mem_append_right _ (List.mem_append_right _ (List.mem_append_right _ (List.mem_append_right _ (List.mem_append_right _ (List.mem_append_left _ (List.mem_of_getElem? (i := 7) rfl)))))))))))))))) (fun _ h9 => h9) rfl d_MO_sign_53 ?_
          refine z_iald hx hb hK hP (1) 0 (by decide) (fun _ => rfl) rfl (np) hnp (by omega) (by decide) d_MO_sign_56 ?_
          have hbv := hb0 (by omega)
          refine lv_topi (fun y_ ey => ?_)
          have ey := ey.trans (congrArg iI hbv)
          subst ey
          refine z_sipush hx hb (z := 600) d_MO_sign_57 (by decide) ?_
          refine z_icmp_ne hx hb (tgt := 67) d_MO_sign_60 (by decide) ⟨by omega, by omega⟩ ⟨by decide, by decide⟩ (fun c_60 => ?_) (fun c_60 => ?_)
          · refine z_iconst hx hb (z := 0) d_MO_sign_67 ?_
            have hcd : r_sgc M np k wd h = 0 := by unfold r_sgc; rw [if_neg (by omega), if_pos ⟨c_19, c_30, c_41⟩, if_neg (by omega)]
            refine z_put (ci := 7) (C := R_MO) (T := T_MO) (N := 32) (v := .int (iI (0))) (ty := .int) (ce' := (mo_ce ad cs)) (r := va_up (M (0)) 0 (0)) hx hb hg in_MO ty_MO tk_MO nm_MO hown hK hP hD hS (0) (by decide) rfl rfl 0 (by decide) (hg _ (List.mem_append_right _ (List.mem_append_right _ (List.mem_append_right _ (List.mem_append_right _ (List.mem_append_right _ (List.mem_append_right _ (List.mem_append_right _ (List.mem_append_right _ (List.mem_append_right _ (List.mem_append_right _ (List.mem_append_right _ (List.mem_append_right _ (List.mem_append_right _ (List.mem_append_left _ (List.mem_of_getElem? (i := 3) rfl)))))))))))))))) (fun _ h9 => h9) rfl (by decide +kernel) rfl rfl (Nat.le_of_ble_eq_true rfl) (fun _ _ => rfl) rfl d_MO_sign_68 (fun H locs hP hD hS => ?_)
            obtain ⟨M_3, eM_3⟩ : ∃ q_, q_ = mset M (0) (0) (0) := ⟨_, rfl⟩
            have hP : va_P D vwCl (mo_w ad cs M_3) H := by rw [eM_3]; exact hP
            have hD : va_D (va_A (mo_w ad cs M) s.heap.size) (mo_w ad cs M_3) := by rw [eM_3]; exact hD
            have g0 : M_3 0 0 = 0 := by rw [eM_3]; exact mset_same _ _ _ _
            have hnp1 : M_3 0 4 = ((np : Nat) : Int) := by rw [eM_3, mset_at, va_up_ne _ _ (by omega)]; exact hnp
            refine lv_aload_n hx hb d_MO_sign_71 rfl (lv_at hl 0 rfl) ?_
            refine z_get (ci := 7) (C := R_MO) (T := T_MO) (N := 32) (v := .int (iI (M_3 (0) 0))) hx hb hg in_MO hown hK hP (0) (by decide) rfl rfl 0 (by decide) (hg _ (List.mem_append_right _ (List.mem_append_right _ (List.mem_append_right _ (List.mem_append_right _ (List.mem_append_right _ (List.mem_append_right _ (List.mem_append_right _ (List.mem_append_right _ (List.mem_append_right _ (List.mem_append_right _ (List.mem_append_right _ (List.mem_append_right _ (List.mem_append_right _ (List.mem_append_left _ (List.mem_of_getElem? (i := 3) rfl)))))))))))))))) (fun _ h9 => h9) rfl d_MO_sign_72 ?_
            refine z_if_le hx hb (tgt := 80) d_MO_sign_75 (by decide) ⟨by omega, by omega⟩ (fun c_75 => ?_) (fun c_75 => ?_)
            · refine lv_aload_n hx hb d_MO_sign_80 rfl (lv_at hl 0 rfl) ?_
              refine z_get (ci := 7) (C := R_MO) (T := T_MO) (N := 32) (v := .ref (ad (1))) hx hb hg in_MO hown hK hP (0) (by decide) rfl rfl 5 (by decide) (hg _ (List.mem_append_right _ (List.mem_append_right _ (List.mem_append_right _ (List.mem_append_right _ (List.mem_append_right _ (List.mem_append_right _ (List.mem_append_right _ (List.mem_append_right _ (List.mem_append_right _ (List.mem_append_right _ (List.mem_append_right _ (List.mem_append_right _ (List.mem_append_right _ (List.mem_append_left _ (List.mem_of_getElem? (i := 8) rfl)))))))))))))))) (fun _ h9 => h9) rfl d_MO_sign_81 ?_
              refine lv_aload_n hx hb d_MO_sign_84 rfl (lv_at hl 0 rfl) ?_
              refine z_get (ci := 7) (C := R_MO) (T := T_MO) (N := 32) (v := .int (iI (M_3 (0) 4))) hx hb hg in_MO hown hK hP (0) (by decide) rfl rfl 4 (by decide) (hg _ (List.mem_append_right _ (List.mem_append_right _ (List.mem_append_right _ (List.mem_append_right _ (List.mem_append_right _ (List.mem_append_right _ (List.mem_append_right _ (List.mem_append_right _ (List.mem_append_right _ (List.mem_append_right _ (List.mem_append_right _ (List.mem_append_right _ (List.mem_append_right _ (List.mem_append_left _ (List.mem_of_getElem? (i := 7) rfl)))))))))))))))) (fun _ h9 => h9) rfl d_MO_sign_85 ?_
              refine z_iald hx hb hK hP (1) 0 (by decide) (fun _ => rfl) rfl (np) hnp1 (by omega) (by decide) d_MO_sign_88 ?_
              have hbw : M_3 (1) (np) = ((n : Nat) : Int) := by rw [eM_3, mset_ne (by omega)]; exact hbv
              refine lv_topi (fun y_ ey => ?_)
              have ey := ey.trans (congrArg iI hbw)
              subst ey
              refine lv_istore (lv' := [(4, .int (iI (((n : Nat) : Int)))), (0, .ref (ad (0))), (1, .int (iI (k))), (2, .int (iI (wd))), (3, .int (iI (h)))]) hx hb d_MO_sign_89 hl (by decide) rfl (fun ls hl => ?_)
              refine lv_aload_n hx hb d_MO_sign_91 rfl (lv_at hl 1 rfl) ?_
              refine z_get (ci := 7) (C := R_MO) (T := T_MO) (N := 32) (v := .ref (ad (6))) hx hb hg in_MO hown hK hP (0) (by decide) rfl rfl 10 (by decide) (hg _ (List.mem_append_right _ (List.mem_append_right _ (List.mem_append_right _ (List.mem_append_right _ (List.mem_append_right _ (List.mem_append_right _ (List.mem_append_right _ (List.mem_append_right _ (List.mem_append_right _ (List.mem_append_right _ (List.mem_append_right _ (List.mem_append_right _ (List.mem_append_right _ (List.mem_append_left _ (List.mem_of_getElem? (i := 13) rfl)))))))))))))))) (fun _ h9 => h9) rfl d_MO_sign_92 ?_
              refine lv_iload hx hb d_MO_sign_95 (lv_at hl 0 rfl) ?_
              refine lv_iload_n hx hb d_MO_sign_97 rfl (lv_at hl 2 rfl) ?_
              refine z_iast hx hb hK hP hD hS (6) 0 (by decide) (fun _ => rfl) rfl (v := k) (n) rfl (by omega) (by decide) d_MO_sign_98 (fun H locs hP hD hS => ?_)
              obtain ⟨M_4, eM_4⟩ : ∃ q_, q_ = mset M_3 (6) (n) (k) := ⟨_, rfl⟩
              have hP : va_P D vwCl (mo_w ad cs M_4) H := by rw [eM_4]; exact hP
              have hD : va_D (va_A (mo_w ad cs M) s.heap.size) (mo_w ad cs M_4) := by rw [eM_4]; exact hD
              refine lv_aload_n hx hb d_MO_sign_99 rfl (lv_at hl 1 rfl) ?_
              refine z_get (ci := 7) (C := R_MO) (T := T_MO) (N := 32) (v := .ref (ad (7))) hx hb hg in_MO hown hK hP (0) (by decide) rfl rfl 11 (by decide) (hg _ (List.mem_append_right _ (List.mem_append_right _ (List.mem_append_right _ (List.mem_append_right _ (List.mem_append_right _ (List.mem_append_right _ (List.mem_append_right _ (List.mem_append_right _ (List.mem_append_right _ (List.mem_append_right _ (List.mem_append_right _ (List.mem_append_right _ (List.mem_append_right _ (List.mem_append_left _ (List.mem_of_getElem? (i := 14) rfl)))))))))))))))) (fun _ h9 => h9) rfl d_MO_sign_100 ?_
              refine lv_iload hx hb d_MO_sign_103 (lv_at hl 0 rfl) ?_
              refine lv_iload_n hx hb d_MO_sign_105 rfl (lv_at hl 3 rfl) ?_
              refine z_iast hx hb hK hP hD hS (7) 0 (by decide) (fun _ => rfl) rfl (v := wd) (n) rfl (by omega) (by decide) d_MO_sign_106 (fun H locs hP hD hS => ?_)
              obtain ⟨M_5, eM_5⟩ : ∃ q_, q_ = mset M_4 (7) (n) (wd) := ⟨_, rfl⟩
              have hP : va_P D vwCl (mo_w ad cs M_5) H := by rw [eM_5]; exact hP
              have hD : va_D (va_A (mo_w ad cs M) s.heap.size) (mo_w ad cs M_5) := by rw [eM_5]; exact hD
              refine lv_aload_n hx hb d_MO_sign_107 rfl (lv_at hl 1 rfl) ?_
              refine z_get (ci := 7) (C := R_MO) (T := T_MO) (N := 32) (v := .ref (ad (8))) hx hb hg in_MO hown hK hP (0) (by decide) rfl rfl 12 (by decide) (hg _ (List.mem_append_right _ (List.mem_append_right _ (List.mem_append_right _ (List.mem_append_right _ (List.mem_append_right _ (List.mem_append_right _ (List.mem_append_right _ (List.mem_append_right _ (List.mem_append_right _ (List.mem_append_right _ (List.mem_append_right _ (List.mem_append_right _ (List.mem_append_right _ (List.mem_append_left _ (List.mem_of_getElem? (i := 15) rfl)))))))))))))))) (fun _ h9 => h9) rfl d_MO_sign_108 ?_
              refine lv_iload hx hb d_MO_sign_111 (lv_at hl 0 rfl) ?_
              refine lv_iload_n hx hb d_MO_sign_113 rfl (lv_at hl 4 rfl) ?_
              refine z_iast hx hb hK hP hD hS (8) 0 (by decide) (fun _ => rfl) rfl (v := h) (n) rfl (by omega) (by decide) d_MO_sign_114 (fun H locs hP hD hS => ?_)
              obtain ⟨M_6, eM_6⟩ : ∃ q_, q_ = mset M_5 (8) (n) (h) := ⟨_, rfl⟩
              have hP : va_P D vwCl (mo_w ad cs M_6) H := by rw [eM_6]; exact hP
              have hD : va_D (va_A (mo_w ad cs M) s.heap.size) (mo_w ad cs M_6) := by rw [eM_6]; exact hD
              have hnp4 : M_6 0 4 = ((np : Nat) : Int) := by rw [eM_6, eM_5, eM_4, eM_3, mset_ne (by omega), mset_ne (by omega), mset_ne (by omega), mset_at, va_up_ne _ _ (by omega)]; exact hnp
              have hbz : M_6 1 np = ((n : Nat) : Int) := by rw [eM_6, eM_5, eM_4, eM_3, mset_ne (by omega), mset_ne (by omega), mset_ne (by omega), mset_ne (by omega)]; exact hbv
              refine lv_aload_n hx hb d_MO_sign_115 rfl (lv_at hl 1 rfl) ?_
              refine z_get (ci := 7) (C := R_MO) (T := T_MO) (N := 32) (v := .ref (ad (1))) hx hb hg in_MO hown hK hP (0) (by decide) rfl rfl 5 (by decide) (hg _ (List.mem_append_right _ (List.mem_append_right _ (List.mem_append_right _ (List.mem_append_right _ (List.mem_append_right _ (List.mem_append_right _ (List.mem_append_right _ (List.mem_append_right _ (List.mem_append_right _ (List.mem_append_right _ (List.mem_append_right _ (List.mem_append_right _ (List.mem_append_right _ (List.mem_append_left _ (List.mem_of_getElem? (i := 8) rfl)))))))))))))))) (fun _ h9 => h9) rfl d_MO_sign_116 ?_
              refine lv_aload_n hx hb d_MO_sign_119 rfl (lv_at hl 1 rfl) ?_
              refine z_get (ci := 7) (C := R_MO) (T := T_MO) (N := 32) (v := .int (iI (M_6 (0) 4))) hx hb hg in_MO hown hK hP (0) (by decide) rfl rfl 4 (by decide) (hg _ (List.mem_append_right _ (List.mem_append_right _ (List.mem_append_right _ (List.mem_append_right _ (List.mem_append_right _ (List.mem_append_right _ (List.mem_append_right _ (List.mem_append_right _ (List.mem_append_right _ (List.mem_append_right _ (List.mem_append_right _ (List.mem_append_right _ (List.mem_append_right _ (List.mem_append_left _ (List.mem_of_getElem? (i := 7) rfl)))))))))))))))) (fun _ h9 => h9) rfl d_MO_sign_120 ?_
              refine lv_dup2_11 hx hb d_MO_sign_123 rfl rfl ?_
              refine z_iald hx hb hK hP (1) 0 (by decide) (fun _ => rfl) rfl (np) hnp4 (by omega) (by decide) d_MO_sign_124 ?_
              refine lv_topi (fun y_ ey => ?_)
              have ey := ey.trans (congrArg iI hbz)
              subst ey
              refine z_iconst hx hb (z := 1) d_MO_sign_125 ?_
              refine z_iadd hx hb d_MO_sign_126 (v := ((n + 1 : Nat) : Int)) (by omega) ?_
              refine z_iast hx hb hK hP hD hS (1) 0 (by decide) (fun _ => rfl) rfl (v := ((n + 1 : Nat) : Int)) (np) hnp4 (by omega) (by decide) d_MO_sign_127 (fun H locs hP hD hS => ?_)
              obtain ⟨M_7, eM_7⟩ : ∃ q_, q_ = mset M_6 (1) (np) (((n + 1 : Nat) : Int)) := ⟨_, rfl⟩
              have hP : va_P D vwCl (mo_w ad cs M_7) H := by rw [eM_7]; exact hP
              have hD : va_D (va_A (mo_w ad cs M) s.heap.size) (mo_w ad cs M_7) := by rw [eM_7]; exact hD
              refine lv_aload_n hx hb d_MO_sign_128 rfl (lv_at hl 1 rfl) ?_
              refine z_iconst hx hb (z := 0) d_MO_sign_129 ?_
              refine z_put (ci := 7) (C := R_MO) (T := T_MO) (N := 32) (v := .int (iI (0))) (ty := .boolean) (ce' := (mo_ce ad cs)) (r := va_up (M_7 (0)) 15 (0)) hx hb hg in_MO ty_MO tk_MO nm_MO hown hK hP hD hS (0) (by decide) rfl rfl 15 (by decide) (hg _ (List.mem_append_right _ (List.mem_append_right _ (List.mem_append_right _ (List.mem_append_right _ (List.mem_append_right _ (List.mem_append_right _ (List.mem_append_right _ (List.mem_append_right _ (List.mem_append_right _ (List.mem_append_right _ (List.mem_append_right _ (List.mem_append_right _ (List.mem_append_right _ (List.mem_append_left _ (List.mem_of_getElem? (i := 18) rfl)))))))))))))))) (fun _ h9 => h9) rfl (by decide +kernel) rfl rfl (Nat.le_of_ble_eq_true rfl) (fun _ _ => rfl) rfl d_MO_sign_130 (fun H locs hP hD hS => ?_)
              obtain ⟨M_8, eM_8⟩ : ∃ q_, q_ = mset M_7 (0) (15) (0) := ⟨_, rfl⟩
              have hP : va_P D vwCl (mo_w ad cs M_8) H := by rw [eM_8]; exact hP
              have hD : va_D (va_A (mo_w ad cs M) s.heap.size) (mo_w ad cs M_8) := by rw [eM_8]; exact hD
              refine lv_iload hx hb d_MO_sign_133 (lv_at hl 0 rfl) ?_
              have hM : M_8 = if r_sgc M np k wd h = 0 then r_sg M np n k wd h else mset M 0 0 (r_sgc M np k wd h) := by rw [hcd, if_pos rfl, eM_8, eM_7, eM_6, eM_5, eM_4, eM_3]; rfl
              have eW : mo_w ad cs (M_8) = mo_w ad cs (if r_sgc M np k wd h = 0 then r_sg M np n k wd h else mset M 0 0 (r_sgc M np k wd h)) := by rw [hM]
              have hP := Eq.mp (congrArg (fun q => va_P D vwCl q _) eW) hP
              have hD := Eq.mp (congrArg (va_D _) eW) hD
              exact W.iret (v := iI (((n : Nat) : Int))) hx hb hr (fun t ht hW => ⟨⟨_, (), rfl, by rw [hcd, if_pos rfl], by rw [ht]; exact hP, va_K.moved hW.alike hK, hD⟩, hS.F ht⟩) hS.2.2 d_MO_sign_135
            · exact absurd c_75 (by omega)
          · refine z_iconst hx hb (z := 3) d_MO_sign_63 ?_
            refine lv_goto (tgt := 68) hx hb d_MO_sign_64 (by decide) ?_
            have hcd : r_sgc M np k wd h = 3 := by unfold r_sgc; rw [if_neg (by omega), if_pos ⟨c_19, c_30, c_41⟩, if_pos (by omega)]
            refine z_put (ci := 7) (C := R_MO) (T := T_MO) (N := 32) (v := .int (iI (3))) (ty := .int) (ce' := (mo_ce ad cs)) (r := va_up (M (0)) 0 (3)) hx hb hg in_MO ty_MO tk_MO nm_MO hown hK hP hD hS (0) (by decide) rfl rfl 0 (by decide) (hg _ (List.mem_append_right _ (List.mem_append_right _ (List.mem_append_right _ (List.mem_append_right _ (List.mem_append_right _ (List.mem_append_right _ (List.mem_append_right _ (List.mem_append_right _ (List.mem_append_right _ (List.mem_append_right _ (List.mem_append_right _ (List.mem_append_right _ (List.mem_append_right _ (List.mem_append_left _ (List.mem_of_getElem? (i := 3) rfl)))))))))))))))) (fun _ h9 => h9) rfl (by decide +kernel) rfl rfl (Nat.le_of_ble_eq_true rfl) (fun _ _ => rfl) rfl d_MO_sign_68 (fun H locs hP hD hS => ?_)
            obtain ⟨M_9, eM_9⟩ : ∃ q_, q_ = mset M (0) (0) (3) := ⟨_, rfl⟩
            have hP : va_P D vwCl (mo_w ad cs M_9) H := by rw [eM_9]; exact hP
            have hD : va_D (va_A (mo_w ad cs M) s.heap.size) (mo_w ad cs M_9) := by rw [eM_9]; exact hD
            have g0 : M_9 0 0 = 3 := by rw [eM_9]; exact mset_same _ _ _ _
            have hnp1 : M_9 0 4 = ((np : Nat) : Int) := by rw [eM_9, mset_at, va_up_ne _ _ (by omega)]; exact hnp
            refine lv_aload_n hx hb d_MO_sign_71 rfl (lv_at hl 0 rfl) ?_
            refine z_get (ci := 7) (C := R_MO) (T := T_MO) (N := 32) (v := .int (iI (M_9 (0) 0))) hx hb hg in_MO hown hK hP (0) (by decide) rfl rfl 0 (by decide) (hg _ (List.mem_append_right _ (List.mem_append_right _ (List.mem_append_right _ (List.mem_append_right _ (List.mem_append_right _ (List.mem_append_right _ (List.mem_append_right _ (List.mem_append_right _ (List.mem_append_right _ (List.mem_append_right _ (List.mem_append_right _ (List.mem_append_right _ (List.mem_append_right _ (List.mem_append_left _ (List.mem_of_getElem? (i := 3) rfl)))))))))))))))) (fun _ h9 => h9) rfl d_MO_sign_72 ?_
            refine z_if_le hx hb (tgt := 80) d_MO_sign_75 (by decide) ⟨by omega, by omega⟩ (fun c_75 => ?_) (fun c_75 => ?_)
            · exact absurd c_75 (by omega)
            · refine z_iconst hx hb (z := 0) d_MO_sign_78 ?_
              have hM : M_9 = if r_sgc M np k wd h = 0 then r_sg M np n k wd h else mset M 0 0 (r_sgc M np k wd h) := by rw [hcd, if_neg (by omega), eM_9]
              have eW : mo_w ad cs (M_9) = mo_w ad cs (if r_sgc M np k wd h = 0 then r_sg M np n k wd h else mset M 0 0 (r_sgc M np k wd h)) := by rw [hM]
              have hP := Eq.mp (congrArg (fun q => va_P D vwCl q _) eW) hP
              have hD := Eq.mp (congrArg (va_D _) eW) hD
              exact W.iret (v := iI (0)) hx hb hr (fun t ht hW => ⟨⟨_, (), rfl, by rw [hcd, if_neg (by omega)], by rw [ht]; exact hP, va_K.moved hW.alike hK, hD⟩, hS.F ht⟩) hS.2.2 d_MO_sign_79
        · refine z_iconst hx hb (z := 2) d_MO_sign_44 ?_
          refine lv_goto (tgt := 68) hx hb d_MO_sign_45 (by decide) ?_
          have hcd : r_sgc M np k wd h = 2 := by unfold r_sgc; rw [if_neg (by omega), if_neg (fun g => c_41 g.2.2)]
          refine z_put (ci := 7) (C := R_MO) (T := T_MO) (N := 32) (v := .int (iI (2))) (ty := .int) (ce' := (mo_ce ad cs)) (r := va_up (M (0)) 0 (2)) hx hb hg in_MO ty_MO tk_MO nm_MO hown hK hP hD hS (0) (by decide) rfl rfl 0 (by decide) (hg _ (List.mem_append_right _ (List.mem_append_right _ (List.mem_append_right _ (List.mem_append_right _ (List.mem_append_right _ (List.mem_append_right _ (List.mem_append_right _ (List.mem_append_right _ (List.mem_append_right _ (List.mem_append_right _ (List.mem_append_right _ (List.mem_append_right _ (List.mem_append_right _ (List.mem_append_left _ (List.mem_of_getElem? (i := 3) rfl)))))))))))))))) (fun _ h9 => h9) rfl (by decide +kernel) rfl rfl (Nat.le_of_ble_eq_true rfl) (fun _ _ => rfl) rfl d_MO_sign_68 (fun H locs hP hD hS => ?_)
          obtain ⟨M_10, eM_10⟩ : ∃ q_, q_ = mset M (0) (0) (2) := ⟨_, rfl⟩
          have hP : va_P D vwCl (mo_w ad cs M_10) H := by rw [eM_10]; exact hP
          have hD : va_D (va_A (mo_w ad cs M) s.heap.size) (mo_w ad cs M_10) := by rw [eM_10]; exact hD
          have g0 : M_10 0 0 = 2 := by rw [eM_10]; exact mset_same _ _ _ _
          have hnp1 : M_10 0 4 = ((np : Nat) : Int) := by rw [eM_10, mset_at, va_up_ne _ _ (by omega)]; exact hnp
          refine lv_aload_n hx hb d_MO_sign_71 rfl (lv_at hl 0 rfl) ?_
          refine z_get (ci := 7) (C := R_MO) (T := T_MO) (N := 32) (v := .int (iI (M_10 (0) 0))) hx hb hg in_MO hown hK hP (0) (by decide) rfl rfl 0 (by decide) (hg _ (List.mem_append_right _ (List.mem_append_right _ (List.mem_append_right _ (List.mem_append_right _ (List.mem_append_right _ (List.mem_append_right _ (List.mem_append_right _ (List.mem_append_right _ (List.mem_append_right _ (List.mem_append_right _ (List.mem_append_right _ (List.mem_append_right _ (List.mem_append_right _ (List.mem_append_left _ (List.mem_of_getElem? (i := 3) rfl)))))))))))))))) (fun _ h9 => h9) rfl d_MO_sign_72 ?_
          refine z_if_le hx hb (tgt := 80) d_MO_sign_75 (by decide) ⟨by omega, by omega⟩ (fun c_75 => ?_) (fun c_75 => ?_)
          · exact absurd c_75 (by omega)
          · refine z_iconst hx hb (z := 0) d_MO_sign_78 ?_
            have hM : M_10 = if r_sgc M np k wd h = 0 then r_sg M np n k wd h else mset M 0 0 (r_sgc M np k wd h) := by rw [hcd, if_neg (by omega), eM_10]
            have eW : mo_w ad cs (M_10) = mo_w ad cs (if r_sgc M np k wd h = 0 then r_sg M np n k wd h else mset M 0 0 (r_sgc M np k wd h)) := by rw [hM]
            have hP := Eq.mp (congrArg (fun q => va_P D vwCl q _) eW) hP
            have hD := Eq.mp (congrArg (va_D _) eW) hD
            exact W.iret (v := iI (0)) hx hb hr (fun t ht hW => ⟨⟨_, (), rfl, by rw [hcd, if_neg (by omega)], by rw [ht]; exact hP, va_K.moved hW.alike hK, hD⟩, hS.F ht⟩) hS.2.2 d_MO_sign_79
  · refine z_iconst hx hb (z := 1) d_MO_sign_8 ?_
    refine lv_goto (tgt := 68) hx hb d_MO_sign_9 (by decide) ?_
    have hcd : r_sgc M np k wd h = 1 := by unfold r_sgc; rw [if_pos (by omega)]
    refine z_put (ci := 7) (C := R_MO) (T := T_MO) (N := 32) (v := .int (iI (1))) (ty := .int) (ce' := (mo_ce ad cs)) (r := va_up (M (0)) 0 (1)) hx hb hg in_MO ty_MO tk_MO nm_MO hown hK hP hD hS (0) (by decide) rfl rfl 0 (by decide) (hg _ (List.mem_append_right _ (List.mem_append_right _ (List.mem_append_right _ (List.mem_append_right _ (List.mem_append_right _ (List.mem_append_right _ (List.mem_append_right _ (List.mem_append_right _ (List.mem_append_right _ (List.mem_append_right _ (List.mem_append_right _ (List.mem_append_right _ (List.mem_append_right _ (List.mem_append_left _ (List.mem_of_getElem? (i := 3) rfl)))))))))))))))) (fun _ h9 => h9) rfl (by decide +kernel) rfl rfl (Nat.le_of_ble_eq_true rfl) (fun _ _ => rfl) rfl d_MO_sign_68 (fun H locs hP hD hS => ?_)
    obtain ⟨M_11, eM_11⟩ : ∃ q_, q_ = mset M (0) (0) (1) := ⟨_, rfl⟩
    have hP : va_P D vwCl (mo_w ad cs M_11) H := by rw [eM_11]; exact hP
    have hD : va_D (va_A (mo_w ad cs M) s.heap.size) (mo_w ad cs M_11) := by rw [eM_11]; exact hD
    have g0 : M_11 0 0 = 1 := by rw [eM_11]; exact mset_same _ _ _ _
    have hnp1 : M_11 0 4 = ((np : Nat) : Int) := by rw [eM_11, mset_at, va_up_ne _ _ (by omega)]; exact hnp
    refine lv_aload_n hx hb d_MO_sign_71 rfl (lv_at hl 0 rfl) ?_
    refine z_get (ci := 7) (C := R_MO) (T := T_MO) (N := 32) (v := .int (iI (M_11 (0) 0))) hx hb hg in_MO hown hK hP (0) (by decide) rfl rfl 0 (by decide) (hg _ (List.mem_append_right _ (List.mem_append_right _ (List.mem_append_right _ (List.mem_append_right _ (List.mem_append_right _ (List.mem_append_right _ (List.mem_append_right _ (List.mem_append_right _ (List.mem_append_right _ (List.mem_append_right _ (List.mem_append_right _ (List.mem_append_right _ (List.mem_append_right _ (List.mem_append_left _ (List.mem_of_getElem? (i := 3) rfl)))))))))))))))) (fun _ h9 => h9) rfl d_MO_sign_72 ?_
    refine z_if_le hx hb (tgt := 80) d_MO_sign_75 (by decide) ⟨by omega, by omega⟩ (fun c_75 => ?_) (fun c_75 => ?_)
    · exact absurd c_75 (by omega)
    · refine z_iconst hx hb (z := 0) d_MO_sign_78 ?_
      have hM : M_11 = if r_sgc M np k wd h = 0 then r_sg M np n k wd h else mset M 0 0 (r_sgc M np k wd h) := by rw [hcd, if_neg (by omega), eM_11]
      have eW : mo_w ad cs (M_11) = mo_w ad cs (if r_sgc M np k wd h = 0 then r_sg M np n k wd h else mset M 0 0 (r_sgc M np k wd h)) := by rw [hM]
      have hP := Eq.mp (congrArg (fun q => va_P D vwCl q _) eW) hP
      have hD := Eq.mp (congrArg (va_D _) eW) hD
      exact W.iret (v := iI (0)) hx hb hr (fun t ht hW => ⟨⟨_, (), rfl, by rw [hcd, if_neg (by omega)], by rw [ht]; exact hP, va_K.moved hW.alike hK, hD⟩, hS.F ht⟩) hS.2.2 d_MO_sign_79
set_option maxHeartbeats 4000000 in
set_option maxRecDepth 100000 in
/-- shape -/
theorem r_shape (l : Launch) {D : va_G} {ad : Nat → Nat} {cs : ClassId} {M : Nat → Nat → Int} (sz : Nat) (np : Nat) (x wh v : Int) (hx0 : zb x) (hw : zb wh) (hv : zb v) (hnp : M 0 4 = ((np : Nat) : Int)) (hn : np ≤ 30) : Met l y_MO_shape ws_MO_shape ({ frames := 2, cells := 0, slots := 0, locals := 43 } : Room) (va_Pc [.ref (ad (0)), .int (iI (x)), .int (iI (wh)), .int (iI (v))] (rw_B D vwCl (mo_tys cs) (mo_w ad cs M) sz)) (va_Qv (fun _ : Unit => True) (rw_E D vwCl (mo_tys cs) (mo_w ad cs M) (mo_w ad cs (if r_spc np x wh v = 0 then r_spM M x.toNat wh.toNat v else mset M 0 0 (r_spc np x wh v))) sz) (va_A (mo_w ad cs M) sz)) 0 0 (va_A (mo_w ad cs M) sz) := by
  refine Met.ofW (cc := b_MO_shape) (maxL := 4) (ret := none) (by decide) rfl ?_
  intro p e s m args below meth c s₁ B hml hv
  obtain ⟨rfl, hsz, hP, hK, hD0⟩ := hv
  have hx := B.exec
  have hb := B.bytes
  have hr := B.returns
  have hts := atoms_spec (ws := ws_MO_shape) B.pre
  have hg : ∀ w ∈ gt, w.before _ s = true := fun w h => hts w (List.mem_cons_of_mem _ h)
  have hown : s.vm.findClass R_MO = some m.cls := findClass_of_methodNamed B.named
  have hlocks := B.notSynchronized
  subst hsz
  have hD := hD0.self (sz := s.heap.size)
  have hA : ∀ q : Nat, s.heap.size ≤ q → va_A (mo_w ad cs M) s.heap.size q := fun q h => Or.inr h
  have hS : va_S (va_A (mo_w ad cs M) s.heap.size) s.heap s.heap [] := va_S.rf
  have hl := lv_entry ([.ref (ad (0)), .int (iI (x)), .int (iI (wh)), .int (iI (v))]) (n := 4) (Nat.le_of_ble_eq_true rfl)
  rw [lg_entry_eq]
  generalize (lg_sl ([.ref (ad (0)), .int (iI (x)), .int (iI (wh)), .int (iI (v))]) ++ List.replicate (4 - (lg_sl ([.ref (ad (0)), .int (iI (x)), .int (iI (wh)), .int (iI (v))])).length) Slot.unset).toArray = ls at hl ⊢
  have hl : lv_has ls 4 [(0, .ref (ad (0))), (1, .int (iI (x))), (2, .int (iI (wh))), (3, .int (iI (v)))] := hl
  obtain ⟨hx1, hx2⟩ := hx0
  obtain ⟨hw1, hw2⟩ := hw
  obtain ⟨hv1, hv2⟩ := hv
  have hle := r_leastb wh
  have hmo := r_mostb wh
  refine lv_aload_n hx hb d_MO_shape_0 rfl (lv_at hl 0 rfl) ?_
  refine lv_aload_n hx hb d_MO_shape_1 rfl (lv_at hl 0 rfl) ?_
  refine lv_iload_n hx hb d_MO_shape_2 rfl (lv_at hl 1 rfl) ?_
  refine ro_V (As := [.int (iI (x))]) (rest := [.ref (ad (0))]) (z := bz (inn x 0 (((np : Nat) : Int) - 1)) inferInstance) ⟨hx, hb, hml, hown, hg⟩ (r_isPar l np x ⟨hx1, hx2⟩ hnp hn) (cwV 1 hg (gt_V (List.mem_append_right _ (List.mem_append_right _ (List.mem_append_right _ (List.mem_append_right _ (List.mem_append_right _ (List.mem_append_right _ (List.mem_append_right _ (List.mem_append_right _ (List.mem_append_right _ (List.mem_append_right _ (List.mem_append_right _ (List.mem_append_right _ (List.mem_append_right _ (List.mem_append_right _ (List.mem_append_right _ (List.mem_append_left _ (List.mem_of_getElem? (i := 10) rfl))))))))))))))))) (List.mem_append_right _ (List.mem_append_right _ (List.mem_append_right _ (List.mem_append_right _ (List.mem_append_right _ (List.mem_append_right _ (List.mem_append_right _ (List.mem_append_right _ (List.mem_append_right _ (List.mem_append_right _ (List.mem_append_right _ (List.mem_append_right _ (List.mem_append_right _ (List.mem_append_right _ (List.mem_append_right _ (List.mem_append_left _ (List.mem_of_getElem? (i := 11) rfl))))))))))))))))) (List.mem_append_left _ (List.mem_of_getElem? (i := 22) rfl)) (List.mem_append_right _ (List.mem_append_left _ (List.mem_of_getElem? (i := 9) rfl))) (List.mem_append_right _ (List.mem_append_right _ (List.mem_append_right _ (List.mem_append_right _ (List.mem_append_right _ (List.mem_append_right _ (List.mem_append_right _ (List.mem_append_right _ (List.mem_append_right _ (List.mem_append_right _ (List.mem_append_right _ (List.mem_append_right _ (List.mem_append_right _ (List.mem_append_right _ (List.mem_append_right _ (List.mem_append_left _ (List.mem_of_getElem? (i := 12) rfl)))))))))))))))))) rfl rfl rfl (by decide +kernel) ⟨Nat.le_of_ble_eq_true rfl, Nat.le_of_ble_eq_true rfl⟩) hK hP (va_recv hK hP (ci := 7) (q0 := 0) rfl (wl_atE (by decide) rfl)) rfl hl.1 rfl (Nat.le_of_ble_eq_true rfl) d_MO_shape_3 ⟨Nat.zero_le _, Nat.zero_le _⟩ ?_
  refine z_ifb_ne hx hb (tgt := 13) d_MO_shape_6 (by decide) (fun c_6 => ?_) (fun c_6 => ?_)
  · refine lv_iload_n hx hb d_MO_shape_13 rfl (lv_at hl 2 rfl) ?_
    refine z_iconst hx hb (z := 0) d_MO_shape_14 ?_
    refine z_bipush hx hb (z := 10) d_MO_shape_15 (by decide) ?_
    refine ro_S (As := [.int (iI (wh)), .int (iI (0)), .int (iI (10))]) (rest := [.ref (ad (0))]) (z := bz (inn (wh) (0) (10)) inferInstance) ⟨hx, hb, hml, hown, hg⟩ (r_in l (wh) (0) (10) ⟨by omega, by omega⟩ ⟨by decide, by decide⟩ ⟨by decide, by decide⟩) (cwS 3 hg (gt_S (List.mem_append_right _ (List.mem_append_right _ (List.mem_append_right _ (List.mem_append_right _ (List.mem_append_right _ (List.mem_append_right _ (List.mem_append_right _ (List.mem_append_right _ (List.mem_append_right _ (List.mem_append_right _ (List.mem_append_right _ (List.mem_append_right _ (List.mem_append_right _ (List.mem_append_right _ (List.mem_append_right _ (List.mem_append_left _ (List.mem_of_getElem? (i := 3) rfl))))))))))))))))) (List.mem_append_right _ (List.mem_append_right _ (List.mem_append_right _ (List.mem_append_right _ (List.mem_append_right _ (List.mem_append_right _ (List.mem_append_right _ (List.mem_append_right _ (List.mem_append_right _ (List.mem_append_right _ (List.mem_append_right _ (List.mem_append_right _ (List.mem_append_right _ (List.mem_append_right _ (List.mem_append_right _ (List.mem_append_left _ (List.mem_of_getElem? (i := 4) rfl))))))))))))))))) (List.mem_append_right _ (List.mem_append_left _ (List.mem_of_getElem? (i := 9) rfl))) (List.mem_append_right _ (List.mem_append_right _ (List.mem_append_right _ (List.mem_append_right _ (List.mem_append_right _ (List.mem_append_right _ (List.mem_append_right _ (List.mem_append_right _ (List.mem_append_right _ (List.mem_append_right _ (List.mem_append_right _ (List.mem_append_right _ (List.mem_append_right _ (List.mem_append_right _ (List.mem_append_right _ (List.mem_append_left _ (List.mem_of_getElem? (i := 5) rfl)))))))))))))))))) rfl rfl rfl (by decide +kernel) ⟨Nat.le_of_ble_eq_true rfl, Nat.le_of_ble_eq_true rfl⟩) hK hP rfl hl.1 rfl (Nat.le_of_ble_eq_true rfl) d_MO_shape_17 ⟨Nat.zero_le _, Nat.zero_le _⟩ ?_
    refine z_ifb_eq hx hb (tgt := 38) d_MO_shape_20 (by decide) (fun c_20 => ?_) (fun c_20 => ?_)
    · refine z_iconst hx hb (z := 2) d_MO_shape_38 ?_
      refine lv_goto (tgt := 43) hx hb d_MO_shape_39 (by decide) ?_
      have hcd : r_spc np x wh v = 2 := by unfold r_spc; rw [if_pos c_6, if_neg (fun g => c_20 g.1)]
      refine z_put (ci := 7) (C := R_MO) (T := T_MO) (N := 32) (v := .int (iI (2))) (ty := .int) (ce' := (mo_ce ad cs)) (r := va_up (M (0)) 0 (2)) hx hb hg in_MO ty_MO tk_MO nm_MO hown hK hP hD hS (0) (by decide) rfl rfl 0 (by decide) (hg _ (List.mem_append_right _ (List.mem_append_right _ (List.mem_append_right _ (List.mem_append_right _ (List.mem_append_right _ (List.mem_append_right _ (List.mem_append_right _ (List.mem_append_right _ (List.mem_append_right _ (List.mem_append_right _ (List.mem_append_right _ (List.mem_append_right _ (List.mem_append_right _ (List.mem_append_left _ (List.mem_of_getElem? (i := 3) rfl)))))))))))))))) (fun _ h9 => h9) rfl (by decide +kernel) rfl rfl (Nat.le_of_ble_eq_true rfl) (fun _ _ => rfl) rfl d_MO_shape_43 (fun H locs hP hD hS => ?_)
      obtain ⟨M_1, eM_1⟩ : ∃ q_, q_ = mset M (0) (0) (2) := ⟨_, rfl⟩
      have hP : va_P D vwCl (mo_w ad cs M_1) H := by rw [eM_1]; exact hP
      have hD : va_D (va_A (mo_w ad cs M) s.heap.size) (mo_w ad cs M_1) := by rw [eM_1]; exact hD
      have g0 : M_1 0 0 = 2 := by rw [eM_1]; exact mset_same _ _ _ _
      refine lv_aload_n hx hb d_MO_shape_46 rfl (lv_at hl 0 rfl) ?_
      refine z_get (ci := 7) (C := R_MO) (T := T_MO) (N := 32) (v := .int (iI (M_1 (0) 0))) hx hb hg in_MO hown hK hP (0) (by decide) rfl rfl 0 (by decide) (hg _ (List.mem_append_right _ (List.mem_append_right _ (List.mem_append_right _ (List.mem_append_right _ (List.mem_append_right _ (List.mem_append_right _ (List.mem_append_right _ (List.mem_append_right _ (List.mem_append_right _ (List.mem_append_right _ (List.mem_append_right _ (List.mem_append_right _ (List.mem_append_right _ (List.mem_append_left _ (List.mem_of_getElem? (i := 3) rfl)))))))))))))))) (fun _ h9 => h9) rfl d_MO_shape_47 ?_
      refine z_if_le hx hb (tgt := 54) d_MO_shape_50 (by decide) ⟨by omega, by omega⟩ (fun c_50 => ?_) (fun c_50 => ?_)
      · exact absurd c_50 (by omega)
      · have hM : M_1 = if r_spc np x wh v = 0 then r_spM M x.toNat wh.toNat v else mset M 0 0 (r_spc np x wh v) := by rw [hcd, if_neg (by omega), eM_1]
        have eW : mo_w ad cs (M_1) = mo_w ad cs (if r_spc np x wh v = 0 then r_spM M x.toNat wh.toNat v else mset M 0 0 (r_spc np x wh v)) := by rw [hM]
        have hP := Eq.mp (congrArg (fun q => va_P D vwCl q _) eW) hP
        have hD := Eq.mp (congrArg (va_D _) eW) hD
        exact W.vret hx hb hr (fun t ht hW => ⟨⟨(), rfl, trivial, by rw [ht]; exact hP, va_K.moved hW.alike hK, hD⟩, hS.F ht⟩) hS.2.2 d_MO_shape_53
    · refine lv_iload_n hx hb d_MO_shape_23 rfl (lv_at hl 3 rfl) ?_
      refine lv_iload_n hx hb d_MO_shape_24 rfl (lv_at hl 2 rfl) ?_
      refine ro_S (As := [.int (iI (wh))]) (rest := [.int (iI (v)), .ref (ad (0))]) (z := r_least wh) ⟨hx, hb, hml, hown, hg⟩ (r_leastc l wh ⟨hw1, hw2⟩) (cwS 1 hg (gt_S (List.mem_append_right _ (List.mem_append_right _ (List.mem_append_right _ (List.mem_append_right _ (List.mem_append_right _ (List.mem_append_right _ (List.mem_append_right _ (List.mem_append_right _ (List.mem_append_right _ (List.mem_append_right _ (List.mem_append_right _ (List.mem_append_right _ (List.mem_append_right _ (List.mem_append_right _ (List.mem_append_right _ (List.mem_append_left _ (List.mem_of_getElem? (i := 13) rfl))))))))))))))))) (List.mem_append_right _ (List.mem_append_right _ (List.mem_append_right _ (List.mem_append_right _ (List.mem_append_right _ (List.mem_append_right _ (List.mem_append_right _ (List.mem_append_right _ (List.mem_append_right _ (List.mem_append_right _ (List.mem_append_right _ (List.mem_append_right _ (List.mem_append_right _ (List.mem_append_right _ (List.mem_append_right _ (List.mem_append_left _ (List.mem_of_getElem? (i := 14) rfl))))))))))))))))) (List.mem_append_right _ (List.mem_append_left _ (List.mem_of_getElem? (i := 9) rfl))) (List.mem_append_right _ (List.mem_append_right _ (List.mem_append_right _ (List.mem_append_right _ (List.mem_append_right _ (List.mem_append_right _ (List.mem_append_right _ (List.mem_append_right _ (List.mem_append_right _ (List.mem_append_right _ (List.mem_append_right _ (List.mem_append_right _ (List.mem_append_right _ (List.mem_append_right _ (List.mem_append_right _ (List.mem_append_left _ (List.mem_of_getElem? (i := 15) rfl)))))))))))))))))) rfl rfl rfl (by decide +kernel) ⟨Nat.le_of_ble_eq_true rfl, Nat.le_of_ble_eq_true rfl⟩) hK hP rfl hl.1 rfl (Nat.le_of_ble_eq_true rfl) d_MO_shape_25 ⟨Nat.zero_le _, Nat.zero_le _⟩ ?_
      refine lv_iload_n hx hb d_MO_shape_28 rfl (lv_at hl 2 rfl) ?_
      refine ro_S (As := [.int (iI (wh))]) (rest := [.int (iI (r_least wh)), .int (iI (v)), .ref (ad (0))]) (z := r_most wh) ⟨hx, hb, hml, hown, hg⟩ (r_mostc l wh ⟨hw1, hw2⟩) (cwS 1 hg (gt_S (List.mem_append_right _ (List.mem_append_right _ (List.mem_append_right _ (List.mem_append_right _ (List.mem_append_right _ (List.mem_append_right _ (List.mem_append_right _ (List.mem_append_right _ (List.mem_append_right _ (List.mem_append_right _ (List.mem_append_right _ (List.mem_append_right _ (List.mem_append_right _ (List.mem_append_right _ (List.mem_append_right _ (List.mem_append_left _ (List.mem_of_getElem? (i := 16) rfl))))))))))))))))) (List.mem_append_right _ (List.mem_append_right _ (List.mem_append_right _ (List.mem_append_right _ (List.mem_append_right _ (List.mem_append_right _ (List.mem_append_right _ (List.mem_append_right _ (List.mem_append_right _ (List.mem_append_right _ (List.mem_append_right _ (List.mem_append_right _ (List.mem_append_right _ (List.mem_append_right _ (List.mem_append_right _ (List.mem_append_left _ (List.mem_of_getElem? (i := 17) rfl))))))))))))))))) (List.mem_append_right _ (List.mem_append_left _ (List.mem_of_getElem? (i := 9) rfl))) (List.mem_append_right _ (List.mem_append_right _ (List.mem_append_right _ (List.mem_append_right _ (List.mem_append_right _ (List.mem_append_right _ (List.mem_append_right _ (List.mem_append_right _ (List.mem_append_right _ (List.mem_append_right _ (List.mem_append_right _ (List.mem_append_right _ (List.mem_append_right _ (List.mem_append_right _ (List.mem_append_right _ (List.mem_append_left _ (List.mem_of_getElem? (i := 18) rfl)))))))))))))))))) rfl rfl rfl (by decide +kernel) ⟨Nat.le_of_ble_eq_true rfl, Nat.le_of_ble_eq_true rfl⟩) hK hP rfl hl.1 rfl (Nat.le_of_ble_eq_true rfl) d_MO_shape_29 ⟨Nat.zero_le _, Nat.zero_le _⟩ ?_
      refine ro_S (As := [.int (iI (v)), .int (iI (r_least wh)), .int (iI (r_most wh))]) (rest := [.ref (ad (0))]) (z := bz (inn (v) (r_least wh) (r_most wh)) inferInstance) ⟨hx, hb, hml, hown, hg⟩ (r_in l (v) (r_least wh) (r_most wh) ⟨by omega, by omega⟩ ⟨by omega, by omega⟩ ⟨by omega, by omega⟩) (cwS 3 hg (gt_S (List.mem_append_right _ (List.mem_append_right _ (List.mem_append_right _ (List.mem_append_right _ (List.mem_append_right _ (List.mem_append_right _ (List.mem_append_right _ (List.mem_append_right _ (List.mem_append_right _ (List.mem_append_right _ (List.mem_append_right _ (List.mem_append_right _ (List.mem_append_right _ (List.mem_append_right _ (List.mem_append_right _ (List.mem_append_left _ (List.mem_of_getElem? (i := 3) rfl))))))))))))))))) (List.mem_append_right _ (List.mem_append_right _ (List.mem_append_right _ (List.mem_append_right _ (List.mem_append_right _ (List.mem_append_right _ (List.mem_append_right _ (List.mem_append_right _ (List.mem_append_right _ (List.mem_append_right _ (List.mem_append_right _ (List.mem_append_right _ (List.mem_append_right _ (List.mem_append_right _ (List.mem_append_right _ (List.mem_append_left _ (List.mem_of_getElem? (i := 4) rfl))))))))))))))))) (List.mem_append_right _ (List.mem_append_left _ (List.mem_of_getElem? (i := 9) rfl))) (List.mem_append_right _ (List.mem_append_right _ (List.mem_append_right _ (List.mem_append_right _ (List.mem_append_right _ (List.mem_append_right _ (List.mem_append_right _ (List.mem_append_right _ (List.mem_append_right _ (List.mem_append_right _ (List.mem_append_right _ (List.mem_append_right _ (List.mem_append_right _ (List.mem_append_right _ (List.mem_append_right _ (List.mem_append_left _ (List.mem_of_getElem? (i := 5) rfl)))))))))))))))))) rfl rfl rfl (by decide +kernel) ⟨Nat.le_of_ble_eq_true rfl, Nat.le_of_ble_eq_true rfl⟩) hK hP rfl hl.1 rfl (Nat.le_of_ble_eq_true rfl) d_MO_shape_32 ⟨Nat.zero_le _, Nat.zero_le _⟩ ?_
      refine z_ifb_ne hx hb (tgt := 42) d_MO_shape_35 (by decide) (fun c_35 => ?_) (fun c_35 => ?_)
      · refine z_iconst hx hb (z := 0) d_MO_shape_42 ?_
        have hcd : r_spc np x wh v = 0 := by unfold r_spc; rw [if_pos c_6, if_pos ⟨c_20, c_35⟩]
        refine z_put (ci := 7) (C := R_MO) (T := T_MO) (N := 32) (v := .int (iI (0))) (ty := .int) (ce' := (mo_ce ad cs)) (r := va_up (M (0)) 0 (0)) hx hb hg in_MO ty_MO tk_MO nm_MO hown hK hP hD hS (0) (by decide) rfl rfl 0 (by decide) (hg _ (List.mem_append_right _ (List.mem_append_right _ (List.mem_append_right _ (List.mem_append_right _ (List.mem_append_right _ (List.mem_append_right _ (List.mem_append_right _ (List.mem_append_right _ (List.mem_append_right _ (List.mem_append_right _ (List.mem_append_right _ (List.mem_append_right _ (List.mem_append_right _ (List.mem_append_left _ (List.mem_of_getElem? (i := 3) rfl)))))))))))))))) (fun _ h9 => h9) rfl (by decide +kernel) rfl rfl (Nat.le_of_ble_eq_true rfl) (fun _ _ => rfl) rfl d_MO_shape_43 (fun H locs hP hD hS => ?_)
        obtain ⟨M_2, eM_2⟩ : ∃ q_, q_ = mset M (0) (0) (0) := ⟨_, rfl⟩
        have hP : va_P D vwCl (mo_w ad cs M_2) H := by rw [eM_2]; exact hP
        have hD : va_D (va_A (mo_w ad cs M) s.heap.size) (mo_w ad cs M_2) := by rw [eM_2]; exact hD
        have g0 : M_2 0 0 = 0 := by rw [eM_2]; exact mset_same _ _ _ _
        refine lv_aload_n hx hb d_MO_shape_46 rfl (lv_at hl 0 rfl) ?_
        refine z_get (ci := 7) (C := R_MO) (T := T_MO) (N := 32) (v := .int (iI (M_2 (0) 0))) hx hb hg in_MO hown hK hP (0) (by decide) rfl rfl 0 (by decide) (hg _ (List.mem_append_right _ (List.mem_append_right _ (List.mem_append_right _ (List.mem_append_right _ (List.mem_append_right _ (List.mem_append_right _ (List.mem_append_right _ (List.mem_append_right _ (List.mem_append_right _ (List.mem_append_right _ (List.mem_append_right _ (List.mem_append_right _ (List.mem_append_right _ (List.mem_append_left _ (List.mem_of_getElem? (i := 3) rfl)))))))))))))))) (fun _ h9 => h9) rfl d_MO_shape_47 ?_
        refine z_if_le hx hb (tgt := 54) d_MO_shape_50 (by decide) ⟨by omega, by omega⟩ (fun c_50 => ?_) (fun c_50 => ?_)
        · refine lv_aload_n hx hb d_MO_shape_54 rfl (lv_at hl 0 rfl) ?_
          refine z_get (ci := 7) (C := R_MO) (T := T_MO) (N := 32) (v := .ref (ad (2))) hx hb hg in_MO hown hK hP (0) (by decide) rfl rfl 6 (by decide) (hg _ (List.mem_append_right _ (List.mem_append_right _ (List.mem_append_right _ (List.mem_append_right _ (List.mem_append_right _ (List.mem_append_right _ (List.mem_append_right _ (List.mem_append_right _ (List.mem_append_right _ (List.mem_append_right _ (List.mem_append_right _ (List.mem_append_right _ (List.mem_append_right _ (List.mem_append_left _ (List.mem_of_getElem? (i := 9) rfl)))))))))))))))) (fun _ h9 => h9) rfl d_MO_shape_55 ?_
          refine z_bipush hx hb (z := 11) d_MO_shape_58 (by decide) ?_
          refine lv_iload_n hx hb d_MO_shape_60 rfl (lv_at hl 1 rfl) ?_
          refine z_imul hx hb d_MO_shape_61 (v := (11 * x)) rfl ?_
          refine lv_iload_n hx hb d_MO_shape_62 rfl (lv_at hl 2 rfl) ?_
          refine z_iadd hx hb d_MO_shape_63 (v := ((11 * x) + wh)) rfl ?_
          refine lv_iload_n hx hb d_MO_shape_64 rfl (lv_at hl 3 rfl) ?_
          refine z_iast hx hb hK hP hD hS (2) 0 (by decide) (fun _ => rfl) rfl (v := v) (11 * x.toNat + wh.toNat) (by omega) (by omega) (by decide) d_MO_shape_65 (fun H locs hP hD hS => ?_)
          obtain ⟨M_3, eM_3⟩ : ∃ q_, q_ = mset M_2 (2) (11 * x.toNat + wh.toNat) (v) := ⟨_, rfl⟩
          have hP : va_P D vwCl (mo_w ad cs M_3) H := by rw [eM_3]; exact hP
          have hD : va_D (va_A (mo_w ad cs M) s.heap.size) (mo_w ad cs M_3) := by rw [eM_3]; exact hD
          refine lv_aload_n hx hb d_MO_shape_66 rfl (lv_at hl 0 rfl) ?_
          refine z_iconst hx hb (z := 0) d_MO_shape_67 ?_
          refine z_put (ci := 7) (C := R_MO) (T := T_MO) (N := 32) (v := .int (iI (0))) (ty := .boolean) (ce' := (mo_ce ad cs)) (r := va_up (M_3 (0)) 15 (0)) hx hb hg in_MO ty_MO tk_MO nm_MO hown hK hP hD hS (0) (by decide) rfl rfl 15 (by decide) (hg _ (List.mem_append_right _ (List.mem_append_right _ (List.mem_append_right _ (List.mem_append_right _ (List.mem_append_right _ (List.mem_append_right _ (List.mem_append_right _ (List.mem_append_right _ (List.mem_append_right _ (List.mem_append_right _ (List.mem_append_right _ (List.mem_append_right _ (List.mem_append_right _ (List.mem_append_left _ (List.mem_of_getElem? (i := 18) rfl)))))))))))))))) (fun _ h9 => h9) rfl (by decide +kernel) rfl rfl (Nat.le_of_ble_eq_true rfl) (fun _ _ => rfl) rfl d_MO_shape_68 (fun H locs hP hD hS => ?_)
          obtain ⟨M_4, eM_4⟩ : ∃ q_, q_ = mset M_3 (0) (15) (0) := ⟨_, rfl⟩
          have hP : va_P D vwCl (mo_w ad cs M_4) H := by rw [eM_4]; exact hP
          have hD : va_D (va_A (mo_w ad cs M) s.heap.size) (mo_w ad cs M_4) := by rw [eM_4]; exact hD
          have hM : M_4 = if r_spc np x wh v = 0 then r_spM M x.toNat wh.toNat v else mset M 0 0 (r_spc np x wh v) := by rw [hcd, if_pos rfl, eM_4, eM_3, eM_2]; rfl
          have eW : mo_w ad cs (M_4) = mo_w ad cs (if r_spc np x wh v = 0 then r_spM M x.toNat wh.toNat v else mset M 0 0 (r_spc np x wh v)) := by rw [hM]
          have hP := Eq.mp (congrArg (fun q => va_P D vwCl q _) eW) hP
          have hD := Eq.mp (congrArg (va_D _) eW) hD
          exact W.vret hx hb hr (fun t ht hW => ⟨⟨(), rfl, trivial, by rw [ht]; exact hP, va_K.moved hW.alike hK, hD⟩, hS.F ht⟩) hS.2.2 d_MO_shape_71
        · exact absurd c_50 (by omega)
      · refine z_iconst hx hb (z := 2) d_MO_shape_38 ?_
        refine lv_goto (tgt := 43) hx hb d_MO_shape_39 (by decide) ?_
        have hcd : r_spc np x wh v = 2 := by unfold r_spc; rw [if_pos c_6, if_neg (fun g => c_35 g.2)]
        refine z_put (ci := 7) (C := R_MO) (T := T_MO) (N := 32) (v := .int (iI (2))) (ty := .int) (ce' := (mo_ce ad cs)) (r := va_up (M (0)) 0 (2)) hx hb hg in_MO ty_MO tk_MO nm_MO hown hK hP hD hS (0) (by decide) rfl rfl 0 (by decide) (hg _ (List.mem_append_right _ (List.mem_append_right _ (List.mem_append_right _ (List.mem_append_right _ (List.mem_append_right _ (List.mem_append_right _ (List.mem_append_right _ (List.mem_append_right _ (List.mem_append_right _ (List.mem_append_right _ (List.mem_append_right _ (List.mem_append_right _ (List.mem_append_right _ (List.mem_append_left _ (List.mem_of_getElem? (i := 3) rfl)))))))))))))))) (fun _ h9 => h9) rfl (by decide +kernel) rfl rfl (Nat.le_of_ble_eq_true rfl) (fun _ _ => rfl) rfl d_MO_shape_43 (fun H locs hP hD hS => ?_)
        obtain ⟨M_5, eM_5⟩ : ∃ q_, q_ = mset M (0) (0) (2) := ⟨_, rfl⟩
        have hP : va_P D vwCl (mo_w ad cs M_5) H := by rw [eM_5]; exact hP
        have hD : va_D (va_A (mo_w ad cs M) s.heap.size) (mo_w ad cs M_5) := by rw [eM_5]; exact hD
        have g0 : M_5 0 0 = 2 := by rw [eM_5]; exact mset_same _ _ _ _
        refine lv_aload_n hx hb d_MO_shape_46 rfl (lv_at hl 0 rfl) ?_
        refine z_get (ci := 7) (C := R_MO) (T := T_MO) (N := 32) (v := .int (iI (M_5 (0) 0))) hx hb hg in_MO hown hK hP (0) (by decide) rfl rfl 0 (by decide) (hg _ (List.mem_append_right _ (List.mem_append_right _ (List.mem_append_right _ (List.mem_append_right _ (List.mem_append_right _ (List.mem_append_right _ (List.mem_append_right _ (List.mem_append_right _ (List.mem_append_right _ (List.mem_append_right _ (List.mem_append_right _ (List.mem_append_right _ (List.mem_append_right _ (List.mem_append_left _ (List.mem_of_getElem? (i := 3) rfl)))))))))))))))) (fun _ h9 => h9) rfl d_MO_shape_47 ?_
        refine z_if_le hx hb (tgt := 54) d_MO_shape_50 (by decide) ⟨by omega, by omega⟩ (fun c_50 => ?_) (fun c_50 => ?_)
        · exact absurd c_50 (by omega)
        · have hM : M_5 = if r_spc np x wh v = 0 then r_spM M x.toNat wh.toNat v else mset M 0 0 (r_spc np x wh v) := by rw [hcd, if_neg (by omega), eM_5]
          have eW : mo_w ad cs (M_5) = mo_w ad cs (if r_spc np x wh v = 0 then r_spM M x.toNat wh.toNat v else mset M 0 0 (r_spc np x wh v)) := by rw [hM]
          have hP := Eq.mp (congrArg (fun q => va_P D vwCl q _) eW) hP
          have hD := Eq.mp (congrArg (va_D _) eW) hD
          exact W.vret hx hb hr (fun t ht hW => ⟨⟨(), rfl, trivial, by rw [ht]; exact hP, va_K.moved hW.alike hK, hD⟩, hS.F ht⟩) hS.2.2 d_MO_shape_53
  · refine z_iconst hx hb (z := 1) d_MO_shape_9 ?_
    refine lv_goto (tgt := 43) hx hb d_MO_shape_10 (by decide) ?_
    have hcd : r_spc np x wh v = 1 := by unfold r_spc; rw [if_neg c_6]
    refine z_put (ci := 7) (C := R_MO) (T := T_MO) (N := 32) (v := .int (iI (1))) (ty := .int) (ce' := (mo_ce ad cs)) (r := va_up (M (0)) 0 (1)) hx hb hg in_MO ty_MO tk_MO nm_MO hown hK hP hD hS (0) (by decide) rfl rfl 0 (by decide) (hg _ (List.mem_append_right _ (List.mem_append_right _ (List.mem_append_right _ (List.mem_append_right _ (List.mem_append_right _ (List.mem_append_right _ (List.mem_append_right _ (List.mem_append_right _ (List.mem_append_right _ (List.mem_append_right _ (List.mem_append_right _ (List.mem_append_right _ (List.mem_append_right _ (List.mem_append_left _ (List.mem_of_getElem? (i := 3) rfl)))))))))))))))) (fun _ h9 => h9) rfl (by decide +kernel) rfl rfl (Nat.le_of_ble_eq_true rfl) (fun _ _ => rfl) rfl d_MO_shape_43 (fun H locs hP hD hS => ?_)
    obtain ⟨M_6, eM_6⟩ : ∃ q_, q_ = mset M (0) (0) (1) := ⟨_, rfl⟩
    have hP : va_P D vwCl (mo_w ad cs M_6) H := by rw [eM_6]; exact hP
    have hD : va_D (va_A (mo_w ad cs M) s.heap.size) (mo_w ad cs M_6) := by rw [eM_6]; exact hD
    have g0 : M_6 0 0 = 1 := by rw [eM_6]; exact mset_same _ _ _ _
    refine lv_aload_n hx hb d_MO_shape_46 rfl (lv_at hl 0 rfl) ?_
    refine z_get (ci := 7) (C := R_MO) (T := T_MO) (N := 32) (v := .int (iI (M_6 (0) 0))) hx hb hg in_MO hown hK hP (0) (by decide) rfl rfl 0 (by decide) (hg _ (List.mem_append_right _ (List.mem_append_right _ (List.mem_append_right _ (List.mem_append_right _ (List.mem_append_right _ (List.mem_append_right _ (List.mem_append_right _ (List.mem_append_right _ (List.mem_append_right _ (List.mem_append_right _ (List.mem_append_right _ (List.mem_append_right _ (List.mem_append_right _ (List.mem_append_left _ (List.mem_of_getElem? (i := 3) rfl)))))))))))))))) (fun _ h9 => h9) rfl d_MO_shape_47 ?_
    refine z_if_le hx hb (tgt := 54) d_MO_shape_50 (by decide) ⟨by omega, by omega⟩ (fun c_50 => ?_) (fun c_50 => ?_)
    · exact absurd c_50 (by omega)
    · have hM : M_6 = if r_spc np x wh v = 0 then r_spM M x.toNat wh.toNat v else mset M 0 0 (r_spc np x wh v) := by rw [hcd, if_neg (by omega), eM_6]
      have eW : mo_w ad cs (M_6) = mo_w ad cs (if r_spc np x wh v = 0 then r_spM M x.toNat wh.toNat v else mset M 0 0 (r_spc np x wh v)) := by rw [hM]
      have hP := Eq.mp (congrArg (fun q => va_P D vwCl q _) eW) hP
      have hD := Eq.mp (congrArg (va_D _) eW) hD
      exact W.vret hx hb hr (fun t ht hW => ⟨⟨(), rfl, trivial, by rw [ht]; exact hP, va_K.moved hW.alike hK, hD⟩, hS.F ht⟩) hS.2.2 d_MO_shape_53
set_option maxHeartbeats 4000000 in
set_option maxRecDepth 100000 in
/-- stop -/
theorem r_stop (l : Launch) {D : va_G} {ad : Nat → Nat} {cs : ClassId} {M : Nat → Nat → Int} (sz : Nat) (np : Nat) (x at_ k : Int) (hx0 : zb x) (hw : zb at_) (hv : zb k) (hnp : M 0 4 = ((np : Nat) : Int)) (hn : np ≤ 30) (hP3 : ∀ q, q < 30 → rP M q (rn M q)) : Met l y_MO_stop ws_MO_stop ({ frames := 2, cells := 0, slots := 0, locals := 43 } : Room) (va_Pc [.ref (ad (0)), .int (iI (x)), .int (iI (at_)), .int (iI (k))] (rw_B D vwCl (mo_tys cs) (mo_w ad cs M) sz)) (va_Qi (fun (r : Int32) (_ : Unit) => r = iI (if r_stc M np x at_ k = 0 then M 3 x.toNat + 1 else 0)) (rw_E D vwCl (mo_tys cs) (mo_w ad cs M) (mo_w ad cs (if r_stc M np x at_ k = 0 then r_stM M x.toNat (M 3 x.toNat).toNat at_ k else mset M 0 0 (r_stc M np x at_ k))) sz) (va_A (mo_w ad cs M) sz)) 0 0 (va_A (mo_w ad cs M) sz) := by
  refine Met.ofW (cc := b_MO_stop) (maxL := 5) (ret := (some .int)) (by decide) rfl ?_
  intro p e s m args below meth c s₁ B hml hv
  obtain ⟨rfl, hsz, hP, hK, hD0⟩ := hv
  have hx := B.exec
  have hb := B.bytes
  have hr := B.returns
  have hts := atoms_spec (ws := ws_MO_stop) B.pre
  have hg : ∀ w ∈ gt, w.before _ s = true := fun w h => hts w (List.mem_cons_of_mem _ h)
  have hown : s.vm.findClass R_MO = some m.cls := findClass_of_methodNamed B.named
  have hlocks := B.notSynchronized
  subst hsz
  have hD := hD0.self (sz := s.heap.size)
  have hA : ∀ q : Nat, s.heap.size ≤ q → va_A (mo_w ad cs M) s.heap.size q := fun q h => Or.inr h
  have hS : va_S (va_A (mo_w ad cs M) s.heap.size) s.heap s.heap [] := va_S.rf
  have hl := lv_entry ([.ref (ad (0)), .int (iI (x)), .int (iI (at_)), .int (iI (k))]) (n := 5) (Nat.le_of_ble_eq_true rfl)
  rw [lg_entry_eq]
  generalize (lg_sl ([.ref (ad (0)), .int (iI (x)), .int (iI (at_)), .int (iI (k))]) ++ List.replicate (5 - (lg_sl ([.ref (ad (0)), .int (iI (x)), .int (iI (at_)), .int (iI (k))])).length) Slot.unset).toArray = ls at hl ⊢
  have hl : lv_has ls 5 [(0, .ref (ad (0))), (1, .int (iI (x))), (2, .int (iI (at_))), (3, .int (iI (k)))] := hl
  obtain ⟨hx1, hx2⟩ := hx0
  obtain ⟨hw1, hw2⟩ := hw
  obtain ⟨hv1, hv2⟩ := hv
  refine lv_aload_n hx hb d_MO_stop_0 rfl (lv_at hl 0 rfl) ?_
  refine lv_iload_n hx hb d_MO_stop_1 rfl (lv_at hl 1 rfl) ?_
  refine ro_V (As := [.int (iI (x))]) (rest := []) (z := bz (inn x 0 (((np : Nat) : Int) - 1)) inferInstance) ⟨hx, hb, hml, hown, hg⟩ (r_isPar l np x ⟨hx1, hx2⟩ hnp hn) (cwV 1 hg (gt_V (List.mem_append_right _ (List.mem_append_right _ (List.mem_append_right _ (List.mem_append_right _ (List.mem_append_right _ (List.mem_append_right _ (List.mem_append_right _ (List.mem_append_right _ (List.mem_append_right _ (List.mem_append_right _ (List.mem_append_right _ (List.mem_append_right _ (List.mem_append_right _ (List.mem_append_right _ (List.mem_append_right _ (List.mem_append_left _ (List.mem_of_getElem? (i := 10) rfl))))))))))))))))) (List.mem_append_right _ (List.mem_append_right _ (List.mem_append_right _ (List.mem_append_right _ (List.mem_append_right _ (List.mem_append_right _ (List.mem_append_right _ (List.mem_append_right _ (List.mem_append_right _ (List.mem_append_right _ (List.mem_append_right _ (List.mem_append_right _ (List.mem_append_right _ (List.mem_append_right _ (List.mem_append_right _ (List.mem_append_left _ (List.mem_of_getElem? (i := 11) rfl))))))))))))))))) (List.mem_append_left _ (List.mem_of_getElem? (i := 22) rfl)) (List.mem_append_right _ (List.mem_append_left _ (List.mem_of_getElem? (i := 9) rfl))) (List.mem_append_right _ (List.mem_append_right _ (List.mem_append_right _ (List.mem_append_right _ (List.mem_append_right _ (List.mem_append_right _ (List.mem_append_right _ (List.mem_append_right _ (List.mem_append_right _ (List.mem_append_right _ (List.mem_append_right _ (List.mem_append_right _ (List.mem_append_right _ (List.mem_append_right _ (List.mem_append_right _ (List.mem_append_left _ (List.mem_of_getElem? (i := 12) rfl)))))))))))))))))) rfl rfl rfl (by decide +kernel) ⟨Nat.le_of_ble_eq_true rfl, Nat.le_of_ble_eq_true rfl⟩) hK hP (va_recv hK hP (ci := 7) (q0 := 0) rfl (wl_atE (by decide) rfl)) rfl hl.1 rfl (Nat.le_of_ble_eq_true rfl) d_MO_stop_2 ⟨Nat.zero_le _, Nat.zero_le _⟩ ?_
  refine z_ifb_ne hx hb (tgt := 14) d_MO_stop_5 (by decide) (fun c_5 => ?_) (fun c_5 => ?_)
  · obtain ⟨q, eq_⟩ : ∃ q_, q_ = x.toNat := ⟨_, rfl⟩
    have hxq : x = ((q : Nat) : Int) := by omega
    have hq3 : q < 30 := by omega
    have hpq := hP3 q hq3
    obtain ⟨n, en⟩ : ∃ q_, q_ = rn M q := ⟨_, rfl⟩
    rw [← en] at hpq
    have hn8 := hpq.2.1
    have hst := hpq.2.2.1
    have hz4 := hpq.2.2.2.1 (8 * q + n - 1)
    have hen : (M 3 q).toNat = n := by omega
    refine lv_aload_n hx hb d_MO_stop_14 rfl (lv_at hl 0 rfl) ?_
    refine z_get (ci := 7) (C := R_MO) (T := T_MO) (N := 32) (v := .ref (ad (3))) hx hb hg in_MO hown hK hP (0) (by decide) rfl rfl 7 (by decide) (hg _ (List.mem_append_right _ (List.mem_append_right _ (List.mem_append_right _ (List.mem_append_right _ (List.mem_append_right _ (List.mem_append_right _ (List.mem_append_right _ (List.mem_append_right _ (List.mem_append_right _ (List.mem_append_right _ (List.mem_append_right _ (List.mem_append_right _ (List.mem_append_right _ (List.mem_append_left _ (List.mem_of_getElem? (i := 10) rfl)))))))))))))))) (fun _ h9 => h9) rfl d_MO_stop_15 ?_
    refine lv_iload_n hx hb d_MO_stop_18 rfl (lv_at hl 1 rfl) ?_
    refine z_iald hx hb hK hP (3) 0 (by decide) (fun _ => rfl) rfl (q) hxq (by omega) (by decide) d_MO_stop_19 ?_
    refine lv_topi (fun y_ ey => ?_)
    have ey := ey.trans (congrArg iI hst)
    subst ey
    refine lv_istore (lv' := [(4, .int (iI (((n : Nat) : Int)))), (0, .ref (ad (0))), (1, .int (iI (x))), (2, .int (iI (at_))), (3, .int (iI (k)))]) hx hb d_MO_stop_20 hl (by decide) rfl (fun ls hl => ?_)
    refine lv_aload_n hx hb d_MO_stop_22 rfl (lv_at hl 1 rfl) ?_
    refine lv_iload_n hx hb d_MO_stop_23 rfl (lv_at hl 3 rfl) ?_
    refine z_iconst hx hb (z := 1) d_MO_stop_24 ?_
    refine z_sipush hx hb (z := 30000) d_MO_stop_25 (by decide) ?_
    refine ro_S (As := [.int (iI (at_)), .int (iI (1)), .int (iI (30000))]) (rest := [.ref (ad (0))]) (z := bz (inn (at_) (1) (30000)) inferInstance) ⟨hx, hb, hml, hown, hg⟩ (r_in l (at_) (1) (30000) ⟨by omega, by omega⟩ ⟨by decide, by decide⟩ ⟨by decide, by decide⟩) (cwS 3 hg (gt_S (List.mem_append_right _ (List.mem_append_right _ (List.mem_append_right _ (List.mem_append_right _ (List.mem_append_right _ (List.mem_append_right _ (List.mem_append_right _ (List.mem_append_right _ (List.mem_append_right _ (List.mem_append_right _ (List.mem_append_right _ (List.mem_append_right _ (List.mem_append_right _ (List.mem_append_right _ (List.mem_append_right _ (List.mem_append_left _ (List.mem_of_getElem? (i := 3) rfl))))))))))))))))) (List.mem_append_right _ (List.mem_append_right _ (List.mem_append_right _ (List.mem_append_right _ (List.mem_append_right _ (List.mem_append_right _ (List.mem_append_right _ (List.mem_append_right _ (List.mem_append_right _ (List.mem_append_right _ (List.mem_append_right _ (List.mem_append_right _ (List.mem_append_right _ (List.mem_append_right _ (List.mem_append_right _ (List.mem_append_left _ (List.mem_of_getElem? (i := 4) rfl))))))))))))))))) (List.mem_append_right _ (List.mem_append_left _ (List.mem_of_getElem? (i := 9) rfl))) (List.mem_append_right _ (List.mem_append_right _ (List.mem_append_right _ (List.mem_append_right _ (List.mem_append_right _ (List.mem_append_right _ (List.mem_append_right _ (List.mem_append_right _ (List.mem_append_right _ (List.mem_append_right _ (List.mem_append_right _ (List.mem_append_right _ (List.mem_append_right _ (List.mem_append_right _ (List.mem_append_right _ (List.mem_append_left _ (List.mem_of_getElem? (i := 5) rfl)))))))))))))))))) rfl rfl rfl (by decide +kernel) ⟨Nat.le_of_ble_eq_true rfl, Nat.le_of_ble_eq_true rfl⟩) hK hP rfl hl.1 rfl (Nat.le_of_ble_eq_true rfl) d_MO_stop_28 ⟨Nat.zero_le _, Nat.zero_le _⟩ ?_
    refine z_ifb_eq hx hb (tgt := 66) d_MO_stop_31 (by decide) (fun c_31 => ?_) (fun c_31 => ?_)
    · refine z_iconst hx hb (z := 2) d_MO_stop_66 ?_
      refine lv_goto (tgt := 82) hx hb d_MO_stop_67 (by decide) ?_
      have hcd : r_stc M np x at_ k = 2 := by unfold r_stc; rw [← eq_, hen, hst, if_pos c_5, if_neg (fun g => c_31 g.1)]
      refine z_put (ci := 7) (C := R_MO) (T := T_MO) (N := 32) (v := .int (iI (2))) (ty := .int) (ce' := (mo_ce ad cs)) (r := va_up (M (0)) 0 (2)) hx hb hg in_MO ty_MO tk_MO nm_MO hown hK hP hD hS (0) (by decide) rfl rfl 0 (by decide) (hg _ (List.mem_append_right _ (List.mem_append_right _ (List.mem_append_right _ (List.mem_append_right _ (List.mem_append_right _ (List.mem_append_right _ (List.mem_append_right _ (List.mem_append_right _ (List.mem_append_right _ (List.mem_append_right _ (List.mem_append_right _ (List.mem_append_right _ (List.mem_append_right _ (List.mem_append_left _ (List.mem_of_getElem? (i := 3) rfl)))))))))))))))) (fun _ h9 => h9) rfl (by decide +kernel) rfl rfl (Nat.le_of_ble_eq_true rfl) (fun _ _ => rfl) rfl d_MO_stop_82 (fun H locs hP hD hS => ?_)
      obtain ⟨M_1, eM_1⟩ : ∃ q_, q_ = mset M (0) (0) (2) := ⟨_, rfl⟩
      have hP : va_P D vwCl (mo_w ad cs M_1) H := by rw [eM_1]; exact hP
      have hD : va_D (va_A (mo_w ad cs M) s.heap.size) (mo_w ad cs M_1) := by rw [eM_1]; exact hD
      have g0 : M_1 0 0 = 2 := by rw [eM_1]; exact mset_same _ _ _ _
      refine lv_aload_n hx hb d_MO_stop_85 rfl (lv_at hl 1 rfl) ?_
      refine z_get (ci := 7) (C := R_MO) (T := T_MO) (N := 32) (v := .int (iI (M_1 (0) 0))) hx hb hg in_MO hown hK hP (0) (by decide) rfl rfl 0 (by decide) (hg _ (List.mem_append_right _ (List.mem_append_right _ (List.mem_append_right _ (List.mem_append_right _ (List.mem_append_right _ (List.mem_append_right _ (List.mem_append_right _ (List.mem_append_right _ (List.mem_append_right _ (List.mem_append_right _ (List.mem_append_right _ (List.mem_append_right _ (List.mem_append_right _ (List.mem_append_left _ (List.mem_of_getElem? (i := 3) rfl)))))))))))))))) (fun _ h9 => h9) rfl d_MO_stop_86 ?_
      refine z_if_le hx hb (tgt := 94) d_MO_stop_89 (by decide) ⟨by omega, by omega⟩ (fun c_89 => ?_) (fun c_89 => ?_)
      · exact absurd c_89 (by omega)
      · refine z_iconst hx hb (z := 0) d_MO_stop_92 ?_
        have hM : M_1 = if r_stc M np x at_ k = 0 then r_stM M x.toNat (M 3 x.toNat).toNat at_ k else mset M 0 0 (r_stc M np x at_ k) := by rw [hcd, if_neg (by omega), eM_1]
        have eW : mo_w ad cs (M_1) = mo_w ad cs (if r_stc M np x at_ k = 0 then r_stM M x.toNat (M 3 x.toNat).toNat at_ k else mset M 0 0 (r_stc M np x at_ k)) := by rw [hM]
        have hP := Eq.mp (congrArg (fun q => va_P D vwCl q _) eW) hP
        have hD := Eq.mp (congrArg (va_D _) eW) hD
        exact W.iret (v := iI (0)) hx hb hr (fun t ht hW => ⟨⟨_, (), rfl, by rw [hcd, if_neg (by omega)], by rw [ht]; exact hP, va_K.moved hW.alike hK, hD⟩, hS.F ht⟩) hS.2.2 d_MO_stop_93
    · refine lv_iload_n hx hb d_MO_stop_34 rfl (lv_at hl 4 rfl) ?_
      refine z_iconst hx hb (z := 0) d_MO_stop_35 ?_
      refine z_iconst hx hb (z := 2) d_MO_stop_36 ?_
      refine ro_S (As := [.int (iI (k)), .int (iI (0)), .int (iI (2))]) (rest := [.ref (ad (0))]) (z := bz (inn (k) (0) (2)) inferInstance) ⟨hx, hb, hml, hown, hg⟩ (r_in l (k) (0) (2) ⟨by omega, by omega⟩ ⟨by decide, by decide⟩ ⟨by decide, by decide⟩) (cwS 3 hg (gt_S (List.mem_append_right _ (List.mem_append_right _ (List.mem_append_right _ (List.mem_append_right _ (List.mem_append_right _ (List.mem_append_right _ (List.mem_append_right _ (List.mem_append_right _ (List.mem_append_right _ (List.mem_append_right _ (List.mem_append_right _ (List.mem_append_right _ (List.mem_append_right _ (List.mem_append_right _ (List.mem_append_right _ (List.mem_append_left _ (List.mem_of_getElem? (i := 3) rfl))))))))))))))))) (List.mem_append_right _ (List.mem_append_right _ (List.mem_append_right _ (List.mem_append_right _ (List.mem_append_right _ (List.mem_append_right _ (List.mem_append_right _ (List.mem_append_right _ (List.mem_append_right _ (List.mem_append_right _ (List.mem_append_right _ (List.mem_append_right _ (List.mem_append_right _ (List.mem_append_right _ (List.mem_append_right _ (List.mem_append_left _ (List.mem_of_getElem? (i := 4) rfl))))))))))))))))) (List.mem_append_right _ (List.mem_append_left _ (List.mem_of_getElem? (i := 9) rfl))) (List.mem_append_right _ (List.mem_append_right _ (List.mem_append_right _ (List.mem_append_right _ (List.mem_append_right _ (List.mem_append_right _ (List.mem_append_right _ (List.mem_append_right _ (List.mem_append_right _ (List.mem_append_right _ (List.mem_append_right _ (List.mem_append_right _ (List.mem_append_right _ (List.mem_append_right _ (List.mem_append_right _ (List.mem_append_left _ (List.mem_of_getElem? (i := 5) rfl)))))))))))))))))) rfl rfl rfl (by decide +kernel) ⟨Nat.le_of_ble_eq_true rfl, Nat.le_of_ble_eq_true rfl⟩) hK hP rfl hl.1 rfl (Nat.le_of_ble_eq_true rfl) d_MO_stop_37 ⟨Nat.zero_le _, Nat.zero_le _⟩ ?_
      refine z_ifb_eq hx hb (tgt := 66) d_MO_stop_40 (by decide) (fun c_40 => ?_) (fun c_40 => ?_)
      · refine z_iconst hx hb (z := 2) d_MO_stop_66 ?_
        refine lv_goto (tgt := 82) hx hb d_MO_stop_67 (by decide) ?_
        have hcd : r_stc M np x at_ k = 2 := by unfold r_stc; rw [← eq_, hen, hst, if_pos c_5, if_neg (fun g => c_40 g.2.1)]
        refine z_put (ci := 7) (C := R_MO) (T := T_MO) (N := 32) (v := .int (iI (2))) (ty := .int) (ce' := (mo_ce ad cs)) (r := va_up (M (0)) 0 (2)) hx hb hg in_MO ty_MO tk_MO nm_MO hown hK hP hD hS (0) (by decide) rfl rfl 0 (by decide) (hg _ (List.mem_append_right _ (List.mem_append_right _ (List.mem_append_right _ (List.mem_append_right _ (List.mem_append_right _ (List.mem_append_right _ (List.mem_append_right _ (List.mem_append_right _ (List.mem_append_right _ (List.mem_append_right _ (List.mem_append_right _ (List.mem_append_right _ (List.mem_append_right _ (List.mem_append_left _ (List.mem_of_getElem? (i := 3) rfl)))))))))))))))) (fun _ h9 => h9) rfl (by decide +kernel) rfl rfl (Nat.le_of_ble_eq_true rfl) (fun _ _ => rfl) rfl d_MO_stop_82 (fun H locs hP hD hS => ?_)
        obtain ⟨M_2, eM_2⟩ : ∃ q_, q_ = mset M (0) (0) (2) := ⟨_, rfl⟩
        have hP : va_P D vwCl (mo_w ad cs M_2) H := by rw [eM_2]; exact hP
        have hD : va_D (va_A (mo_w ad cs M) s.heap.size) (mo_w ad cs M_2) := by rw [eM_2]; exact hD
        have g0 : M_2 0 0 = 2 := by rw [eM_2]; exact mset_same _ _ _ _
        refine lv_aload_n hx hb d_MO_stop_85 rfl (lv_at hl 1 rfl) ?_
        refine z_get (ci := 7) (C := R_MO) (T := T_MO) (N := 32) (v := .int (iI (M_2 (0) 0))) hx hb hg in_MO hown hK hP (0) (by decide) rfl rfl 0 (by decide) (hg _ (List.mem_append_right _ (List.mem_append_right _ (List.mem_append_right _ (List.mem_append_right _ (List.mem_append_right _ (List.mem_append_right _ (List.mem_append_right _ (List.mem_append_right _ (List.mem_append_right _ (List.mem_append_right _ (List.mem_append_right _ (List.mem_append_right _ (List.mem_append_right _ (List.mem_append_left _ (List.mem_of_getElem? (i := 3) rfl)))))))))))))))) (fun _ h9 => h9) rfl d_MO_stop_86 ?_
        refine z_if_le hx hb (tgt := 94) d_MO_stop_89 (by decide) ⟨by omega, by omega⟩ (fun c_89 => ?_) (fun c_89 => ?_)
        · exact absurd c_89 (by omega)
        · refine z_iconst hx hb (z := 0) d_MO_stop_92 ?_
          have hM : M_2 = if r_stc M np x at_ k = 0 then r_stM M x.toNat (M 3 x.toNat).toNat at_ k else mset M 0 0 (r_stc M np x at_ k) := by rw [hcd, if_neg (by omega), eM_2]
          have eW : mo_w ad cs (M_2) = mo_w ad cs (if r_stc M np x at_ k = 0 then r_stM M x.toNat (M 3 x.toNat).toNat at_ k else mset M 0 0 (r_stc M np x at_ k)) := by rw [hM]
          have hP := Eq.mp (congrArg (fun q => va_P D vwCl q _) eW) hP
          have hD := Eq.mp (congrArg (va_D _) eW) hD
          exact W.iret (v := iI (0)) hx hb hr (fun t ht hW => ⟨⟨_, (), rfl, by rw [hcd, if_neg (by omega)], by rw [ht]; exact hP, va_K.moved hW.alike hK, hD⟩, hS.F ht⟩) hS.2.2 d_MO_stop_93
      · refine lv_iload hx hb d_MO_stop_43 (lv_at hl 0 rfl) ?_
        refine z_if_le hx hb (tgt := 70) d_MO_stop_45 (by decide) ⟨by omega, by omega⟩ (fun c_45 => ?_) (fun c_45 => ?_)
        · refine lv_iload hx hb d_MO_stop_70 (lv_at hl 0 rfl) ?_
          refine z_bipush hx hb (z := 8) d_MO_stop_72 (by decide) ?_
          refine z_icmp_ne hx hb (tgt := 81) d_MO_stop_74 (by decide) ⟨by omega, by omega⟩ ⟨by decide, by decide⟩ (fun c_74 => ?_) (fun c_74 => ?_)
          · refine z_iconst hx hb (z := 0) d_MO_stop_81 ?_
            have hcd : r_stc M np x at_ k = 0 := by unfold r_stc; rw [← eq_, hen, hst, if_pos c_5, if_pos ⟨c_31, c_40, fun g => by omega⟩, if_neg (by omega)]
            refine z_put (ci := 7) (C := R_MO) (T := T_MO) (N := 32) (v := .int (iI (0))) (ty := .int) (ce' := (mo_ce ad cs)) (r := va_up (M (0)) 0 (0)) hx hb hg in_MO ty_MO tk_MO nm_MO hown hK hP hD hS (0) (by decide) rfl rfl 0 (by decide) (hg _ (List.mem_append_right _ (List.mem_append_right _ (List.mem_append_right _ (List.mem_append_right _ (List.mem_append_right _ (List.mem_append_right _ (List.mem_append_right _ (List.mem_append_right _ (List.mem_append_right _ (List.mem_append_right _ (List.mem_append_right _ (List.mem_append_right _ (List.mem_append_right _ (List.mem_append_left _ (List.mem_of_getElem? (i := 3) rfl)))))))))))))))) (fun _ h9 => h9) rfl (by decide +kernel) rfl rfl (Nat.le_of_ble_eq_true rfl) (fun _ _ => rfl) rfl d_MO_stop_82 (fun H locs hP hD hS => ?_)
            obtain ⟨M_3, eM_3⟩ : ∃ q_, q_ = mset M (0) (0) (0) := ⟨_, rfl⟩
            have hP : va_P D vwCl (mo_w ad cs M_3) H := by rw [eM_3]; exact hP
            have hD : va_D (va_A (mo_w ad cs M) s.heap.size) (mo_w ad cs M_3) := by rw [eM_3]; exact hD
            have g0 : M_3 0 0 = 0 := by rw [eM_3]; exact mset_same _ _ _ _
            refine lv_aload_n hx hb d_MO_stop_85 rfl (lv_at hl 1 rfl) ?_
            refine z_get (ci := 7) (C := R_MO) (T := T_MO) (N := 32) (v := .int (iI (M_3 (0) 0))) hx hb hg in_MO hown hK hP (0) (by decide) rfl rfl 0 (by decide) (hg _ (List.mem_append_right _ (List.mem_append_right _ (List.mem_append_right _ (List.mem_append_right _ (List.mem_append_right _ (List.mem_append_right _ (List.mem_append_right _ (List.mem_append_right _ (List.mem_append_right _ (List.mem_append_right _ (List.mem_append_right _ (List.mem_append_right _ (List.mem_append_right _ (List.mem_append_left _ (List.mem_of_getElem? (i := 3) rfl)))))))))))))))) (fun _ h9 => h9) rfl d_MO_stop_86 ?_
            refine z_if_le hx hb (tgt := 94) d_MO_stop_89 (by decide) ⟨by omega, by omega⟩ (fun c_89 => ?_) (fun c_89 => ?_)
            · refine lv_aload_n hx hb d_MO_stop_94 rfl (lv_at hl 1 rfl) ?_
              refine z_get (ci := 7) (C := R_MO) (T := T_MO) (N := 32) (v := .ref (ad (4))) hx hb hg in_MO hown hK hP (0) (by decide) rfl rfl 8 (by decide) (hg _ (List.mem_append_right _ (List.mem_append_right _ (List.mem_append_right _ (List.mem_append_right _ (List.mem_append_right _ (List.mem_append_right _ (List.mem_append_right _ (List.mem_append_right _ (List.mem_append_right _ (List.mem_append_right _ (List.mem_append_right _ (List.mem_append_right _ (List.mem_append_right _ (List.mem_append_left _ (List.mem_of_getElem? (i := 11) rfl)))))))))))))))) (fun _ h9 => h9) rfl d_MO_stop_95 ?_
              refine z_bipush hx hb (z := 8) d_MO_stop_98 (by decide) ?_
              refine lv_iload_n hx hb d_MO_stop_100 rfl (lv_at hl 2 rfl) ?_
              refine z_imul hx hb d_MO_stop_101 (v := (8 * x)) rfl ?_
              refine lv_iload hx hb d_MO_stop_102 (lv_at hl 0 rfl) ?_
              refine z_iadd hx hb d_MO_stop_104 (v := ((8 * x) + ((n : Nat) : Int))) rfl ?_
              refine lv_iload_n hx hb d_MO_stop_105 rfl (lv_at hl 3 rfl) ?_
              refine z_iast hx hb hK hP hD hS (4) 0 (by decide) (fun _ => rfl) rfl (v := at_) (8 * q + n) (by omega) (by omega) (by decide) d_MO_stop_106 (fun H locs hP hD hS => ?_)
              obtain ⟨M_4, eM_4⟩ : ∃ q_, q_ = mset M_3 (4) (8 * q + n) (at_) := ⟨_, rfl⟩
              have hP : va_P D vwCl (mo_w ad cs M_4) H := by rw [eM_4]; exact hP
              have hD : va_D (va_A (mo_w ad cs M) s.heap.size) (mo_w ad cs M_4) := by rw [eM_4]; exact hD
              refine lv_aload_n hx hb d_MO_stop_107 rfl (lv_at hl 1 rfl) ?_
              refine z_get (ci := 7) (C := R_MO) (T := T_MO) (N := 32) (v := .ref (ad (5))) hx hb hg in_MO hown hK hP (0) (by decide) rfl rfl 9 (by decide) (hg _ (List.mem_append_right _ (List.mem_append_right _ (List.mem_append_right _ (List.mem_append_right _ (List.mem_append_right _ (List.mem_append_right _ (List.mem_append_right _ (List.mem_append_right _ (List.mem_append_right _ (List.mem_append_right _ (List.mem_append_right _ (List.mem_append_right _ (List.mem_append_right _ (List.mem_append_left _ (List.mem_of_getElem? (i := 12) rfl)))))))))))))))) (fun _ h9 => h9) rfl d_MO_stop_108 ?_
              refine z_bipush hx hb (z := 8) d_MO_stop_111 (by decide) ?_
              refine lv_iload_n hx hb d_MO_stop_113 rfl (lv_at hl 2 rfl) ?_
              refine z_imul hx hb d_MO_stop_114 (v := (8 * x)) rfl ?_
              refine lv_iload hx hb d_MO_stop_115 (lv_at hl 0 rfl) ?_
              refine z_iadd hx hb d_MO_stop_117 (v := ((8 * x) + ((n : Nat) : Int))) rfl ?_
              refine lv_iload_n hx hb d_MO_stop_118 rfl (lv_at hl 4 rfl) ?_
              refine z_iast hx hb hK hP hD hS (5) 0 (by decide) (fun _ => rfl) rfl (v := k) (8 * q + n) (by omega) (by omega) (by decide) d_MO_stop_119 (fun H locs hP hD hS => ?_)
              obtain ⟨M_5, eM_5⟩ : ∃ q_, q_ = mset M_4 (5) (8 * q + n) (k) := ⟨_, rfl⟩
              have hP : va_P D vwCl (mo_w ad cs M_5) H := by rw [eM_5]; exact hP
              have hD : va_D (va_A (mo_w ad cs M) s.heap.size) (mo_w ad cs M_5) := by rw [eM_5]; exact hD
              refine lv_aload_n hx hb d_MO_stop_120 rfl (lv_at hl 1 rfl) ?_
              refine z_get (ci := 7) (C := R_MO) (T := T_MO) (N := 32) (v := .ref (ad (3))) hx hb hg in_MO hown hK hP (0) (by decide) rfl rfl 7 (by decide) (hg _ (List.mem_append_right _ (List.mem_append_right _ (List.mem_append_right _ (List.mem_append_right _ (List.mem_append_right _ (List.mem_append_right _ (List.mem_append_right _ (List.mem_append_right _ (List.mem_append_right _ (List.mem_append_right _ (List.mem_append_right _ (List.mem_append_right _ (List.mem_append_right _ (List.mem_append_left _ (List.mem_of_getElem? (i := 10) rfl)))))))))))))))) (fun _ h9 => h9) rfl d_MO_stop_121 ?_
              refine lv_iload_n hx hb d_MO_stop_124 rfl (lv_at hl 2 rfl) ?_
              refine lv_dup2_11 hx hb d_MO_stop_125 rfl rfl ?_
              refine z_iald hx hb hK hP (3) 0 (by decide) (fun _ => rfl) rfl (q) hxq (by omega) (by decide) d_MO_stop_126 ?_
              have hs3 : M_5 (3) (q) = ((n : Nat) : Int) := by rw [eM_5, eM_4, eM_3, mset_ne (by omega), mset_ne (by omega), mset_ne (by omega)]; exact hst
              refine lv_topi (fun y_ ey => ?_)
              have ey := ey.trans (congrArg iI hs3)
              subst ey
              refine z_iconst hx hb (z := 1) d_MO_stop_127 ?_
              refine z_iadd hx hb d_MO_stop_128 (v := ((n + 1 : Nat) : Int)) (by omega) ?_
              refine z_iast hx hb hK hP hD hS (3) 0 (by decide) (fun _ => rfl) rfl (v := ((n + 1 : Nat) : Int)) (q) hxq (by omega) (by decide) d_MO_stop_129 (fun H locs hP hD hS => ?_)
              obtain ⟨M_6, eM_6⟩ : ∃ q_, q_ = mset M_5 (3) (q) (((n + 1 : Nat) : Int)) := ⟨_, rfl⟩
              have hP : va_P D vwCl (mo_w ad cs M_6) H := by rw [eM_6]; exact hP
              have hD : va_D (va_A (mo_w ad cs M) s.heap.size) (mo_w ad cs M_6) := by rw [eM_6]; exact hD
              refine lv_aload_n hx hb d_MO_stop_130 rfl (lv_at hl 1 rfl) ?_
              refine z_iconst hx hb (z := 0) d_MO_stop_131 ?_
              refine z_put (ci := 7) (C := R_MO) (T := T_MO) (N := 32) (v := .int (iI (0))) (ty := .boolean) (ce' := (mo_ce ad cs)) (r := va_up (M_6 (0)) 15 (0)) hx hb hg in_MO ty_MO tk_MO nm_MO hown hK hP hD hS (0) (by decide) rfl rfl 15 (by decide) (hg _ (List.mem_append_right _ (List.mem_append_right _ (List.mem_append_right _ (List.mem_append_right _ (List.mem_append_right _ (List.mem_append_right _ (List.mem_append_right _ (List.mem_append_right _ (List.mem_append_right _ (List.mem_append_right _ (List.mem_append_right _ (List.mem_append_right _ (List.mem_append_right _ (List.mem_append_left _ (List.mem_of_getElem? (i := 18) rfl)))))))))))))))) (fun _ h9 => h9) rfl (by decide +kernel) rfl rfl (Nat.le_of_ble_eq_true rfl) (fun _ _ => rfl) rfl d_MO_stop_132 (fun H locs hP hD hS => ?_)
              obtain ⟨M_7, eM_7⟩ : ∃ q_, q_ = mset M_6 (0) (15) (0) := ⟨_, rfl⟩
              have hP : va_P D vwCl (mo_w ad cs M_7) H := by rw [eM_7]; exact hP
              have hD : va_D (va_A (mo_w ad cs M) s.heap.size) (mo_w ad cs M_7) := by rw [eM_7]; exact hD
              refine lv_iload hx hb d_MO_stop_135 (lv_at hl 0 rfl) ?_
              refine z_iconst hx hb (z := 1) d_MO_stop_137 ?_
              refine z_iadd hx hb d_MO_stop_138 (v := ((n + 1 : Nat) : Int)) (by omega) ?_
              have hM : M_7 = if r_stc M np x at_ k = 0 then r_stM M x.toNat (M 3 x.toNat).toNat at_ k else mset M 0 0 (r_stc M np x at_ k) := by rw [hcd, if_pos rfl, ← eq_, hen, eM_7, eM_6, eM_5, eM_4, eM_3]; rfl
              have eW : mo_w ad cs (M_7) = mo_w ad cs (if r_stc M np x at_ k = 0 then r_stM M x.toNat (M 3 x.toNat).toNat at_ k else mset M 0 0 (r_stc M np x at_ k)) := by rw [hM]
              have hP := Eq.mp (congrArg (fun q => va_P D vwCl q _) eW) hP
              have hD := Eq.mp (congrArg (va_D _) eW) hD
              exact W.iret (v := iI (((n + 1 : Nat) : Int))) hx hb hr (fun t ht hW => ⟨⟨_, (), rfl, by rw [hcd, if_pos rfl, ← eq_, hst]; rfl, by rw [ht]; exact hP, va_K.moved hW.alike hK, hD⟩, hS.F ht⟩) hS.2.2 d_MO_stop_139
            · exact absurd c_89 (by omega)
          · refine z_iconst hx hb (z := 3) d_MO_stop_77 ?_
            refine lv_goto (tgt := 82) hx hb d_MO_stop_78 (by decide) ?_
            have hcd : r_stc M np x at_ k = 3 := by unfold r_stc; rw [← eq_, hen, hst, if_pos c_5, if_pos ⟨c_31, c_40, fun g => by omega⟩, if_pos (by omega)]
            refine z_put (ci := 7) (C := R_MO) (T := T_MO) (N := 32) (v := .int (iI (3))) (ty := .int) (ce' := (mo_ce ad cs)) (r := va_up (M (0)) 0 (3)) hx hb hg in_MO ty_MO tk_MO nm_MO hown hK hP hD hS (0) (by decide) rfl rfl 0 (by decide) (hg _ (List.mem_append_right _ (List.mem_append_right _ (List.mem_append_right _ (List.mem_append_right _ (List.mem_append_right _ (List.mem_append_right _ (List.mem_append_right _ (List.mem_append_right _ (List.mem_append_right _ (List.mem_append_right _ (List.mem_append_right _ (List.mem_append_right _ (List.mem_append_right _ (List.mem_append_left _ (List.mem_of_getElem? (i := 3) rfl)))))))))))))))) (fun _ h9 => h9) rfl (by decide +kernel) rfl rfl (Nat.le_of_ble_eq_true rfl) (fun _ _ => rfl) rfl d_MO_stop_82 (fun H locs hP hD hS => ?_)
            obtain ⟨M_8, eM_8⟩ : ∃ q_, q_ = mset M (0) (0) (3) := ⟨_, rfl⟩
            have hP : va_P D vwCl (mo_w ad cs M_8) H := by rw [eM_8]; exact hP
            have hD : va_D (va_A (mo_w ad cs M) s.heap.size) (mo_w ad cs M_8) := by rw [eM_8]; exact hD
            have g0 : M_8 0 0 = 3 := by rw [eM_8]; exact mset_same _ _ _ _
            refine lv_aload_n hx hb d_MO_stop_85 rfl (lv_at hl 1 rfl) ?_
            refine z_get (ci := 7) (C := R_MO) (T := T_MO) (N := 32) (v := .int (iI (M_8 (0) 0))) hx hb hg in_MO hown hK hP (0) (by decide) rfl rfl 0 (by decide) (hg _ (List.mem_append_right _ (List.mem_append_right _ (List.mem_append_right _ (List.mem_append_right _ (List.mem_append_right _ (List.mem_append_right _ (List.mem_append_right _ (List.mem_append_right _ (List.mem_append_right _ (List.mem_append_right _ (List.mem_append_right _ (List.mem_append_right _ (List.mem_append_right _ (List.mem_append_left _ (List.mem_of_getElem? (i := 3) rfl)))))))))))))))) (fun _ h9 => h9) rfl d_MO_stop_86 ?_
            refine z_if_le hx hb (tgt := 94) d_MO_stop_89 (by decide) ⟨by omega, by omega⟩ (fun c_89 => ?_) (fun c_89 => ?_)
            · exact absurd c_89 (by omega)
            · refine z_iconst hx hb (z := 0) d_MO_stop_92 ?_
              have hM : M_8 = if r_stc M np x at_ k = 0 then r_stM M x.toNat (M 3 x.toNat).toNat at_ k else mset M 0 0 (r_stc M np x at_ k) := by rw [hcd, if_neg (by omega), eM_8]
              have eW : mo_w ad cs (M_8) = mo_w ad cs (if r_stc M np x at_ k = 0 then r_stM M x.toNat (M 3 x.toNat).toNat at_ k else mset M 0 0 (r_stc M np x at_ k)) := by rw [hM]
              have hP := Eq.mp (congrArg (fun q => va_P D vwCl q _) eW) hP
              have hD := Eq.mp (congrArg (va_D _) eW) hD
              exact W.iret (v := iI (0)) hx hb hr (fun t ht hW => ⟨⟨_, (), rfl, by rw [hcd, if_neg (by omega)], by rw [ht]; exact hP, va_K.moved hW.alike hK, hD⟩, hS.F ht⟩) hS.2.2 d_MO_stop_93
        · refine lv_iload_n hx hb d_MO_stop_48 rfl (lv_at hl 3 rfl) ?_
          refine lv_aload_n hx hb d_MO_stop_49 rfl (lv_at hl 1 rfl) ?_
          refine z_get (ci := 7) (C := R_MO) (T := T_MO) (N := 32) (v := .ref (ad (4))) hx hb hg in_MO hown hK hP (0) (by decide) rfl rfl 8 (by decide) (hg _ (List.mem_append_right _ (List.mem_append_right _ (List.mem_append_right _ (List.mem_append_right _ (List.mem_append_right _ (List.mem_append_right _ (List.mem_append_right _ (List.mem_append_right _ (List.mem_append_right _ (List.mem_append_right _ (List.mem_append_right _ (List.mem_append_right _ (List.mem_append_right _ (List.mem_append_left _ (List.mem_of_getElem? (i := 11) rfl)))))))))))))))) (fun _ h9 => h9) rfl d_MO_stop_50 ?_
          refine z_bipush hx hb (z := 8) d_MO_stop_53 (by decide) ?_
          refine lv_iload_n hx hb d_MO_stop_55 rfl (lv_at hl 2 rfl) ?_
          refine z_imul hx hb d_MO_stop_56 (v := (8 * x)) rfl ?_
          refine lv_iload hx hb d_MO_stop_57 (lv_at hl 0 rfl) ?_
          refine z_iadd hx hb d_MO_stop_59 (v := ((8 * x) + ((n : Nat) : Int))) rfl ?_
          refine z_iconst hx hb (z := 1) d_MO_stop_60 ?_
          refine z_isub hx hb d_MO_stop_61 (v := (((8 * x) + ((n : Nat) : Int)) - 1)) rfl ?_
          refine z_iald hx hb hK hP (4) 0 (by decide) (fun _ => rfl) rfl (8 * q + n - 1) (by omega) (by omega) (by decide) d_MO_stop_62 ?_
          refine z_icmp_gt hx hb (tgt := 70) d_MO_stop_63 (by decide) ⟨by omega, by omega⟩ ⟨by omega, by omega⟩ (fun c_63 => ?_) (fun c_63 => ?_)
          · refine lv_iload hx hb d_MO_stop_70 (lv_at hl 0 rfl) ?_
            refine z_bipush hx hb (z := 8) d_MO_stop_72 (by decide) ?_
            refine z_icmp_ne hx hb (tgt := 81) d_MO_stop_74 (by decide) ⟨by omega, by omega⟩ ⟨by decide, by decide⟩ (fun c_74 => ?_) (fun c_74 => ?_)
            · refine z_iconst hx hb (z := 0) d_MO_stop_81 ?_
              have hcd : r_stc M np x at_ k = 0 := by unfold r_stc; rw [← eq_, hen, hst, if_pos c_5, if_pos ⟨c_31, c_40, fun g => by omega⟩, if_neg (by omega)]
              refine z_put (ci := 7) (C := R_MO) (T := T_MO) (N := 32) (v := .int (iI (0))) (ty := .int) (ce' := (mo_ce ad cs)) (r := va_up (M (0)) 0 (0)) hx hb hg in_MO ty_MO tk_MO nm_MO hown hK hP hD hS (0) (by decide) rfl rfl 0 (by decide) (hg _ (List.mem_append_right _ (List.mem_append_right _ (List.mem_append_right _ (List.mem_append_right _ (List.mem_append_right _ (List.mem_append_right _ (List.mem_append_right _ (List.mem_append_right _ (List.mem_append_right _ (List.mem_append_right _ (List.mem_append_right _ (List.mem_append_right _ (List.mem_append_right _ (List.mem_append_left _ (List.mem_of_getElem? (i := 3) rfl)))))))))))))))) (fun _ h9 => h9) rfl (by decide +kernel) rfl rfl (Nat.le_of_ble_eq_true rfl) (fun _ _ => rfl) rfl d_MO_stop_82 (fun H locs hP hD hS => ?_)
              obtain ⟨M_9, eM_9⟩ : ∃ q_, q_ = mset M (0) (0) (0) := ⟨_, rfl⟩
              have hP : va_P D vwCl (mo_w ad cs M_9) H := by rw [eM_9]; exact hP
              have hD : va_D (va_A (mo_w ad cs M) s.heap.size) (mo_w ad cs M_9) := by rw [eM_9]; exact hD
              have g0 : M_9 0 0 = 0 := by rw [eM_9]; exact mset_same _ _ _ _
              refine lv_aload_n hx hb d_MO_stop_85 rfl (lv_at hl 1 rfl) ?_
              refine z_get (ci := 7) (C := R_MO) (T := T_MO) (N := 32) (v := .int (iI (M_9 (0) 0))) hx hb hg in_MO hown hK hP (0) (by decide) rfl rfl 0 (by decide) (hg _ (List.mem_append_right _ (List.mem_append_right _ (List.mem_append_right _ (List.mem_append_right _ (List.mem_append_right _ (List.mem_append_right _ (List.mem_append_right _ (List.mem_append_right _ (List.mem_append_right _ (List.mem_append_right _ (List.mem_append_right _ (List.mem_append_right _ (List.mem_append_right _ (List.mem_append_left _ (List.mem_of_getElem? (i := 3) rfl)))))))))))))))) (fun _ h9 => h9) rfl d_MO_stop_86 ?_
              refine z_if_le hx hb (tgt := 94) d_MO_stop_89 (by decide) ⟨by omega, by omega⟩ (fun c_89 => ?_) (fun c_89 => ?_)
              · refine lv_aload_n hx hb d_MO_stop_94 rfl (lv_at hl 1 rfl) ?_
                refine z_get (ci := 7) (C := R_MO) (T := T_MO) (N := 32) (v := .ref (ad (4))) hx hb hg in_MO hown hK hP (0) (by decide) rfl rfl 8 (by decide) (hg _ (List.mem_append_right _ (List.mem_append_right _ (List.mem_append_right _ (List.mem_append_right _ (List.mem_append_right _ (List.mem_append_right _ (List.mem_append_right _ (List.mem_append_right _ (List.mem_append_right _ (List.mem_append_right _ (List.mem_append_right _ (List.mem_append_right _ (List.mem_append_right _ (List.mem_append_left _ (List.mem_of_getElem? (i := 11) rfl)))))))))))))))) (fun _ h9 => h9) rfl d_MO_stop_95 ?_
                refine z_bipush hx hb (z := 8) d_MO_stop_98 (by decide) ?_
                refine lv_iload_n hx hb d_MO_stop_100 rfl (lv_at hl 2 rfl) ?_
                refine z_imul hx hb d_MO_stop_101 (v := (8 * x)) rfl ?_
                refine lv_iload hx hb d_MO_stop_102 (lv_at hl 0 rfl) ?_
                refine z_iadd hx hb d_MO_stop_104 (v := ((8 * x) + ((n : Nat) : Int))) rfl ?_
                refine lv_iload_n hx hb d_MO_stop_105 rfl (lv_at hl 3 rfl) ?_
                refine z_iast hx hb hK hP hD hS (4) 0 (by decide) (fun _ => rfl) rfl (v := at_) (8 * q + n) (by omega) (by omega) (by decide) d_MO_stop_106 (fun H locs hP hD hS => ?_)
                obtain ⟨M_10, eM_10⟩ : ∃ q_, q_ = mset M_9 (4) (8 * q + n) (at_) := ⟨_, rfl⟩
                have hP : va_P D vwCl (mo_w ad cs M_10) H := by rw [eM_10]; exact hP
                have hD : va_D (va_A (mo_w ad cs M) s.heap.size) (mo_w ad cs M_10) := by rw [eM_10]; exact hD
                refine lv_aload_n hx hb d_MO_stop_107 rfl (lv_at hl 1 rfl) ?_
                refine z_get (ci := 7) (C := R_MO) (T := T_MO) (N := 32) (v := .ref (ad (5))) hx hb hg in_MO hown hK hP (0) (by decide) rfl rfl 9 (by decide) (hg _ (List.mem_append_right _ (List.mem_append_right _ (List.mem_append_right _ (List.mem_append_right _ (List.mem_append_right _ (List.mem_append_right _ (List.mem_append_right _ (List.mem_append_right _ (List.mem_append_right _ (List.mem_append_right _ (List.mem_append_right _ (List.mem_append_right _ (List.mem_append_right _ (List.mem_append_left _ (List.mem_of_getElem? (i := 12) rfl)))))))))))))))) (fun _ h9 => h9) rfl d_MO_stop_108 ?_
                refine z_bipush hx hb (z := 8) d_MO_stop_111 (by decide) ?_
                refine lv_iload_n hx hb d_MO_stop_113 rfl (lv_at hl 2 rfl) ?_
                refine z_imul hx hb d_MO_stop_114 (v := (8 * x)) rfl ?_
                refine lv_iload hx hb d_MO_stop_115 (lv_at hl 0 rfl) ?_
                refine z_iadd hx hb d_MO_stop_117 (v := ((8 * x) + ((n : Nat) : Int))) rfl ?_
                refine lv_iload_n hx hb d_MO_stop_118 rfl (lv_at hl 4 rfl) ?_
                refine z_iast hx hb hK hP hD hS (5) 0 (by decide) (fun _ => rfl) rfl (v := k) (8 * q + n) (by omega) (by omega) (by decide) d_MO_stop_119 (fun H locs hP hD hS => ?_)
                obtain ⟨M_11, eM_11⟩ : ∃ q_, q_ = mset M_10 (5) (8 * q + n) (k) := ⟨_, rfl⟩
                have hP : va_P D vwCl (mo_w ad cs M_11) H := by rw [eM_11]; exact hP
                have hD : va_D (va_A (mo_w ad cs M) s.heap.size) (mo_w ad cs M_11) := by rw [eM_11]; exact hD
                refine lv_aload_n hx hb d_MO_stop_120 rfl (lv_at hl 1 rfl) ?_
                refine z_get (ci := 7) (C := R_MO) (T := T_MO) (N := 32) (v := .ref (ad (3))) hx hb hg in_MO hown hK hP (0) (by decide) rfl rfl 7 (by decide) (hg _ (List.mem_append_right _ (List.mem_append_right _ (List.mem_append_right _ (List.mem_append_right _ (List.mem_append_right _ (List.mem_append_right _ (List.mem_append_right _ (List.mem_append_right _ (List.mem_append_right _ (List.mem_append_right _ (List.mem_append_right _ (List.mem_append_right _ (List.mem_append_right _ (List.mem_append_left _ (List.mem_of_getElem? (i := 10) rfl)))))))))))))))) (fun _ h9 => h9) rfl d_MO_stop_121 ?_
                refine lv_iload_n hx hb d_MO_stop_124 rfl (lv_at hl 2 rfl) ?_
                refine lv_dup2_11 hx hb d_MO_stop_125 rfl rfl ?_
                refine z_iald hx hb hK hP (3) 0 (by decide) (fun _ => rfl) rfl (q) hxq (by omega) (by decide) d_MO_stop_126 ?_
                have hs3 : M_11 (3) (q) = ((n : Nat) : Int) := by rw [eM_11, eM_10, eM_9, mset_ne (by omega), mset_ne (by omega), mset_ne (by omega)]; exact hst
                refine lv_topi (fun y_ ey => ?_)
                have ey := ey.trans (congrArg iI hs3)
                subst ey
                refine z_iconst hx hb (z := 1) d_MO_stop_127 ?_
                refine z_iadd hx hb d_MO_stop_128 (v := ((n + 1 : Nat) : Int)) (by omega) ?_
                refine z_iast hx hb hK hP hD hS (3) 0 (by decide) (fun _ => rfl) rfl (v := ((n + 1 : Nat) : Int)) (q) hxq (by omega) (by decide) d_MO_stop_129 (fun H locs hP hD hS => ?_)
                obtain ⟨M_12, eM_12⟩ : ∃ q_, q_ = mset M_11 (3) (q) (((n + 1 : Nat) : Int)) := ⟨_, rfl⟩
                have hP : va_P D vwCl (mo_w ad cs M_12) H := by rw [eM_12]; exact hP
                have hD : va_D (va_A (mo_w ad cs M) s.heap.size) (mo_w ad cs M_12) := by rw [eM_12]; exact hD
                refine lv_aload_n hx hb d_MO_stop_130 rfl (lv_at hl 1 rfl) ?_
                refine z_iconst hx hb (z := 0) d_MO_stop_131 ?_
                refine z_put (ci := 7) (C := R_MO) (T := T_MO) (N := 32) (v := .int (iI (0))) (ty := .boolean) (ce' := (mo_ce ad cs)) (r := va_up (M_12 (0)) 15 (0)) hx hb hg in_MO ty_MO tk_MO nm_MO hown hK hP hD hS (0) (by decide) rfl rfl 15 (by decide) (hg _ (List.mem_append_right _ (List.mem_append_right _ (List.mem_append_right _ (List.mem_append_right _ (List.mem_append_right _ (List.mem_append_right _ (List.mem_append_right _ (List.mem_append_right _ (List.mem_append_right _ (List.mem_append_right _ (List.mem_append_right _ (List.mem_append_right _ (List.mem_append_right _ (List.mem_append_left _ (List.mem_of_getElem? (i := 18) rfl)))))))))))))))) (fun _ h9 => h9) rfl (by decide +kernel) rfl rfl (Nat.le_of_ble_eq_true rfl) (fun _ _ => rfl) rfl d_MO_stop_132 (fun H locs hP hD hS => ?_)
                obtain ⟨M_13, eM_13⟩ : ∃ q_, q_ = mset M_12 (0) (15) (0) := ⟨_, rfl⟩
                have hP : va_P D vwCl (mo_w ad cs M_13) H := by rw [eM_13]; exact hP
                have hD : va_D (va_A (mo_w ad cs M) s.heap.size) (mo_w ad cs M_13) := by rw [eM_13]; exact hD
                refine lv_iload hx hb d_MO_stop_135 (lv_at hl 0 rfl) ?_
                refine z_iconst hx hb (z := 1) d_MO_stop_137 ?_
                refine z_iadd hx hb d_MO_stop_138 (v := ((n + 1 : Nat) : Int)) (by omega) ?_
                have hM : M_13 = if r_stc M np x at_ k = 0 then r_stM M x.toNat (M 3 x.toNat).toNat at_ k else mset M 0 0 (r_stc M np x at_ k) := by rw [hcd, if_pos rfl, ← eq_, hen, eM_13, eM_12, eM_11, eM_10, eM_9]; rfl
                have eW : mo_w ad cs (M_13) = mo_w ad cs (if r_stc M np x at_ k = 0 then r_stM M x.toNat (M 3 x.toNat).toNat at_ k else mset M 0 0 (r_stc M np x at_ k)) := by rw [hM]
                have hP := Eq.mp (congrArg (fun q => va_P D vwCl q _) eW) hP
                have hD := Eq.mp (congrArg (va_D _) eW) hD
                exact W.iret (v := iI (((n + 1 : Nat) : Int))) hx hb hr (fun t ht hW => ⟨⟨_, (), rfl, by rw [hcd, if_pos rfl, ← eq_, hst]; rfl, by rw [ht]; exact hP, va_K.moved hW.alike hK, hD⟩, hS.F ht⟩) hS.2.2 d_MO_stop_139
              · exact absurd c_89 (by omega)
            · refine z_iconst hx hb (z := 3) d_MO_stop_77 ?_
              refine lv_goto (tgt := 82) hx hb d_MO_stop_78 (by decide) ?_
              have hcd : r_stc M np x at_ k = 3 := by unfold r_stc; rw [← eq_, hen, hst, if_pos c_5, if_pos ⟨c_31, c_40, fun g => by omega⟩, if_pos (by omega)]
              refine z_put (ci := 7) (C := R_MO) (T := T_MO) (N := 32) (v := .int (iI (3))) (ty := .int) (ce' := (mo_ce ad cs)) (r := va_up (M (0)) 0 (3)) hx hb hg in_MO ty_MO tk_MO nm_MO hown hK hP hD hS (0) (by decide) rfl rfl 0 (by decide) (hg _ (List.mem_append_right _ (List.mem_append_right _ (List.mem_append_right _ (List.mem_append_right _ (List.mem_append_right _ (List.mem_append_right _ (List.mem_append_right _ (List.mem_append_right _ (List.mem_append_right _ (List.mem_append_right _ (List.mem_append_right _ (List.mem_append_right _ (List.mem_append_right _ (List.mem_append_left _ (List.mem_of_getElem? (i := 3) rfl)))))))))))))))) (fun _ h9 => h9) rfl (by decide +kernel) rfl rfl (Nat.le_of_ble_eq_true rfl) (fun _ _ => rfl) rfl d_MO_stop_82 (fun H locs hP hD hS => ?_)
              obtain ⟨M_14, eM_14⟩ : ∃ q_, q_ = mset M (0) (0) (3) := ⟨_, rfl⟩
              have hP : va_P D vwCl (mo_w ad cs M_14) H := by rw [eM_14]; exact hP
              have hD : va_D (va_A (mo_w ad cs M) s.heap.size) (mo_w ad cs M_14) := by rw [eM_14]; exact hD
              have g0 : M_14 0 0 = 3 := by rw [eM_14]; exact mset_same _ _ _ _
              refine lv_aload_n hx hb d_MO_stop_85 rfl (lv_at hl 1 rfl) ?_
              refine z_get (ci := 7) (C := R_MO) (T := T_MO) (N := 32) (v := .int (iI (M_14 (0) 0))) hx hb hg in_MO hown hK hP (0) (by decide) rfl rfl 0 (by decide) (hg _ (List.mem_append_right _ (List.mem_append_right _ (List.mem_append_right _ (List.mem_append_right _ (List.mem_append_right _ (List.mem_append_right _ (List.mem_append_right _ (List.mem_append_right _ (List.mem_append_right _ (List.mem_append_right _ (List.mem_append_right _ (List.mem_append_right _ (List.mem_append_right _ (List.mem_append_left _ (List.mem_of_getElem? (i := 3) rfl)))))))))))))))) (fun _ h9 => h9) rfl d_MO_stop_86 ?_
              refine z_if_le hx hb (tgt := 94) d_MO_stop_89 (by decide) ⟨by omega, by omega⟩ (fun c_89 => ?_) (fun c_89 => ?_)
              · exact absurd c_89 (by omega)
              · refine z_iconst hx hb (z := 0) d_MO_stop_92 ?_
                have hM : M_14 = if r_stc M np x at_ k = 0 then r_stM M x.toNat (M 3 x.toNat).toNat at_ k else mset M 0 0 (r_stc M np x at_ k) := by rw [hcd, if_neg (by omega), eM_14]
                have eW : mo_w ad cs (M_14) = mo_w ad cs (if r_stc M np x at_ k = 0 then r_stM M x.toNat (M 3 x.toNat).toNat at_ k else mset M 0 0 (r_stc M np x at_ k)) := by rw [hM]
                have hP := Eq.mp (congrArg (fun q => va_P D vwCl q _) eW) hP
                have hD := Eq.mp (congrArg (va_D _) eW) hD
                exact W.iret (v := iI (0)) hx hb hr (fun t ht hW => ⟨⟨_, (), rfl, by rw [hcd, if_neg (by omega)], by rw [ht]; exact hP, va_K.moved hW.alike hK, hD⟩, hS.F ht⟩) hS.2.2 d_MO_stop_93
          · refine z_iconst hx hb (z := 2) d_MO_stop_66 ?_
            refine lv_goto (tgt := 82) hx hb d_MO_stop_67 (by decide) ?_
            have hcd : r_stc M np x at_ k = 2 := by unfold r_stc; rw [← eq_, hen, hst, if_pos c_5, if_neg (fun g => g.2.2 ⟨by omega, by omega⟩)]
            refine z_put (ci := 7) (C := R_MO) (T := T_MO) (N := 32) (v := .int (iI (2))) (ty := .int) (ce' := (mo_ce ad cs)) (r := va_up (M (0)) 0 (2)) hx hb hg in_MO ty_MO tk_MO nm_MO hown hK hP hD hS (0) (by decide) rfl rfl 0 (by decide) (hg _ (List.mem_append_right _ (List.mem_append_right _ (List.mem_append_right _ (List.mem_append_right _ (List.mem_append_right _ (List.mem_append_right _ (List.mem_append_right _ (List.mem_append_right _ (List.mem_append_right _ (List.mem_append_right _ (List.mem_append_right _ (List.mem_append_right _ (List.mem_append_right _ (List.mem_append_left _ (List.mem_of_getElem? (i := 3) rfl)))))))))))))))) (fun _ h9 => h9) rfl (by decide +kernel) rfl rfl (Nat.le_of_ble_eq_true rfl) (fun _ _ => rfl) rfl d_MO_stop_82 (fun H locs hP hD hS => ?_)
            obtain ⟨M_15, eM_15⟩ : ∃ q_, q_ = mset M (0) (0) (2) := ⟨_, rfl⟩
            have hP : va_P D vwCl (mo_w ad cs M_15) H := by rw [eM_15]; exact hP
            have hD : va_D (va_A (mo_w ad cs M) s.heap.size) (mo_w ad cs M_15) := by rw [eM_15]; exact hD
            have g0 : M_15 0 0 = 2 := by rw [eM_15]; exact mset_same _ _ _ _
            refine lv_aload_n hx hb d_MO_stop_85 rfl (lv_at hl 1 rfl) ?_
            refine z_get (ci := 7) (C := R_MO) (T := T_MO) (N := 32) (v := .int (iI (M_15 (0) 0))) hx hb hg in_MO hown hK hP (0) (by decide) rfl rfl 0 (by decide) (hg _ (List.mem_append_right _ (List.mem_append_right _ (List.mem_append_right _ (List.mem_append_right _ (List.mem_append_right _ (List.mem_append_right _ (List.mem_append_right _ (List.mem_append_right _ (List.mem_append_right _ (List.mem_append_right _ (List.mem_append_right _ (List.mem_append_right _ (List.mem_append_right _ (List.mem_append_left _ (List.mem_of_getElem? (i := 3) rfl)))))))))))))))) (fun _ h9 => h9) rfl d_MO_stop_86 ?_
            refine z_if_le hx hb (tgt := 94) d_MO_stop_89 (by decide) ⟨by omega, by omega⟩ (fun c_89 => ?_) (fun c_89 => ?_)
            · exact absurd c_89 (by omega)
            · refine z_iconst hx hb (z := 0) d_MO_stop_92 ?_
              have hM : M_15 = if r_stc M np x at_ k = 0 then r_stM M x.toNat (M 3 x.toNat).toNat at_ k else mset M 0 0 (r_stc M np x at_ k) := by rw [hcd, if_neg (by omega), eM_15]
              have eW : mo_w ad cs (M_15) = mo_w ad cs (if r_stc M np x at_ k = 0 then r_stM M x.toNat (M 3 x.toNat).toNat at_ k else mset M 0 0 (r_stc M np x at_ k)) := by rw [hM]
              have hP := Eq.mp (congrArg (fun q => va_P D vwCl q _) eW) hP
              have hD := Eq.mp (congrArg (va_D _) eW) hD
              exact W.iret (v := iI (0)) hx hb hr (fun t ht hW => ⟨⟨_, (), rfl, by rw [hcd, if_neg (by omega)], by rw [ht]; exact hP, va_K.moved hW.alike hK, hD⟩, hS.F ht⟩) hS.2.2 d_MO_stop_93
  · have hcd : r_stc M np x at_ k = 1 := by unfold r_stc; rw [if_neg c_5]
    refine lv_aload_n hx hb d_MO_stop_8 rfl (lv_at hl 0 rfl) ?_
    refine z_iconst hx hb (z := 1) d_MO_stop_9 ?_
    refine rw_Vi (As := [.int (iI (1))]) (rest := []) (w' := (mo_w ad cs (mset M 0 0 1))) (z := 0) ⟨hx, hb, hml, hown, hg⟩ (r_raise l _ 1) (cwV 1 hg (gt_V (List.mem_append_right _ (List.mem_append_right _ (List.mem_append_right _ (List.mem_append_right _ (List.mem_append_right _ (List.mem_append_right _ (List.mem_append_right _ (List.mem_append_right _ (List.mem_append_right _ (List.mem_append_right _ (List.mem_append_right _ (List.mem_append_right _ (List.mem_append_right _ (List.mem_append_right _ (List.mem_append_right _ (List.mem_append_left _ (List.mem_of_getElem? (i := 23) rfl))))))))))))))))) (List.mem_append_right _ (List.mem_append_right _ (List.mem_append_right _ (List.mem_append_right _ (List.mem_append_right _ (List.mem_append_right _ (List.mem_append_right _ (List.mem_append_right _ (List.mem_append_right _ (List.mem_append_right _ (List.mem_append_right _ (List.mem_append_right _ (List.mem_append_right _ (List.mem_append_right _ (List.mem_append_right _ (List.mem_append_left _ (List.mem_of_getElem? (i := 24) rfl))))))))))))))))) (List.mem_append_left _ (List.mem_of_getElem? (i := 23) rfl)) (List.mem_append_right _ (List.mem_append_left _ (List.mem_of_getElem? (i := 9) rfl))) (List.mem_append_right _ (List.mem_append_right _ (List.mem_append_right _ (List.mem_append_right _ (List.mem_append_right _ (List.mem_append_right _ (List.mem_append_right _ (List.mem_append_right _ (List.mem_append_right _ (List.mem_append_right _ (List.mem_append_right _ (List.mem_append_right _ (List.mem_append_right _ (List.mem_append_right _ (List.mem_append_right _ (List.mem_append_left _ (List.mem_of_getElem? (i := 25) rfl)))))))))))))))))) rfl rfl rfl (by decide +kernel) ⟨Nat.le_of_ble_eq_true rfl, Nat.le_of_ble_eq_true rfl⟩) hK hP hD hS hA (va_recv hK hP (ci := 7) (q0 := 0) rfl (wl_atE (by decide) rfl)) rfl hl.1 rfl (Nat.le_of_ble_eq_true rfl) d_MO_stop_10 ⟨Nat.zero_le _, Nat.zero_le _⟩ (fun H locs hP hD hS => ?_)
    obtain ⟨M_16, eM_16⟩ : ∃ q_, q_ = mset M 0 0 1 := ⟨_, rfl⟩
    have hP : va_P D vwCl (mo_w ad cs M_16) H := by rw [eM_16]; exact hP
    have hD : va_D (va_A (mo_w ad cs M) s.heap.size) (mo_w ad cs M_16) := by rw [eM_16]; exact hD
    have hM : M_16 = if r_stc M np x at_ k = 0 then r_stM M x.toNat (M 3 x.toNat).toNat at_ k else mset M 0 0 (r_stc M np x at_ k) := by rw [hcd, if_neg (by omega), eM_16]
    have eW : mo_w ad cs (M_16) = mo_w ad cs (if r_stc M np x at_ k = 0 then r_stM M x.toNat (M 3 x.toNat).toNat at_ k else mset M 0 0 (r_stc M np x at_ k)) := by rw [hM]
    have hP := Eq.mp (congrArg (fun q => va_P D vwCl q _) eW) hP
    have hD := Eq.mp (congrArg (va_D _) eW) hD
    exact W.iret (v := iI (0)) hx hb hr (fun t ht hW => ⟨⟨_, (), rfl, by rw [hcd, if_neg (by omega)], by rw [ht]; exact hP, va_K.moved hW.alike hK, hD⟩, hS.F ht⟩) hS.2.2 d_MO_stop_13
set_option maxHeartbeats 4000000 in
set_option maxRecDepth 100000 in
/-- sheet -/
theorem r_sheet (l : Launch) {D : va_G} {ad : Nat → Nat} {cs : ClassId} {M : Nat → Nat → Int} (sz : Nat) (wd h sp : Int) (hx0 : zb wd) (hw : zb h) (hv : zb sp) : Met l y_MO_sheet ws_MO_sheet ({ frames := 1, cells := 0, slots := 0, locals := 22 } : Room) (va_Pc [.ref (ad (0)), .int (iI (wd)), .int (iI (h)), .int (iI (sp))] (rw_B D vwCl (mo_tys cs) (mo_w ad cs M) sz)) (va_Qv (fun _ : Unit => True) (rw_E D vwCl (mo_tys cs) (mo_w ad cs M) (mo_w ad cs (if r_shc wd h sp = 0 then r_shM M wd h sp else mset M 0 0 (r_shc wd h sp))) sz) (va_A (mo_w ad cs M) sz)) 0 0 (va_A (mo_w ad cs M) sz) := by
  refine Met.ofW (cc := b_MO_sheet) (maxL := 4) (ret := none) (by decide) rfl ?_
  intro p e s m args below meth c s₁ B hml hv
  obtain ⟨rfl, hsz, hP, hK, hD0⟩ := hv
  have hx := B.exec
  have hb := B.bytes
  have hr := B.returns
  have hts := atoms_spec (ws := ws_MO_sheet) B.pre
  have hg : ∀ w ∈ gt, w.before _ s = true := fun w h => hts w (List.mem_cons_of_mem _ h)
  have hown : s.vm.findClass R_MO = some m.cls := findClass_of_methodNamed B.named
  have hlocks := B.notSynchronized
  subst hsz
  have hD := hD0.self (sz := s.heap.size)
  have hA : ∀ q : Nat, s.heap.size ≤ q → va_A (mo_w ad cs M) s.heap.size q := fun q h => Or.inr h
  have hS : va_S (va_A (mo_w ad cs M) s.heap.size) s.heap s.heap [] := va_S.rf
  have hl := lv_entry ([.ref (ad (0)), .int (iI (wd)), .int (iI (h)), .int (iI (sp))]) (n := 4) (Nat.le_of_ble_eq_true rfl)
  rw [lg_entry_eq]
  generalize (lg_sl ([.ref (ad (0)), .int (iI (wd)), .int (iI (h)), .int (iI (sp))]) ++ List.replicate (4 - (lg_sl ([.ref (ad (0)), .int (iI (wd)), .int (iI (h)), .int (iI (sp))])).length) Slot.unset).toArray = ls at hl ⊢
  have hl : lv_has ls 4 [(0, .ref (ad (0))), (1, .int (iI (wd))), (2, .int (iI (h))), (3, .int (iI (sp)))] := hl
  obtain ⟨hx1, hx2⟩ := hx0
  obtain ⟨hw1, hw2⟩ := hw
  obtain ⟨hv1, hv2⟩ := hv
  refine lv_aload_n hx hb d_MO_sheet_0 rfl (lv_at hl 0 rfl) ?_
  refine lv_iload_n hx hb d_MO_sheet_1 rfl (lv_at hl 1 rfl) ?_
  refine z_iconst hx hb (z := 1) d_MO_sheet_2 ?_
  refine z_sipush hx hb (z := 30000) d_MO_sheet_3 (by decide) ?_
  refine ro_S (As := [.int (iI (wd)), .int (iI (1)), .int (iI (30000))]) (rest := [.ref (ad (0))]) (z := bz (inn (wd) (1) (30000)) inferInstance) ⟨hx, hb, hml, hown, hg⟩ (r_in l (wd) (1) (30000) ⟨by omega, by omega⟩ ⟨by decide, by decide⟩ ⟨by decide, by decide⟩) (cwS 3 hg (gt_S (List.mem_append_right _ (List.mem_append_right _ (List.mem_append_right _ (List.mem_append_right _ (List.mem_append_right _ (List.mem_append_right _ (List.mem_append_right _ (List.mem_append_right _ (List.mem_append_right _ (List.mem_append_right _ (List.mem_append_right _ (List.mem_append_right _ (List.mem_append_right _ (List.mem_append_right _ (List.mem_append_right _ (List.mem_append_left _ (List.mem_of_getElem? (i := 3) rfl))))))))))))))))) (List.mem_append_right _ (List.mem_append_right _ (List.mem_append_right _ (List.mem_append_right _ (List.mem_append_right _ (List.mem_append_right _ (List.mem_append_right _ (List.mem_append_right _ (List.mem_append_right _ (List.mem_append_right _ (List.mem_append_right _ (List.mem_append_right _ (List.mem_append_right _ (List.mem_append_right _ (List.mem_append_right _ (List.mem_append_left _ (List.mem_of_getElem? (i := 4) rfl))))))))))))))))) (List.mem_append_right _ (List.mem_append_left _ (List.mem_of_getElem? (i := 9) rfl))) (List.mem_append_right _ (List.mem_append_right _ (List.mem_append_right _ (List.mem_append_right _ (List.mem_append_right _ (List.mem_append_right _ (List.mem_append_right _ (List.mem_append_right _ (List.mem_append_right _ (List.mem_append_right _ (List.mem_append_right _ (List.mem_append_right _ (List.mem_append_right _ (List.mem_append_right _ (List.mem_append_right _ (List.mem_append_left _ (List.mem_of_getElem? (i := 5) rfl)))))))))))))))))) rfl rfl rfl (by decide +kernel) ⟨Nat.le_of_ble_eq_true rfl, Nat.le_of_ble_eq_true rfl⟩) hK hP rfl hl.1 rfl (Nat.le_of_ble_eq_true rfl) d_MO_sheet_6 ⟨Nat.zero_le _, Nat.zero_le _⟩ ?_
  refine z_ifb_eq hx hb (tgt := 38) d_MO_sheet_9 (by decide) (fun c_9 => ?_) (fun c_9 => ?_)
  · refine z_iconst hx hb (z := 1) d_MO_sheet_38 ?_
    have hcd : r_shc wd h sp = 1 := by unfold r_shc; rw [if_neg (fun g => c_9 g.1)]
    refine z_put (ci := 7) (C := R_MO) (T := T_MO) (N := 32) (v := .int (iI (1))) (ty := .int) (ce' := (mo_ce ad cs)) (r := va_up (M (0)) 0 (1)) hx hb hg in_MO ty_MO tk_MO nm_MO hown hK hP hD hS (0) (by decide) rfl rfl 0 (by decide) (hg _ (List.mem_append_right _ (List.mem_append_right _ (List.mem_append_right _ (List.mem_append_right _ (List.mem_append_right _ (List.mem_append_right _ (List.mem_append_right _ (List.mem_append_right _ (List.mem_append_right _ (List.mem_append_right _ (List.mem_append_right _ (List.mem_append_right _ (List.mem_append_right _ (List.mem_append_left _ (List.mem_of_getElem? (i := 3) rfl)))))))))))))))) (fun _ h9 => h9) rfl (by decide +kernel) rfl rfl (Nat.le_of_ble_eq_true rfl) (fun _ _ => rfl) rfl d_MO_sheet_39 (fun H locs hP hD hS => ?_)
    obtain ⟨M_1, eM_1⟩ : ∃ q_, q_ = mset M (0) (0) (1) := ⟨_, rfl⟩
    have hP : va_P D vwCl (mo_w ad cs M_1) H := by rw [eM_1]; exact hP
    have hD : va_D (va_A (mo_w ad cs M) s.heap.size) (mo_w ad cs M_1) := by rw [eM_1]; exact hD
    have g0 : M_1 0 0 = 1 := by rw [eM_1]; exact mset_same _ _ _ _
    refine lv_aload_n hx hb d_MO_sheet_42 rfl (lv_at hl 0 rfl) ?_
    refine z_get (ci := 7) (C := R_MO) (T := T_MO) (N := 32) (v := .int (iI (M_1 (0) 0))) hx hb hg in_MO hown hK hP (0) (by decide) rfl rfl 0 (by decide) (hg _ (List.mem_append_right _ (List.mem_append_right _ (List.mem_append_right _ (List.mem_append_right _ (List.mem_append_right _ (List.mem_append_right _ (List.mem_append_right _ (List.mem_append_right _ (List.mem_append_right _ (List.mem_append_right _ (List.mem_append_right _ (List.mem_append_right _ (List.mem_append_right _ (List.mem_append_left _ (List.mem_of_getElem? (i := 3) rfl)))))))))))))))) (fun _ h9 => h9) rfl d_MO_sheet_43 ?_
    refine z_if_le hx hb (tgt := 50) d_MO_sheet_46 (by decide) ⟨by omega, by omega⟩ (fun c_46 => ?_) (fun c_46 => ?_)
    · exact absurd c_46 (by omega)
    · have hM : M_1 = if r_shc wd h sp = 0 then r_shM M wd h sp else mset M 0 0 (r_shc wd h sp) := by rw [hcd, if_neg (by omega), eM_1]
      have eW : mo_w ad cs (M_1) = mo_w ad cs (if r_shc wd h sp = 0 then r_shM M wd h sp else mset M 0 0 (r_shc wd h sp)) := by rw [hM]
      have hP := Eq.mp (congrArg (fun q => va_P D vwCl q _) eW) hP
      have hD := Eq.mp (congrArg (va_D _) eW) hD
      exact W.vret hx hb hr (fun t ht hW => ⟨⟨(), rfl, trivial, by rw [ht]; exact hP, va_K.moved hW.alike hK, hD⟩, hS.F ht⟩) hS.2.2 d_MO_sheet_49
  · refine lv_iload_n hx hb d_MO_sheet_12 rfl (lv_at hl 2 rfl) ?_
    refine z_iconst hx hb (z := 1) d_MO_sheet_13 ?_
    refine z_sipush hx hb (z := 30000) d_MO_sheet_14 (by decide) ?_
    refine ro_S (As := [.int (iI (h)), .int (iI (1)), .int (iI (30000))]) (rest := [.ref (ad (0))]) (z := bz (inn (h) (1) (30000)) inferInstance) ⟨hx, hb, hml, hown, hg⟩ (r_in l (h) (1) (30000) ⟨by omega, by omega⟩ ⟨by decide, by decide⟩ ⟨by decide, by decide⟩) (cwS 3 hg (gt_S (List.mem_append_right _ (List.mem_append_right _ (List.mem_append_right _ (List.mem_append_right _ (List.mem_append_right _ (List.mem_append_right _ (List.mem_append_right _ (List.mem_append_right _ (List.mem_append_right _ (List.mem_append_right _ (List.mem_append_right _ (List.mem_append_right _ (List.mem_append_right _ (List.mem_append_right _ (List.mem_append_right _ (List.mem_append_left _ (List.mem_of_getElem? (i := 3) rfl))))))))))))))))) (List.mem_append_right _ (List.mem_append_right _ (List.mem_append_right _ (List.mem_append_right _ (List.mem_append_right _ (List.mem_append_right _ (List.mem_append_right _ (List.mem_append_right _ (List.mem_append_right _ (List.mem_append_right _ (List.mem_append_right _ (List.mem_append_right _ (List.mem_append_right _ (List.mem_append_right _ (List.mem_append_right _ (List.mem_append_left _ (List.mem_of_getElem? (i := 4) rfl))))))))))))))))) (List.mem_append_right _ (List.mem_append_left _ (List.mem_of_getElem? (i := 9) rfl))) (List.mem_append_right _ (List.mem_append_right _ (List.mem_append_right _ (List.mem_append_right _ (List.mem_append_right _ (List.mem_append_right _ (List.mem_append_right _ (List.mem_append_right _ (List.mem_append_right _ (List.mem_append_right _ (List.mem_append_right _ (List.mem_append_right _ (List.mem_append_right _ (List.mem_append_right _ (List.mem_append_right _ (List.mem_append_left _ (List.mem_of_getElem? (i := 5) rfl)))))))))))))))))) rfl rfl rfl (by decide +kernel) ⟨Nat.le_of_ble_eq_true rfl, Nat.le_of_ble_eq_true rfl⟩) hK hP rfl hl.1 rfl (Nat.le_of_ble_eq_true rfl) d_MO_sheet_17 ⟨Nat.zero_le _, Nat.zero_le _⟩ ?_
    refine z_ifb_eq hx hb (tgt := 38) d_MO_sheet_20 (by decide) (fun c_20 => ?_) (fun c_20 => ?_)
    · refine z_iconst hx hb (z := 1) d_MO_sheet_38 ?_
      have hcd : r_shc wd h sp = 1 := by unfold r_shc; rw [if_neg (fun g => c_20 g.2.1)]
      refine z_put (ci := 7) (C := R_MO) (T := T_MO) (N := 32) (v := .int (iI (1))) (ty := .int) (ce' := (mo_ce ad cs)) (r := va_up (M (0)) 0 (1)) hx hb hg in_MO ty_MO tk_MO nm_MO hown hK hP hD hS (0) (by decide) rfl rfl 0 (by decide) (hg _ (List.mem_append_right _ (List.mem_append_right _ (List.mem_append_right _ (List.mem_append_right _ (List.mem_append_right _ (List.mem_append_right _ (List.mem_append_right _ (List.mem_append_right _ (List.mem_append_right _ (List.mem_append_right _ (List.mem_append_right _ (List.mem_append_right _ (List.mem_append_right _ (List.mem_append_left _ (List.mem_of_getElem? (i := 3) rfl)))))))))))))))) (fun _ h9 => h9) rfl (by decide +kernel) rfl rfl (Nat.le_of_ble_eq_true rfl) (fun _ _ => rfl) rfl d_MO_sheet_39 (fun H locs hP hD hS => ?_)
      obtain ⟨M_2, eM_2⟩ : ∃ q_, q_ = mset M (0) (0) (1) := ⟨_, rfl⟩
      have hP : va_P D vwCl (mo_w ad cs M_2) H := by rw [eM_2]; exact hP
      have hD : va_D (va_A (mo_w ad cs M) s.heap.size) (mo_w ad cs M_2) := by rw [eM_2]; exact hD
      have g0 : M_2 0 0 = 1 := by rw [eM_2]; exact mset_same _ _ _ _
      refine lv_aload_n hx hb d_MO_sheet_42 rfl (lv_at hl 0 rfl) ?_
      refine z_get (ci := 7) (C := R_MO) (T := T_MO) (N := 32) (v := .int (iI (M_2 (0) 0))) hx hb hg in_MO hown hK hP (0) (by decide) rfl rfl 0 (by decide) (hg _ (List.mem_append_right _ (List.mem_append_right _ (List.mem_append_right _ (List.mem_append_right _ (List.mem_append_right _ (List.mem_append_right _ (List.mem_append_right _ (List.mem_append_right _ (List.mem_append_right _ (List.mem_append_right _ (List.mem_append_right _ (List.mem_append_right _ (List.mem_append_right _ (List.mem_append_left _ (List.mem_of_getElem? (i := 3) rfl)))))))))))))))) (fun _ h9 => h9) rfl d_MO_sheet_43 ?_
      refine z_if_le hx hb (tgt := 50) d_MO_sheet_46 (by decide) ⟨by omega, by omega⟩ (fun c_46 => ?_) (fun c_46 => ?_)
      · exact absurd c_46 (by omega)
      · have hM : M_2 = if r_shc wd h sp = 0 then r_shM M wd h sp else mset M 0 0 (r_shc wd h sp) := by rw [hcd, if_neg (by omega), eM_2]
        have eW : mo_w ad cs (M_2) = mo_w ad cs (if r_shc wd h sp = 0 then r_shM M wd h sp else mset M 0 0 (r_shc wd h sp)) := by rw [hM]
        have hP := Eq.mp (congrArg (fun q => va_P D vwCl q _) eW) hP
        have hD := Eq.mp (congrArg (va_D _) eW) hD
        exact W.vret hx hb hr (fun t ht hW => ⟨⟨(), rfl, trivial, by rw [ht]; exact hP, va_K.moved hW.alike hK, hD⟩, hS.F ht⟩) hS.2.2 d_MO_sheet_49
    · refine lv_iload_n hx hb d_MO_sheet_23 rfl (lv_at hl 3 rfl) ?_
      refine z_iconst hx hb (z := 1) d_MO_sheet_24 ?_
      refine z_sipush hx hb (z := 30000) d_MO_sheet_25 (by decide) ?_
      refine ro_S (As := [.int (iI (sp)), .int (iI (1)), .int (iI (30000))]) (rest := [.ref (ad (0))]) (z := bz (inn (sp) (1) (30000)) inferInstance) ⟨hx, hb, hml, hown, hg⟩ (r_in l (sp) (1) (30000) ⟨by omega, by omega⟩ ⟨by decide, by decide⟩ ⟨by decide, by decide⟩) (cwS 3 hg (gt_S (List.mem_append_right _ (List.mem_append_right _ (List.mem_append_right _ (List.mem_append_right _ (List.mem_append_right _ (List.mem_append_right _ (List.mem_append_right _ (List.mem_append_right _ (List.mem_append_right _ (List.mem_append_right _ (List.mem_append_right _ (List.mem_append_right _ (List.mem_append_right _ (List.mem_append_right _ (List.mem_append_right _ (List.mem_append_left _ (List.mem_of_getElem? (i := 3) rfl))))))))))))))))) (List.mem_append_right _ (List.mem_append_right _ (List.mem_append_right _ (List.mem_append_right _ (List.mem_append_right _ (List.mem_append_right _ (List.mem_append_right _ (List.mem_append_right _ (List.mem_append_right _ (List.mem_append_right _ (List.mem_append_right _ (List.mem_append_right _ (List.mem_append_right _ (List.mem_append_right _ (List.mem_append_right _ (List.mem_append_left _ (List.mem_of_getElem? (i := 4) rfl))))))))))))))))) (List.mem_append_right _ (List.mem_append_left _ (List.mem_of_getElem? (i := 9) rfl))) (List.mem_append_right _ (List.mem_append_right _ (List.mem_append_right _ (List.mem_append_right _ (List.mem_append_right _ (List.mem_append_right _ (List.mem_append_right _ (List.mem_append_right _ (List.mem_append_right _ (List.mem_append_right _ (List.mem_append_right _ (List.mem_append_right _ (List.mem_append_right _ (List.mem_append_right _ (List.mem_append_right _ (List.mem_append_left _ (List.mem_of_getElem? (i := 5) rfl)))))))))))))))))) rfl rfl rfl (by decide +kernel) ⟨Nat.le_of_ble_eq_true rfl, Nat.le_of_ble_eq_true rfl⟩) hK hP rfl hl.1 rfl (Nat.le_of_ble_eq_true rfl) d_MO_sheet_28 ⟨Nat.zero_le _, Nat.zero_le _⟩ ?_
      refine z_ifb_eq hx hb (tgt := 38) d_MO_sheet_31 (by decide) (fun c_31 => ?_) (fun c_31 => ?_)
      · refine z_iconst hx hb (z := 1) d_MO_sheet_38 ?_
        have hcd : r_shc wd h sp = 1 := by unfold r_shc; rw [if_neg (fun g => c_31 g.2.2)]
        refine z_put (ci := 7) (C := R_MO) (T := T_MO) (N := 32) (v := .int (iI (1))) (ty := .int) (ce' := (mo_ce ad cs)) (r := va_up (M (0)) 0 (1)) hx hb hg in_MO ty_MO tk_MO nm_MO hown hK hP hD hS (0) (by decide) rfl rfl 0 (by decide) (hg _ (List.mem_append_right _ (List.mem_append_right _ (List.mem_append_right _ (List.mem_append_right _ (List.mem_append_right _ (List.mem_append_right _ (List.mem_append_right _ (List.mem_append_right _ (List.mem_append_right _ (List.mem_append_right _ (List.mem_append_right _ (List.mem_append_right _ (List.mem_append_right _ (List.mem_append_left _ (List.mem_of_getElem? (i := 3) rfl)))))))))))))))) (fun _ h9 => h9) rfl (by decide +kernel) rfl rfl (Nat.le_of_ble_eq_true rfl) (fun _ _ => rfl) rfl d_MO_sheet_39 (fun H locs hP hD hS => ?_)
        obtain ⟨M_3, eM_3⟩ : ∃ q_, q_ = mset M (0) (0) (1) := ⟨_, rfl⟩
        have hP : va_P D vwCl (mo_w ad cs M_3) H := by rw [eM_3]; exact hP
        have hD : va_D (va_A (mo_w ad cs M) s.heap.size) (mo_w ad cs M_3) := by rw [eM_3]; exact hD
        have g0 : M_3 0 0 = 1 := by rw [eM_3]; exact mset_same _ _ _ _
        refine lv_aload_n hx hb d_MO_sheet_42 rfl (lv_at hl 0 rfl) ?_
        refine z_get (ci := 7) (C := R_MO) (T := T_MO) (N := 32) (v := .int (iI (M_3 (0) 0))) hx hb hg in_MO hown hK hP (0) (by decide) rfl rfl 0 (by decide) (hg _ (List.mem_append_right _ (List.mem_append_right _ (List.mem_append_right _ (List.mem_append_right _ (List.mem_append_right _ (List.mem_append_right _ (List.mem_append_right _ (List.mem_append_right _ (List.mem_append_right _ (List.mem_append_right _ (List.mem_append_right _ (List.mem_append_right _ (List.mem_append_right _ (List.mem_append_left _ (List.mem_of_getElem? (i := 3) rfl)))))))))))))))) (fun _ h9 => h9) rfl d_MO_sheet_43 ?_
        refine z_if_le hx hb (tgt := 50) d_MO_sheet_46 (by decide) ⟨by omega, by omega⟩ (fun c_46 => ?_) (fun c_46 => ?_)
        · exact absurd c_46 (by omega)
        · have hM : M_3 = if r_shc wd h sp = 0 then r_shM M wd h sp else mset M 0 0 (r_shc wd h sp) := by rw [hcd, if_neg (by omega), eM_3]
          have eW : mo_w ad cs (M_3) = mo_w ad cs (if r_shc wd h sp = 0 then r_shM M wd h sp else mset M 0 0 (r_shc wd h sp)) := by rw [hM]
          have hP := Eq.mp (congrArg (fun q => va_P D vwCl q _) eW) hP
          have hD := Eq.mp (congrArg (va_D _) eW) hD
          exact W.vret hx hb hr (fun t ht hW => ⟨⟨(), rfl, trivial, by rw [ht]; exact hP, va_K.moved hW.alike hK, hD⟩, hS.F ht⟩) hS.2.2 d_MO_sheet_49
      · refine z_iconst hx hb (z := 0) d_MO_sheet_34 ?_
        refine lv_goto (tgt := 39) hx hb d_MO_sheet_35 (by decide) ?_
        have hcd : r_shc wd h sp = 0 := by unfold r_shc; rw [if_pos ⟨c_9, c_20, c_31⟩]
        refine z_put (ci := 7) (C := R_MO) (T := T_MO) (N := 32) (v := .int (iI (0))) (ty := .int) (ce' := (mo_ce ad cs)) (r := va_up (M (0)) 0 (0)) hx hb hg in_MO ty_MO tk_MO nm_MO hown hK hP hD hS (0) (by decide) rfl rfl 0 (by decide) (hg _ (List.mem_append_right _ (List.mem_append_right _ (List.mem_append_right _ (List.mem_append_right _ (List.mem_append_right _ (List.mem_append_right _ (List.mem_append_right _ (List.mem_append_right _ (List.mem_append_right _ (List.mem_append_right _ (List.mem_append_right _ (List.mem_append_right _ (List.mem_append_right _ (List.mem_append_left _ (List.mem_of_getElem? (i := 3) rfl)))))))))))))))) (fun _ h9 => h9) rfl (by decide +kernel) rfl rfl (Nat.le_of_ble_eq_true rfl) (fun _ _ => rfl) rfl d_MO_sheet_39 (fun H locs hP hD hS => ?_)
        obtain ⟨M_4, eM_4⟩ : ∃ q_, q_ = mset M (0) (0) (0) := ⟨_, rfl⟩
        have hP : va_P D vwCl (mo_w ad cs M_4) H := by rw [eM_4]; exact hP
        have hD : va_D (va_A (mo_w ad cs M) s.heap.size) (mo_w ad cs M_4) := by rw [eM_4]; exact hD
        have g0 : M_4 0 0 = 0 := by rw [eM_4]; exact mset_same _ _ _ _
        refine lv_aload_n hx hb d_MO_sheet_42 rfl (lv_at hl 0 rfl) ?_
        refine z_get (ci := 7) (C := R_MO) (T := T_MO) (N := 32) (v := .int (iI (M_4 (0) 0))) hx hb hg in_MO hown hK hP (0) (by decide) rfl rfl 0 (by decide) (hg _ (List.mem_append_right _ (List.mem_append_right _ (List.mem_append_right _ (List.mem_append_right _ (List.mem_append_right _ (List.mem_append_right _ (List.mem_append_right _ (List.mem_append_right _ (List.mem_append_right _ (List.mem_append_right _ (List.mem_append_right _ (List.mem_append_right _ (List.mem_append_right _ (List.mem_append_left _ (List.mem_of_getElem? (i := 3) rfl)))))))))))))))) (fun _ h9 => h9) rfl d_MO_sheet_43 ?_
        refine z_if_le hx hb (tgt := 50) d_MO_sheet_46 (by decide) ⟨by omega, by omega⟩ (fun c_46 => ?_) (fun c_46 => ?_)
        · refine lv_aload_n hx hb d_MO_sheet_50 rfl (lv_at hl 0 rfl) ?_
          refine lv_iload_n hx hb d_MO_sheet_51 rfl (lv_at hl 1 rfl) ?_
          refine z_put (ci := 7) (C := R_MO) (T := T_MO) (N := 32) (v := .int (iI (wd))) (ty := .int) (ce' := (mo_ce ad cs)) (r := va_up (M_4 (0)) 1 (wd)) hx hb hg in_MO ty_MO tk_MO nm_MO hown hK hP hD hS (0) (by decide) rfl rfl 1 (by decide) (hg _ (List.mem_append_right _ (List.mem_append_right _ (List.mem_append_right _ (List.mem_append_right _ (List.mem_append_right _ (List.mem_append_right _ (List.mem_append_right _ (List.mem_append_right _ (List.mem_append_right _ (List.mem_append_right _ (List.mem_append_right _ (List.mem_append_right _ (List.mem_append_right _ (List.mem_append_left _ (List.mem_of_getElem? (i := 4) rfl)))))))))))))))) (fun _ h9 => h9) rfl (by decide +kernel) rfl rfl (Nat.le_of_ble_eq_true rfl) (fun _ _ => rfl) rfl d_MO_sheet_52 (fun H locs hP hD hS => ?_)
          obtain ⟨M_5, eM_5⟩ : ∃ q_, q_ = mset M_4 (0) (1) (wd) := ⟨_, rfl⟩
          have hP : va_P D vwCl (mo_w ad cs M_5) H := by rw [eM_5]; exact hP
          have hD : va_D (va_A (mo_w ad cs M) s.heap.size) (mo_w ad cs M_5) := by rw [eM_5]; exact hD
          refine lv_aload_n hx hb d_MO_sheet_55 rfl (lv_at hl 0 rfl) ?_
          refine lv_iload_n hx hb d_MO_sheet_56 rfl (lv_at hl 2 rfl) ?_
          refine z_put (ci := 7) (C := R_MO) (T := T_MO) (N := 32) (v := .int (iI (h))) (ty := .int) (ce' := (mo_ce ad cs)) (r := va_up (M_5 (0)) 2 (h)) hx hb hg in_MO ty_MO tk_MO nm_MO hown hK hP hD hS (0) (by decide) rfl rfl 2 (by decide) (hg _ (List.mem_append_right _ (List.mem_append_right _ (List.mem_append_right _ (List.mem_append_right _ (List.mem_append_right _ (List.mem_append_right _ (List.mem_append_right _ (List.mem_append_right _ (List.mem_append_right _ (List.mem_append_right _ (List.mem_append_right _ (List.mem_append_right _ (List.mem_append_right _ (List.mem_append_left _ (List.mem_of_getElem? (i := 5) rfl)))))))))))))))) (fun _ h9 => h9) rfl (by decide +kernel) rfl rfl (Nat.le_of_ble_eq_true rfl) (fun _ _ => rfl) rfl d_MO_sheet_57 (fun H locs hP hD hS => ?_)
          obtain ⟨M_6, eM_6⟩ : ∃ q_, q_ = mset M_5 (0) (2) (h) := ⟨_, rfl⟩
          have hP : va_P D vwCl (mo_w ad cs M_6) H := by rw [eM_6]; exact hP
          have hD : va_D (va_A (mo_w ad cs M) s.heap.size) (mo_w ad cs M_6) := by rw [eM_6]; exact hD
          refine lv_aload_n hx hb d_MO_sheet_60 rfl (lv_at hl 0 rfl) ?_
          refine lv_iload_n hx hb d_MO_sheet_61 rfl (lv_at hl 3 rfl) ?_
          refine z_put (ci := 7) (C := R_MO) (T := T_MO) (N := 32) (v := .int (iI (sp))) (ty := .int) (ce' := (mo_ce ad cs)) (r := va_up (M_6 (0)) 3 (sp)) hx hb hg in_MO ty_MO tk_MO nm_MO hown hK hP hD hS (0) (by decide) rfl rfl 3 (by decide) (hg _ (List.mem_append_right _ (List.mem_append_right _ (List.mem_append_right _ (List.mem_append_right _ (List.mem_append_right _ (List.mem_append_right _ (List.mem_append_right _ (List.mem_append_right _ (List.mem_append_right _ (List.mem_append_right _ (List.mem_append_right _ (List.mem_append_right _ (List.mem_append_right _ (List.mem_append_left _ (List.mem_of_getElem? (i := 6) rfl)))))))))))))))) (fun _ h9 => h9) rfl (by decide +kernel) rfl rfl (Nat.le_of_ble_eq_true rfl) (fun _ _ => rfl) rfl d_MO_sheet_62 (fun H locs hP hD hS => ?_)
          obtain ⟨M_7, eM_7⟩ : ∃ q_, q_ = mset M_6 (0) (3) (sp) := ⟨_, rfl⟩
          have hP : va_P D vwCl (mo_w ad cs M_7) H := by rw [eM_7]; exact hP
          have hD : va_D (va_A (mo_w ad cs M) s.heap.size) (mo_w ad cs M_7) := by rw [eM_7]; exact hD
          refine lv_aload_n hx hb d_MO_sheet_65 rfl (lv_at hl 0 rfl) ?_
          refine z_iconst hx hb (z := 0) d_MO_sheet_66 ?_
          refine z_put (ci := 7) (C := R_MO) (T := T_MO) (N := 32) (v := .int (iI (0))) (ty := .boolean) (ce' := (mo_ce ad cs)) (r := va_up (M_7 (0)) 15 (0)) hx hb hg in_MO ty_MO tk_MO nm_MO hown hK hP hD hS (0) (by decide) rfl rfl 15 (by decide) (hg _ (List.mem_append_right _ (List.mem_append_right _ (List.mem_append_right _ (List.mem_append_right _ (List.mem_append_right _ (List.mem_append_right _ (List.mem_append_right _ (List.mem_append_right _ (List.mem_append_right _ (List.mem_append_right _ (List.mem_append_right _ (List.mem_append_right _ (List.mem_append_right _ (List.mem_append_left _ (List.mem_of_getElem? (i := 18) rfl)))))))))))))))) (fun _ h9 => h9) rfl (by decide +kernel) rfl rfl (Nat.le_of_ble_eq_true rfl) (fun _ _ => rfl) rfl d_MO_sheet_67 (fun H locs hP hD hS => ?_)
          obtain ⟨M_8, eM_8⟩ : ∃ q_, q_ = mset M_7 (0) (15) (0) := ⟨_, rfl⟩
          have hP : va_P D vwCl (mo_w ad cs M_8) H := by rw [eM_8]; exact hP
          have hD : va_D (va_A (mo_w ad cs M) s.heap.size) (mo_w ad cs M_8) := by rw [eM_8]; exact hD
          have hM : M_8 = if r_shc wd h sp = 0 then r_shM M wd h sp else mset M 0 0 (r_shc wd h sp) := by rw [hcd, if_pos rfl, eM_8, eM_7, eM_6, eM_5, eM_4]; rfl
          have eW : mo_w ad cs (M_8) = mo_w ad cs (if r_shc wd h sp = 0 then r_shM M wd h sp else mset M 0 0 (r_shc wd h sp)) := by rw [hM]
          have hP := Eq.mp (congrArg (fun q => va_P D vwCl q _) eW) hP
          have hD := Eq.mp (congrArg (va_D _) eW) hD
          exact W.vret hx hb hr (fun t ht hW => ⟨⟨(), rfl, trivial, by rw [ht]; exact hP, va_K.moved hW.alike hK, hD⟩, hS.F ht⟩) hS.2.2 d_MO_sheet_70
        · exact absurd c_46 (by omega)
