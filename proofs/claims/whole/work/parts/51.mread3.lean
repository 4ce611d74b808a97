set_option maxHeartbeats 4000000 in
set_option maxRecDepth 100000 in
/-- isFirst -/
theorem r_isFirst (l : Launch) {D : va_G} {ad : Nat → Nat} {cs : ClassId} {M : Nat → Nat → Int} (w : Nat) (hw : w < 640) (hz : ∀ j, zb (M 11 j)) : Met l y_MO_isFirst ws_MO_isFirst ({ frames := 0, cells := 0, slots := 0, locals := 0 } : Room) (va_Pc [.ref (ad (0)), .int (iI (((w : Nat) : Int)))] (ro_B D vwCl (mo_tys cs) (mo_w ad cs M))) (vp_Si (fun r => r = iI (bz (p_first (M 11) w) inferInstance))) 0 0 (fun _ => False) := by
  refine Met.ofW (cc := b_MO_isFirst) (maxL := 2) (ret := (some .boolean)) (by decide) rfl ?_
  intro p e s m args below meth c s₁ B hml hv
  obtain ⟨rfl, hP, hK⟩ := hv
  have hx := B.exec
  have hb := B.bytes
  have hr := B.returns
  have hts := atoms_spec (ws := ws_MO_isFirst) B.pre
  have hg : ∀ w ∈ gt, w.before _ s = true := fun w h => hts w (List.mem_cons_of_mem _ h)
  have hown : s.vm.findClass R_MO = some m.cls := findClass_of_methodNamed B.named
  have hlocks := B.notSynchronized
  have hl := lv_entry ([.ref (ad (0)), .int (iI (((w : Nat) : Int)))]) (n := 2) (Nat.le_of_ble_eq_true rfl)
  rw [lg_entry_eq]
  generalize (lg_sl ([.ref (ad (0)), .int (iI (((w : Nat) : Int)))]) ++ List.replicate (2 - (lg_sl ([.ref (ad (0)), .int (iI (((w : Nat) : Int)))])).length) Slot.unset).toArray = ls at hl ⊢
  have hl : lv_has ls 2 [(0, .ref (ad (0))), (1, .int (iI (((w : Nat) : Int))))] := hl
  refine lv_iload_n hx hb d_MO_isFirst_0 rfl (lv_at hl 1 rfl) ?_
  refine z_if_eq hx hb (tgt := 21) d_MO_isFirst_1 (by decide) ⟨by omega, by omega⟩ (fun c_1 => ?_) (fun c_1 => ?_)
  · refine z_iconst hx hb (z := 1) d_MO_isFirst_21 ?_
    refine lv_goto (tgt := 26) hx hb d_MO_isFirst_22 (by decide) ?_
    exact W.zret (v := iI (1)) hx hb hr (by first | rfl | decide) (fun t ht hW => ⟨_, rfl, by first | (rw [bz_t (by omega)]; done) | (rw [bz_f (by omega)]; done), ht⟩) (fun q h => by cases h) d_MO_isFirst_26
  · refine lv_aload_n hx hb d_MO_isFirst_4 rfl (lv_at hl 0 rfl) ?_
    refine z_get (ci := 7) (C := R_MO) (T := T_MO) (N := 32) (v := .ref (ad (11))) hx hb hg in_MO hown hK hP (0) (by decide) rfl rfl 17 (by decide) (hg _ (List.mem_append_right _ (List.mem_append_right _ (List.mem_append_right _ (List.mem_append_right _ (List.mem_append_right _ (List.mem_append_right _ (List.mem_append_right _ (List.mem_append_right _ (List.mem_append_right _ (List.mem_append_right _ (List.mem_append_right _ (List.mem_append_right _ (List.mem_append_right _ (List.mem_append_left _ (List.mem_of_getElem? (i := 20) rfl)))))))))))))))) (fun _ h9 => h9) rfl d_MO_isFirst_5 ?_
    refine lv_iload_n hx hb d_MO_isFirst_8 rfl (lv_at hl 1 rfl) ?_
    refine z_iald hx hb hK hP (11) 0 (by decide) (fun _ => rfl) rfl (w) rfl (by omega) (by decide) d_MO_isFirst_9 ?_
    refine lv_aload_n hx hb d_MO_isFirst_10 rfl (lv_at hl 0 rfl) ?_
    refine z_get (ci := 7) (C := R_MO) (T := T_MO) (N := 32) (v := .ref (ad (11))) hx hb hg in_MO hown hK hP (0) (by decide) rfl rfl 17 (by decide) (hg _ (List.mem_append_right _ (List.mem_append_right _ (List.mem_append_right _ (List.mem_append_right _ (List.mem_append_right _ (List.mem_append_right _ (List.mem_append_right _ (List.mem_append_right _ (List.mem_append_right _ (List.mem_append_right _ (List.mem_append_right _ (List.mem_append_right _ (List.mem_append_right _ (List.mem_append_left _ (List.mem_of_getElem? (i := 20) rfl)))))))))))))))) (fun _ h9 => h9) rfl d_MO_isFirst_11 ?_
    refine lv_iload_n hx hb d_MO_isFirst_14 rfl (lv_at hl 1 rfl) ?_
    refine z_iconst hx hb (z := 1) d_MO_isFirst_15 ?_
    refine z_isub hx hb d_MO_isFirst_16 (v := ((w - 1 : Nat) : Int)) (by omega) ?_
    refine z_iald hx hb hK hP (11) 0 (by decide) (fun _ => rfl) rfl (w - 1) rfl (by omega) (by decide) d_MO_isFirst_17 ?_
    refine z_icmp_eq hx hb (tgt := 25) d_MO_isFirst_18 (by decide) (hz _) (hz _) (fun c_18 => ?_) (fun c_18 => ?_)
    · refine z_iconst hx hb (z := 0) d_MO_isFirst_25 ?_
      exact W.zret (v := iI (0)) hx hb hr (by first | rfl | decide) (fun t ht hW => ⟨_, rfl, by first | (rw [bz_t (by omega)]; done) | (rw [bz_f (by omega)]; done), ht⟩) (fun q h => by cases h) d_MO_isFirst_26
    · refine z_iconst hx hb (z := 1) d_MO_isFirst_21 ?_
      refine lv_goto (tgt := 26) hx hb d_MO_isFirst_22 (by decide) ?_
      exact W.zret (v := iI (1)) hx hb hr (by first | rfl | decide) (fun t ht hW => ⟨_, rfl, by first | (rw [bz_t (by omega)]; done) | (rw [bz_f (by omega)]; done), ht⟩) (fun q h => by cases h) d_MO_isFirst_26
set_option maxHeartbeats 4000000 in
set_option maxRecDepth 100000 in
/-- between -/
theorem r_between (l : Launch) {D : va_G} {ad : Nat → Nat} {cs : ClassId} {M : Nat → Nat → Int} (w : Nat) (hw1 : 1 ≤ w) (hw : w < 640) (hL : rL M) : Met l y_MO_between ws_MO_between ({ frames := 1, cells := 0, slots := 0, locals := 21 } : Room) (va_Pc [.ref (ad (0)), .int (iI (((w : Nat) : Int)))] (ro_B D vwCl (mo_tys cs) (mo_w ad cs M))) (vp_Si (fun r => r = iI (r_btw M w))) 0 0 (fun _ => False) := by
  refine Met.ofW (cc := b_MO_between) (maxL := 2) (ret := (some .int)) (by decide) rfl ?_
  intro p e s m args below meth c s₁ B hml hv
  obtain ⟨rfl, hP, hK⟩ := hv
  have hx := B.exec
  have hb := B.bytes
  have hr := B.returns
  have hts := atoms_spec (ws := ws_MO_between) B.pre
  have hg : ∀ w ∈ gt, w.before _ s = true := fun w h => hts w (List.mem_cons_of_mem _ h)
  have hown : s.vm.findClass R_MO = some m.cls := findClass_of_methodNamed B.named
  have hlocks := B.notSynchronized
  have hl := lv_entry ([.ref (ad (0)), .int (iI (((w : Nat) : Int)))]) (n := 2) (Nat.le_of_ble_eq_true rfl)
  rw [lg_entry_eq]
  generalize (lg_sl ([.ref (ad (0)), .int (iI (((w : Nat) : Int)))]) ++ List.replicate (2 - (lg_sl ([.ref (ad (0)), .int (iI (((w : Nat) : Int)))])).length) Slot.unset).toArray = ls at hl ⊢
  have hl : lv_has ls 2 [(0, .ref (ad (0))), (1, .int (iI (((w : Nat) : Int))))] := hl
  have hq1 := rL_q hL (w - 1)
  have hq0 := rL_q hL w
  refine lv_aload_n hx hb d_MO_between_0 rfl (lv_at hl 0 rfl) ?_
  refine lv_iload_n hx hb d_MO_between_1 rfl (lv_at hl 1 rfl) ?_
  refine ro_V (As := [.int (iI (((w : Nat) : Int)))]) (rest := []) (z := bz (p_first (M 11) (w)) inferInstance) ⟨hx, hb, hml, hown, hg⟩ (r_isFirst l (w) (by omega) (rL_z hL)) (cwV 1 hg (gt_V (List.mem_append_right _ (List.mem_append_right _ (List.mem_append_right _ (List.mem_append_right _ (List.mem_append_right _ (List.mem_append_right _ (List.mem_append_right _ (List.mem_append_right _ (List.mem_append_right _ (List.mem_append_right _ (List.mem_append_right _ (List.mem_append_right _ (List.mem_append_right _ (List.mem_append_right _ (List.mem_append_right _ (List.mem_append_right _ (List.mem_append_left _ (List.mem_of_getElem? (i := 33) rfl)))))))))))))))))) (List.mem_append_right _ (List.mem_append_right _ (List.mem_append_right _ (List.mem_append_right _ (List.mem_append_right _ (List.mem_append_right _ (List.mem_append_right _ (List.mem_append_right _ (List.mem_append_right _ (List.mem_append_right _ (List.mem_append_right _ (List.mem_append_right _ (List.mem_append_right _ (List.mem_append_right _ (List.mem_append_right _ (List.mem_append_right _ (List.mem_append_left _ (List.mem_of_getElem? (i := 34) rfl)))))))))))))))))) (List.mem_append_left _ (List.mem_of_getElem? (i := 37) rfl)) (List.mem_append_right _ (List.mem_append_left _ (List.mem_of_getElem? (i := 9) rfl))) (List.mem_append_right _ (List.mem_append_right _ (List.mem_append_right _ (List.mem_append_right _ (List.mem_append_right _ (List.mem_append_right _ (List.mem_append_right _ (List.mem_append_right _ (List.mem_append_right _ (List.mem_append_right _ (List.mem_append_right _ (List.mem_append_right _ (List.mem_append_right _ (List.mem_append_right _ (List.mem_append_right _ (List.mem_append_right _ (List.mem_append_left _ (List.mem_of_getElem? (i := 35) rfl))))))))))))))))))) rfl rfl rfl (by decide +kernel) ⟨Nat.le_of_ble_eq_true rfl, Nat.le_of_ble_eq_true rfl⟩) hK hP (va_recv hK hP (ci := 7) (q0 := 0) rfl (wl_atE (by decide) rfl)) rfl hl.1 rfl (Nat.le_of_ble_eq_true rfl) d_MO_between_2 ⟨Nat.zero_le _, Nat.zero_le _⟩ ?_
  refine z_ifb_eq hx hb (tgt := 46) d_MO_between_5 (by decide) (fun c_5 => ?_) (fun c_5 => ?_)
  · refine z_iconst hx hb (z := 0) d_MO_between_46 ?_
    exact W.iret (v := iI (0)) hx hb hr (fun t ht hW => ⟨_, rfl, by unfold r_btw; rw [if_neg c_5], ht⟩) (fun q h => by cases h) d_MO_between_47
  · refine lv_aload_n hx hb d_MO_between_8 rfl (lv_at hl 0 rfl) ?_
    refine z_get (ci := 7) (C := R_MO) (T := T_MO) (N := 32) (v := .ref (ad (2))) hx hb hg in_MO hown hK hP (0) (by decide) rfl rfl 6 (by decide) (hg _ (List.mem_append_right _ (List.mem_append_right _ (List.mem_append_right _ (List.mem_append_right _ (List.mem_append_right _ (List.mem_append_right _ (List.mem_append_right _ (List.mem_append_right _ (List.mem_append_right _ (List.mem_append_right _ (List.mem_append_right _ (List.mem_append_right _ (List.mem_append_right _ (List.mem_append_left _ (List.mem_of_getElem? (i := 9) rfl)))))))))))))))) (fun _ h9 => h9) rfl d_MO_between_9 ?_
    refine z_bipush hx hb (z := 11) d_MO_between_12 (by decide) ?_
    refine lv_aload_n hx hb d_MO_between_14 rfl (lv_at hl 0 rfl) ?_
    refine z_get (ci := 7) (C := R_MO) (T := T_MO) (N := 32) (v := .ref (ad (11))) hx hb hg in_MO hown hK hP (0) (by decide) rfl rfl 17 (by decide) (hg _ (List.mem_append_right _ (List.mem_append_right _ (List.mem_append_right _ (List.mem_append_right _ (List.mem_append_right _ (List.mem_append_right _ (List.mem_append_right _ (List.mem_append_right _ (List.mem_append_right _ (List.mem_append_right _ (List.mem_append_right _ (List.mem_append_right _ (List.mem_append_right _ (List.mem_append_left _ (List.mem_of_getElem? (i := 20) rfl)))))))))))))))) (fun _ h9 => h9) rfl d_MO_between_15 ?_
    refine lv_iload_n hx hb d_MO_between_18 rfl (lv_at hl 1 rfl) ?_
    refine z_iconst hx hb (z := 1) d_MO_between_19 ?_
    refine z_isub hx hb d_MO_between_20 (v := ((w - 1 : Nat) : Int)) (by omega) ?_
    refine z_iald hx hb hK hP (11) 0 (by decide) (fun _ => rfl) rfl (w - 1) rfl (by omega) (by decide) d_MO_between_21 ?_
    refine z_imul hx hb d_MO_between_22 (v := (11 * M (11) (w - 1))) rfl ?_
    refine z_iconst hx hb (z := 4) d_MO_between_23 ?_
    refine z_iadd hx hb d_MO_between_24 (v := ((11 * M (11) (w - 1)) + 4)) rfl ?_
    refine z_iald hx hb hK hP (2) 0 (by decide) (fun _ => rfl) rfl (11 * rq M (w - 1) + 4) (by omega) (by omega) (by decide) d_MO_between_25 ?_
    refine lv_aload_n hx hb d_MO_between_26 rfl (lv_at hl 0 rfl) ?_
    refine z_get (ci := 7) (C := R_MO) (T := T_MO) (N := 32) (v := .ref (ad (2))) hx hb hg in_MO hown hK hP (0) (by decide) rfl rfl 6 (by decide) (hg _ (List.mem_append_right _ (List.mem_append_right _ (List.mem_append_right _ (List.mem_append_right _ (List.mem_append_right _ (List.mem_append_right _ (List.mem_append_right _ (List.mem_append_right _ (List.mem_append_right _ (List.mem_append_right _ (List.mem_append_right _ (List.mem_append_right _ (List.mem_append_right _ (List.mem_append_left _ (List.mem_of_getElem? (i := 9) rfl)))))))))))))))) (fun _ h9 => h9) rfl d_MO_between_27 ?_
    refine z_bipush hx hb (z := 11) d_MO_between_30 (by decide) ?_
    refine lv_aload_n hx hb d_MO_between_32 rfl (lv_at hl 0 rfl) ?_
    refine z_get (ci := 7) (C := R_MO) (T := T_MO) (N := 32) (v := .ref (ad (11))) hx hb hg in_MO hown hK hP (0) (by decide) rfl rfl 17 (by decide) (hg _ (List.mem_append_right _ (List.mem_append_right _ (List.mem_append_right _ (List.mem_append_right _ (List.mem_append_right _ (List.mem_append_right _ (List.mem_append_right _ (List.mem_append_right _ (List.mem_append_right _ (List.mem_append_right _ (List.mem_append_right _ (List.mem_append_right _ (List.mem_append_right _ (List.mem_append_left _ (List.mem_of_getElem? (i := 20) rfl)))))))))))))))) (fun _ h9 => h9) rfl d_MO_between_33 ?_
    refine lv_iload_n hx hb d_MO_between_36 rfl (lv_at hl 1 rfl) ?_
    refine z_iald hx hb hK hP (11) 0 (by decide) (fun _ => rfl) rfl (w) rfl (by omega) (by decide) d_MO_between_37 ?_
    refine z_imul hx hb d_MO_between_38 (v := (11 * M (11) (w))) rfl ?_
    refine z_iconst hx hb (z := 3) d_MO_between_39 ?_
    refine z_iadd hx hb d_MO_between_40 (v := ((11 * M (11) (w)) + 3)) rfl ?_
    refine z_iald hx hb hK hP (2) 0 (by decide) (fun _ => rfl) rfl (11 * rq M w + 3) (by omega) (by omega) (by decide) d_MO_between_41 ?_
    refine z_iadd hx hb d_MO_between_42 (v := (M (2) (11 * rq M (w - 1) + 4) + M (2) (11 * rq M w + 3))) rfl ?_
    refine lv_goto (tgt := 47) hx hb d_MO_between_43 (by decide) ?_
    exact W.iret (v := iI ((M (2) (11 * rq M (w - 1) + 4) + M (2) (11 * rq M w + 3)))) hx hb hr (fun t ht hW => ⟨_, rfl, by unfold r_btw; rw [if_pos c_5], ht⟩) (fun q h => by cases h) d_MO_between_47
set_option maxHeartbeats 4000000 in
set_option maxRecDepth 100000 in
/-- mustEnd -/
theorem r_mustEnd (l : Launch) {D : va_G} {ad : Nat → Nat} {cs : ClassId} {M : Nat → Nat → Int} (w nl : Nat) (hw : w < 639) (hn : M 0 16 = ((nl : Nat) : Int)) (hn6 : nl < 640) (hL : rL M) (hZ : rZ M) (hz : ∀ j, zb (M 6 j)) : Met l y_MO_mustEnd ws_MO_mustEnd ({ frames := 1, cells := 0, slots := 0, locals := 21 } : Room) (va_Pc [.ref (ad (0)), .int (iI (((w : Nat) : Int)))] (ro_B D vwCl (mo_tys cs) (mo_w ad cs M))) (vp_Si (fun r => r = iI (bz (r_mu M nl w) inferInstance))) 0 0 (fun _ => False) := by
  refine Met.ofW (cc := b_MO_mustEnd) (maxL := 3) (ret := (some .boolean)) (by decide) rfl ?_
  intro p e s m args below meth c s₁ B hml hv
  obtain ⟨rfl, hP, hK⟩ := hv
  have hx := B.exec
  have hb := B.bytes
  have hr := B.returns
  have hts := atoms_spec (ws := ws_MO_mustEnd) B.pre
  have hg : ∀ w ∈ gt, w.before _ s = true := fun w h => hts w (List.mem_cons_of_mem _ h)
  have hown : s.vm.findClass R_MO = some m.cls := findClass_of_methodNamed B.named
  have hlocks := B.notSynchronized
  have hl := lv_entry ([.ref (ad (0)), .int (iI (((w : Nat) : Int)))]) (n := 3) (Nat.le_of_ble_eq_true rfl)
  rw [lg_entry_eq]
  generalize (lg_sl ([.ref (ad (0)), .int (iI (((w : Nat) : Int)))]) ++ List.replicate (3 - (lg_sl ([.ref (ad (0)), .int (iI (((w : Nat) : Int)))])).length) Slot.unset).toArray = ls at hl ⊢
  have hl : lv_has ls 3 [(0, .ref (ad (0))), (1, .int (iI (((w : Nat) : Int))))] := hl
  have hq1 := rL_q hL (w + 1)
  have hf0 := rL_f hL w
  have hZ9 := hZ (11 * rq M (w + 1) + 9)
  refine lv_aload_n hx hb d_MO_mustEnd_0 rfl (lv_at hl 0 rfl) ?_
  refine z_get (ci := 7) (C := R_MO) (T := T_MO) (N := 32) (v := .ref (ad (13))) hx hb hg in_MO hown hK hP (0) (by decide) rfl rfl 19 (by decide) (hg _ (List.mem_append_right _ (List.mem_append_right _ (List.mem_append_right _ (List.mem_append_right _ (List.mem_append_right _ (List.mem_append_right _ (List.mem_append_right _ (List.mem_append_right _ (List.mem_append_right _ (List.mem_append_right _ (List.mem_append_right _ (List.mem_append_right _ (List.mem_append_right _ (List.mem_append_left _ (List.mem_of_getElem? (i := 22) rfl)))))))))))))))) (fun _ h9 => h9) rfl d_MO_mustEnd_1 ?_
  refine lv_iload_n hx hb d_MO_mustEnd_4 rfl (lv_at hl 1 rfl) ?_
  refine z_iald hx hb hK hP (13) 0 (by decide) (fun _ => rfl) rfl (w) rfl (by omega) (by decide) d_MO_mustEnd_5 ?_
  refine z_if_le hx hb (tgt := 38) d_MO_mustEnd_6 (by decide) ⟨by omega, by omega⟩ (fun c_6 => ?_) (fun c_6 => ?_)
  · refine z_iconst hx hb (z := 0) d_MO_mustEnd_38 ?_
    refine lv_istore_n (lv' := [(2, .int (iI (0))), (0, .ref (ad (0))), (1, .int (iI (((w : Nat) : Int))))]) hx hb d_MO_mustEnd_39 rfl hl (by decide) rfl (fun ls hl => ?_)
    refine lv_iload_n hx hb d_MO_mustEnd_40 rfl (lv_at hl 0 rfl) ?_
    refine z_if_ne hx hb (tgt := 87) d_MO_mustEnd_41 (by decide) ⟨by decide, by decide⟩ (fun c_41 => ?_) (fun c_41 => ?_)
    · exact absurd c_41 (by decide)
    · refine lv_iload_n hx hb d_MO_mustEnd_44 rfl (lv_at hl 2 rfl) ?_
      refine z_iconst hx hb (z := 1) d_MO_mustEnd_45 ?_
      refine z_iadd hx hb d_MO_mustEnd_46 (v := ((w + 1 : Nat) : Int)) (by omega) ?_
      refine lv_aload_n hx hb d_MO_mustEnd_47 rfl (lv_at hl 1 rfl) ?_
      refine z_get (ci := 7) (C := R_MO) (T := T_MO) (N := 32) (v := .int (iI (M (0) 16))) hx hb hg in_MO hown hK hP (0) (by decide) rfl rfl 16 (by decide) (hg _ (List.mem_append_right _ (List.mem_append_right _ (List.mem_append_right _ (List.mem_append_right _ (List.mem_append_right _ (List.mem_append_right _ (List.mem_append_right _ (List.mem_append_right _ (List.mem_append_right _ (List.mem_append_right _ (List.mem_append_right _ (List.mem_append_right _ (List.mem_append_right _ (List.mem_append_left _ (List.mem_of_getElem? (i := 19) rfl)))))))))))))))) (fun _ h9 => h9) rfl d_MO_mustEnd_48 ?_
      refine z_icmp_ge hx hb (tgt := 91) d_MO_mustEnd_51 (by decide) ⟨by omega, by omega⟩ ⟨by omega, by omega⟩ (fun c_51 => ?_) (fun c_51 => ?_)
      · refine z_iconst hx hb (z := 0) d_MO_mustEnd_91 ?_
        exact W.zret (v := iI (0)) hx hb hr (by first | rfl | decide) (fun t ht hW => ⟨_, rfl, by rw [bz_f (fun h => h.elim (fun h => by omega) (fun h => by omega))], ht⟩) (fun q h => by cases h) d_MO_mustEnd_92
      · refine lv_aload_n hx hb d_MO_mustEnd_54 rfl (lv_at hl 1 rfl) ?_
        refine lv_iload_n hx hb d_MO_mustEnd_55 rfl (lv_at hl 2 rfl) ?_
        refine z_iconst hx hb (z := 1) d_MO_mustEnd_56 ?_
        refine z_iadd hx hb d_MO_mustEnd_57 (v := ((w + 1 : Nat) : Int)) (by omega) ?_
        refine ro_V (As := [.int (iI (((w + 1 : Nat) : Int)))]) (rest := []) (z := bz (p_first (M 11) (w + 1)) inferInstance) ⟨hx, hb, hml, hown, hg⟩ (r_isFirst l (w + 1) (by omega) (rL_z hL)) (cwV 1 hg (gt_V (List.mem_append_right _ (List.mem_append_right _ (List.mem_append_right _ (List.mem_append_right _ (List.mem_append_right _ (List.mem_append_right _ (List.mem_append_right _ (List.mem_append_right _ (List.mem_append_right _ (List.mem_append_right _ (List.mem_append_right _ (List.mem_append_right _ (List.mem_append_right _ (List.mem_append_right _ (List.mem_append_right _ (List.mem_append_right _ (List.mem_append_left _ (List.mem_of_getElem? (i := 33) rfl)))))))))))))))))) (List.mem_append_right _ (List.mem_append_right _ (List.mem_append_right _ (List.mem_append_right _ (List.mem_append_right _ (List.mem_append_right _ (List.mem_append_right _ (List.mem_append_right _ (List.mem_append_right _ (List.mem_append_right _ (List.mem_append_right _ (List.mem_append_right _ (List.mem_append_right _ (List.mem_append_right _ (List.mem_append_right _ (List.mem_append_right _ (List.mem_append_left _ (List.mem_of_getElem? (i := 34) rfl)))))))))))))))))) (List.mem_append_left _ (List.mem_of_getElem? (i := 37) rfl)) (List.mem_append_right _ (List.mem_append_left _ (List.mem_of_getElem? (i := 9) rfl))) (List.mem_append_right _ (List.mem_append_right _ (List.mem_append_right _ (List.mem_append_right _ (List.mem_append_right _ (List.mem_append_right _ (List.mem_append_right _ (List.mem_append_right _ (List.mem_append_right _ (List.mem_append_right _ (List.mem_append_right _ (List.mem_append_right _ (List.mem_append_right _ (List.mem_append_right _ (List.mem_append_right _ (List.mem_append_right _ (List.mem_append_left _ (List.mem_of_getElem? (i := 35) rfl))))))))))))))))))) rfl rfl rfl (by decide +kernel) ⟨Nat.le_of_ble_eq_true rfl, Nat.le_of_ble_eq_true rfl⟩) hK hP (va_recv hK hP (ci := 7) (q0 := 0) rfl (wl_atE (by decide) rfl)) rfl hl.1 rfl (Nat.le_of_ble_eq_true rfl) d_MO_mustEnd_58 ⟨Nat.zero_le _, Nat.zero_le _⟩ ?_
        refine z_ifb_eq hx hb (tgt := 91) d_MO_mustEnd_61 (by decide) (fun c_61 => ?_) (fun c_61 => ?_)
        · refine z_iconst hx hb (z := 0) d_MO_mustEnd_91 ?_
          exact W.zret (v := iI (0)) hx hb hr (by first | rfl | decide) (fun t ht hW => ⟨_, rfl, by rw [bz_f (fun h => h.elim (fun h => by omega) (fun h => c_61 h.2.1))], ht⟩) (fun q h => by cases h) d_MO_mustEnd_92
        · refine lv_aload_n hx hb d_MO_mustEnd_64 rfl (lv_at hl 1 rfl) ?_
          refine z_get (ci := 7) (C := R_MO) (T := T_MO) (N := 32) (v := .ref (ad (2))) hx hb hg in_MO hown hK hP (0) (by decide) rfl rfl 6 (by decide) (hg _ (List.mem_append_right _ (List.mem_append_right _ (List.mem_append_right _ (List.mem_append_right _ (List.mem_append_right _ (List.mem_append_right _ (List.mem_append_right _ (List.mem_append_right _ (List.mem_append_right _ (List.mem_append_right _ (List.mem_append_right _ (List.mem_append_right _ (List.mem_append_right _ (List.mem_append_left _ (List.mem_of_getElem? (i := 9) rfl)))))))))))))))) (fun _ h9 => h9) rfl d_MO_mustEnd_65 ?_
          refine z_bipush hx hb (z := 11) d_MO_mustEnd_68 (by decide) ?_
          refine lv_aload_n hx hb d_MO_mustEnd_70 rfl (lv_at hl 1 rfl) ?_
          refine z_get (ci := 7) (C := R_MO) (T := T_MO) (N := 32) (v := .ref (ad (11))) hx hb hg in_MO hown hK hP (0) (by decide) rfl rfl 17 (by decide) (hg _ (List.mem_append_right _ (List.mem_append_right _ (List.mem_append_right _ (List.mem_append_right _ (List.mem_append_right _ (List.mem_append_right _ (List.mem_append_right _ (List.mem_append_right _ (List.mem_append_right _ (List.mem_append_right _ (List.mem_append_right _ (List.mem_append_right _ (List.mem_append_right _ (List.mem_append_left _ (List.mem_of_getElem? (i := 20) rfl)))))))))))))))) (fun _ h9 => h9) rfl d_MO_mustEnd_71 ?_
          refine lv_iload_n hx hb d_MO_mustEnd_74 rfl (lv_at hl 2 rfl) ?_
          refine z_iconst hx hb (z := 1) d_MO_mustEnd_75 ?_
          refine z_iadd hx hb d_MO_mustEnd_76 (v := ((w + 1 : Nat) : Int)) (by omega) ?_
          refine z_iald hx hb hK hP (11) 0 (by decide) (fun _ => rfl) rfl (w + 1) rfl (by omega) (by decide) d_MO_mustEnd_77 ?_
          refine z_imul hx hb d_MO_mustEnd_78 (v := (11 * M (11) (w + 1))) rfl ?_
          refine z_bipush hx hb (z := 9) d_MO_mustEnd_79 (by decide) ?_
          refine z_iadd hx hb d_MO_mustEnd_81 (v := ((11 * M (11) (w + 1)) + 9)) rfl ?_
          refine z_iald hx hb hK hP (2) 0 (by decide) (fun _ => rfl) rfl (11 * rq M (w + 1) + 9) (by omega) (by omega) (by decide) d_MO_mustEnd_82 ?_
          refine z_iconst hx hb (z := 1) d_MO_mustEnd_83 ?_
          refine z_icmp_ne hx hb (tgt := 91) d_MO_mustEnd_84 (by decide) ⟨by omega, by omega⟩ ⟨by decide, by decide⟩ (fun c_84 => ?_) (fun c_84 => ?_)
          · refine z_iconst hx hb (z := 0) d_MO_mustEnd_91 ?_
            exact W.zret (v := iI (0)) hx hb hr (by first | rfl | decide) (fun t ht hW => ⟨_, rfl, by rw [bz_f (fun h => h.elim (fun h => by omega) (fun h => c_84 h.2.2))], ht⟩) (fun q h => by cases h) d_MO_mustEnd_92
          · refine z_iconst hx hb (z := 1) d_MO_mustEnd_87 ?_
            refine lv_goto (tgt := 92) hx hb d_MO_mustEnd_88 (by decide) ?_
            exact W.zret (v := iI (1)) hx hb hr (by first | rfl | decide) (fun t ht hW => ⟨_, rfl, by rw [bz_t (Or.inr ⟨by omega, c_61, by omega⟩)], ht⟩) (fun q h => by cases h) d_MO_mustEnd_92
  · refine lv_aload_n hx hb d_MO_mustEnd_9 rfl (lv_at hl 0 rfl) ?_
    refine z_get (ci := 7) (C := R_MO) (T := T_MO) (N := 32) (v := .ref (ad (6))) hx hb hg in_MO hown hK hP (0) (by decide) rfl rfl 10 (by decide) (hg _ (List.mem_append_right _ (List.mem_append_right _ (List.mem_append_right _ (List.mem_append_right _ (List.mem_append_right _ (List.mem_append_right _ (List.mem_append_right _ (List.mem_append_right _ (List.mem_append_right _ (List.mem_append_right _ (List.mem_append_right _ (List.mem_append_right _ (List.mem_append_right _ (List.mem_append_left _ (List.mem_of_getElem? (i := 13) rfl)))))))))))))))) (fun _ h9 => h9) rfl d_MO_mustEnd_10 ?_
    refine lv_aload_n hx hb d_MO_mustEnd_13 rfl (lv_at hl 0 rfl) ?_
    refine z_get (ci := 7) (C := R_MO) (T := T_MO) (N := 32) (v := .ref (ad (12))) hx hb hg in_MO hown hK hP (0) (by decide) rfl rfl 18 (by decide) (hg _ (List.mem_append_right _ (List.mem_append_right _ (List.mem_append_right _ (List.mem_append_right _ (List.mem_append_right _ (List.mem_append_right _ (List.mem_append_right _ (List.mem_append_right _ (List.mem_append_right _ (List.mem_append_right _ (List.mem_append_right _ (List.mem_append_right _ (List.mem_append_right _ (List.mem_append_left _ (List.mem_of_getElem? (i := 21) rfl)))))))))))))))) (fun _ h9 => h9) rfl d_MO_mustEnd_14 ?_
    refine lv_iload_n hx hb d_MO_mustEnd_17 rfl (lv_at hl 1 rfl) ?_
    refine z_iald hx hb hK hP (12) 0 (by decide) (fun _ => rfl) rfl (w) rfl (by omega) (by decide) d_MO_mustEnd_18 ?_
    refine lv_aload_n hx hb d_MO_mustEnd_19 rfl (lv_at hl 0 rfl) ?_
    refine z_get (ci := 7) (C := R_MO) (T := T_MO) (N := 32) (v := .ref (ad (13))) hx hb hg in_MO hown hK hP (0) (by decide) rfl rfl 19 (by decide) (hg _ (List.mem_append_right _ (List.mem_append_right _ (List.mem_append_right _ (List.mem_append_right _ (List.mem_append_right _ (List.mem_append_right _ (List.mem_append_right _ (List.mem_append_right _ (List.mem_append_right _ (List.mem_append_right _ (List.mem_append_right _ (List.mem_append_right _ (List.mem_append_right _ (List.mem_append_left _ (List.mem_of_getElem? (i := 22) rfl)))))))))))))))) (fun _ h9 => h9) rfl d_MO_mustEnd_20 ?_
    refine lv_iload_n hx hb d_MO_mustEnd_23 rfl (lv_at hl 1 rfl) ?_
    refine z_iald hx hb hK hP (13) 0 (by decide) (fun _ => rfl) rfl (w) rfl (by omega) (by decide) d_MO_mustEnd_24 ?_
    refine z_iadd hx hb d_MO_mustEnd_25 (v := (M (12) (w) + M (13) (w))) rfl ?_
    refine z_iconst hx hb (z := 1) d_MO_mustEnd_26 ?_
    refine z_isub hx hb d_MO_mustEnd_27 (v := ((M (12) (w) + M (13) (w)) - 1)) rfl ?_
    refine z_iald hx hb hK hP (6) 0 (by decide) (fun _ => rfl) rfl (rf M w + rk M w - 1) (by omega) (by omega) (by decide) d_MO_mustEnd_28 ?_
    refine z_bipush hx hb (z := 6) d_MO_mustEnd_29 (by decide) ?_
    refine z_icmp_ne hx hb (tgt := 38) d_MO_mustEnd_31 (by decide) (hz _) ⟨by decide, by decide⟩ (fun c_31 => ?_) (fun c_31 => ?_)
    · refine z_iconst hx hb (z := 0) d_MO_mustEnd_38 ?_
      refine lv_istore_n (lv' := [(2, .int (iI (0))), (0, .ref (ad (0))), (1, .int (iI (((w : Nat) : Int))))]) hx hb d_MO_mustEnd_39 rfl hl (by decide) rfl (fun ls hl => ?_)
      refine lv_iload_n hx hb d_MO_mustEnd_40 rfl (lv_at hl 0 rfl) ?_
      refine z_if_ne hx hb (tgt := 87) d_MO_mustEnd_41 (by decide) ⟨by decide, by decide⟩ (fun c_41 => ?_) (fun c_41 => ?_)
      · exact absurd c_41 (by decide)
      · refine lv_iload_n hx hb d_MO_mustEnd_44 rfl (lv_at hl 2 rfl) ?_
        refine z_iconst hx hb (z := 1) d_MO_mustEnd_45 ?_
        refine z_iadd hx hb d_MO_mustEnd_46 (v := ((w + 1 : Nat) : Int)) (by omega) ?_
        refine lv_aload_n hx hb d_MO_mustEnd_47 rfl (lv_at hl 1 rfl) ?_
        refine z_get (ci := 7) (C := R_MO) (T := T_MO) (N := 32) (v := .int (iI (M (0) 16))) hx hb hg in_MO hown hK hP (0) (by decide) rfl rfl 16 (by decide) (hg _ (List.mem_append_right _ (List.mem_append_right _ (List.mem_append_right _ (List.mem_append_right _ (List.mem_append_right _ (List.mem_append_right _ (List.mem_append_right _ (List.mem_append_right _ (List.mem_append_right _ (List.mem_append_right _ (List.mem_append_right _ (List.mem_append_right _ (List.mem_append_right _ (List.mem_append_left _ (List.mem_of_getElem? (i := 19) rfl)))))))))))))))) (fun _ h9 => h9) rfl d_MO_mustEnd_48 ?_
        refine z_icmp_ge hx hb (tgt := 91) d_MO_mustEnd_51 (by decide) ⟨by omega, by omega⟩ ⟨by omega, by omega⟩ (fun c_51 => ?_) (fun c_51 => ?_)
        · refine z_iconst hx hb (z := 0) d_MO_mustEnd_91 ?_
          exact W.zret (v := iI (0)) hx hb hr (by first | rfl | decide) (fun t ht hW => ⟨_, rfl, by rw [bz_f (fun h => h.elim (fun h => c_31 h.2) (fun h => by omega))], ht⟩) (fun q h => by cases h) d_MO_mustEnd_92
        · refine lv_aload_n hx hb d_MO_mustEnd_54 rfl (lv_at hl 1 rfl) ?_
          refine lv_iload_n hx hb d_MO_mustEnd_55 rfl (lv_at hl 2 rfl) ?_
          refine z_iconst hx hb (z := 1) d_MO_mustEnd_56 ?_
          refine z_iadd hx hb d_MO_mustEnd_57 (v := ((w + 1 : Nat) : Int)) (by omega) ?_
          refine ro_V (As := [.int (iI (((w + 1 : Nat) : Int)))]) (rest := []) (z := bz (p_first (M 11) (w + 1)) inferInstance) ⟨hx, hb, hml, hown, hg⟩ (r_isFirst l (w + 1) (by omega) (rL_z hL)) (cwV 1 hg (gt_V (List.mem_append_right _ (List.mem_append_right _ (List.mem_append_right _ (List.mem_append_right _ (List.mem_append_right _ (List.mem_append_right _ (List.mem_append_right _ (List.mem_append_right _ (List.mem_append_right _ (List.mem_append_right _ (List.mem_append_right _ (List.mem_append_right _ (List.mem_append_right _ (List.mem_append_right _ (List.mem_append_right _ (List.mem_append_right _ (List.mem_append_left _ (List.mem_of_getElem? (i := 33) rfl)))))))))))))))))) (List.mem_append_right _ (List.mem_append_right _ (List.mem_append_right _ (List.mem_append_right _ (List.mem_append_right _ (List.mem_append_right _ (List.mem_append_right _ (List.mem_append_right _ (List.mem_append_right _ (List.mem_append_right _ (List.mem_append_right _ (List.mem_append_right _ (List.mem_append_right _ (List.mem_append_right _ (List.mem_append_right _ (List.mem_append_right _ (List.mem_append_left _ (List.mem_of_getElem? (i := 34) rfl)))))))))))))))))) (List.mem_append_left _ (List.mem_of_getElem? (i := 37) rfl)) (List.mem_append_right _ (List.mem_append_left _ (List.mem_of_getElem? (i := 9) rfl))) (List.mem_append_right _ (List.mem_append_right _ (List.mem_append_right _ (List.mem_append_right _ (List.mem_append_right _ (List.mem_append_right _ (List.mem_append_right _ (List.mem_append_right _ (List.mem_append_right _ (List.mem_append_right _ (List.mem_append_right _ (List.mem_append_right _ (List.mem_append_right _ (List.mem_append_right _ (List.mem_append_right _ (List.mem_append_right _ (List.mem_append_left _ (List.mem_of_getElem? (i := 35) rfl))))))))))))))))))) rfl rfl rfl (by decide +kernel) ⟨Nat.le_of_ble_eq_true rfl, Nat.le_of_ble_eq_true rfl⟩) hK hP (va_recv hK hP (ci := 7) (q0 := 0) rfl (wl_atE (by decide) rfl)) rfl hl.1 rfl (Nat.le_of_ble_eq_true rfl) d_MO_mustEnd_58 ⟨Nat.zero_le _, Nat.zero_le _⟩ ?_
          refine z_ifb_eq hx hb (tgt := 91) d_MO_mustEnd_61 (by decide) (fun c_61 => ?_) (fun c_61 => ?_)
          · refine z_iconst hx hb (z := 0) d_MO_mustEnd_91 ?_
            exact W.zret (v := iI (0)) hx hb hr (by first | rfl | decide) (fun t ht hW => ⟨_, rfl, by rw [bz_f (fun h => h.elim (fun h => c_31 h.2) (fun h => c_61 h.2.1))], ht⟩) (fun q h => by cases h) d_MO_mustEnd_92
          · refine lv_aload_n hx hb d_MO_mustEnd_64 rfl (lv_at hl 1 rfl) ?_
            refine z_get (ci := 7) (C := R_MO) (T := T_MO) (N := 32) (v := .ref (ad (2))) hx hb hg in_MO hown hK hP (0) (by decide) rfl rfl 6 (by decide) (hg _ (List.mem_append_right _ (List.mem_append_right _ (List.mem_append_right _ (List.mem_append_right _ (List.mem_append_right _ (List.mem_append_right _ (List.mem_append_right _ (List.mem_append_right _ (List.mem_append_right _ (List.mem_append_right _ (List.mem_append_right _ (List.mem_append_right _ (List.mem_append_right _ (List.mem_append_left _ (List.mem_of_getElem? (i := 9) rfl)))))))))))))))) (fun _ h9 => h9) rfl d_MO_mustEnd_65 ?_
            refine z_bipush hx hb (z := 11) d_MO_mustEnd_68 (by decide) ?_
            refine lv_aload_n hx hb d_MO_mustEnd_70 rfl (lv_at hl 1 rfl) ?_
            refine z_get (ci := 7) (C := R_MO) (T := T_MO) (N := 32) (v := .ref (ad (11))) hx hb hg in_MO hown hK hP (0) (by decide) rfl rfl 17 (by decide) (hg _ (List.mem_append_right _ (List.mem_append_right _ (List.mem_append_right _ (List.mem_append_right _ (List.mem_append_right _ (List.mem_append_right _ (List.mem_append_right _ (List.mem_append_right _ (List.mem_append_right _ (List.mem_append_right _ (List.mem_append_right _ (List.mem_append_right _ (List.mem_append_right _ (List.mem_append_left _ (List.mem_of_getElem? (i := 20) rfl)))))))))))))))) (fun _ h9 => h9) rfl d_MO_mustEnd_71 ?_
            refine lv_iload_n hx hb d_MO_mustEnd_74 rfl (lv_at hl 2 rfl) ?_
            refine z_iconst hx hb (z := 1) d_MO_mustEnd_75 ?_
            refine z_iadd hx hb d_MO_mustEnd_76 (v := ((w + 1 : Nat) : Int)) (by omega) ?_
            refine z_iald hx hb hK hP (11) 0 (by decide) (fun _ => rfl) rfl (w + 1) rfl (by omega) (by decide) d_MO_mustEnd_77 ?_
            refine z_imul hx hb d_MO_mustEnd_78 (v := (11 * M (11) (w + 1))) rfl ?_
            refine z_bipush hx hb (z := 9) d_MO_mustEnd_79 (by decide) ?_
            refine z_iadd hx hb d_MO_mustEnd_81 (v := ((11 * M (11) (w + 1)) + 9)) rfl ?_
            refine z_iald hx hb hK hP (2) 0 (by decide) (fun _ => rfl) rfl (11 * rq M (w + 1) + 9) (by omega) (by omega) (by decide) d_MO_mustEnd_82 ?_
            refine z_iconst hx hb (z := 1) d_MO_mustEnd_83 ?_
            refine z_icmp_ne hx hb (tgt := 91) d_MO_mustEnd_84 (by decide) ⟨by omega, by omega⟩ ⟨by decide, by decide⟩ (fun c_84 => ?_) (fun c_84 => ?_)
            · refine z_iconst hx hb (z := 0) d_MO_mustEnd_91 ?_
              exact W.zret (v := iI (0)) hx hb hr (by first | rfl | decide) (fun t ht hW => ⟨_, rfl, by rw [bz_f (fun h => h.elim (fun h => c_31 h.2) (fun h => c_84 h.2.2))], ht⟩) (fun q h => by cases h) d_MO_mustEnd_92
            · refine z_iconst hx hb (z := 1) d_MO_mustEnd_87 ?_
              refine lv_goto (tgt := 92) hx hb d_MO_mustEnd_88 (by decide) ?_
              exact W.zret (v := iI (1)) hx hb hr (by first | rfl | decide) (fun t ht hW => ⟨_, rfl, by rw [bz_t (Or.inr ⟨by omega, c_61, by omega⟩)], ht⟩) (fun q h => by cases h) d_MO_mustEnd_92
    · refine z_iconst hx hb (z := 1) d_MO_mustEnd_34 ?_
      refine lv_goto (tgt := 39) hx hb d_MO_mustEnd_35 (by decide) ?_
      refine lv_istore_n (lv' := [(2, .int (iI (1))), (0, .ref (ad (0))), (1, .int (iI (((w : Nat) : Int))))]) hx hb d_MO_mustEnd_39 rfl hl (by decide) rfl (fun ls hl => ?_)
      refine lv_iload_n hx hb d_MO_mustEnd_40 rfl (lv_at hl 0 rfl) ?_
      refine z_if_ne hx hb (tgt := 87) d_MO_mustEnd_41 (by decide) ⟨by decide, by decide⟩ (fun c_41 => ?_) (fun c_41 => ?_)
      · refine z_iconst hx hb (z := 1) d_MO_mustEnd_87 ?_
        refine lv_goto (tgt := 92) hx hb d_MO_mustEnd_88 (by decide) ?_
        exact W.zret (v := iI (1)) hx hb hr (by first | rfl | decide) (fun t ht hW => ⟨_, rfl, by rw [bz_t (Or.inl ⟨by omega, c_31⟩)], ht⟩) (fun q h => by cases h) d_MO_mustEnd_92
      · exact absurd c_41 (by decide)
set_option maxHeartbeats 4000000 in
set_option maxRecDepth 100000 in
/-- mayEnd -/
theorem r_mayEnd (l : Launch) {D : va_G} {ad : Nat → Nat} {cs : ClassId} {M : Nat → Nat → Int} (w nl : Nat) (hw : w + 1 < nl) (hn : M 0 16 = ((nl : Nat) : Int)) (hn6 : nl < 640) (hL : rL M) (hZ : rZ M) : Met l y_MO_mayEnd ws_MO_mayEnd ({ frames := 1, cells := 0, slots := 0, locals := 21 } : Room) (va_Pc [.ref (ad (0)), .int (iI (((w : Nat) : Int)))] (ro_B D vwCl (mo_tys cs) (mo_w ad cs M))) (vp_Si (fun r => r = iI (bz (r_ma M nl w) inferInstance))) 0 0 (fun _ => False) := by
  refine Met.ofW (cc := b_MO_mayEnd) (maxL := 4) (ret := (some .boolean)) (by decide) rfl ?_
  intro p e s m args below meth c s₁ B hml hv
  obtain ⟨rfl, hP, hK⟩ := hv
  have hx := B.exec
  have hb := B.bytes
  have hr := B.returns
  have hts := atoms_spec (ws := ws_MO_mayEnd) B.pre
  have hg : ∀ w ∈ gt, w.before _ s = true := fun w h => hts w (List.mem_cons_of_mem _ h)
  have hown : s.vm.findClass R_MO = some m.cls := findClass_of_methodNamed B.named
  have hlocks := B.notSynchronized
  have hl := lv_entry ([.ref (ad (0)), .int (iI (((w : Nat) : Int)))]) (n := 4) (Nat.le_of_ble_eq_true rfl)
  rw [lg_entry_eq]
  generalize (lg_sl ([.ref (ad (0)), .int (iI (((w : Nat) : Int)))]) ++ List.replicate (4 - (lg_sl ([.ref (ad (0)), .int (iI (((w : Nat) : Int)))])).length) Slot.unset).toArray = ls at hl ⊢
  have hl : lv_has ls 4 [(0, .ref (ad (0))), (1, .int (iI (((w : Nat) : Int))))] := hl
  have hq0 := rL_q hL w
  have h6 := hZ (11 * rq M w + 6)
  have h7 := hZ (11 * rq M w + 7)
  have h8 := hZ (11 * rq M w + 8)
  have e6 : r_sh M (rq M w) 6 = M 2 (11 * rq M w + 6) := rfl
  have e7 : r_sh M (rq M w) 7 = M 2 (11 * rq M w + 7) := rfl
  have e8 : r_sh M (rq M w) 8 = M 2 (11 * rq M w + 8) := rfl
  have hw0 : w + 1 - 1 = w := by omega
  refine lv_aload_n hx hb d_MO_mayEnd_0 rfl (lv_at hl 0 rfl) ?_
  refine z_get (ci := 7) (C := R_MO) (T := T_MO) (N := 32) (v := .ref (ad (11))) hx hb hg in_MO hown hK hP (0) (by decide) rfl rfl 17 (by decide) (hg _ (List.mem_append_right _ (List.mem_append_right _ (List.mem_append_right _ (List.mem_append_right _ (List.mem_append_right _ (List.mem_append_right _ (List.mem_append_right _ (List.mem_append_right _ (List.mem_append_right _ (List.mem_append_right _ (List.mem_append_right _ (List.mem_append_right _ (List.mem_append_right _ (List.mem_append_left _ (List.mem_of_getElem? (i := 20) rfl)))))))))))))))) (fun _ h9 => h9) rfl d_MO_mayEnd_1 ?_
  refine lv_iload_n hx hb d_MO_mayEnd_4 rfl (lv_at hl 1 rfl) ?_
  refine z_iald hx hb hK hP (11) 0 (by decide) (fun _ => rfl) rfl (w) rfl (by omega) (by decide) d_MO_mayEnd_5 ?_
  refine lv_istore_n (lv' := [(2, .int (iI (M (11) (w)))), (0, .ref (ad (0))), (1, .int (iI (((w : Nat) : Int))))]) hx hb d_MO_mayEnd_6 rfl hl (by decide) rfl (fun ls hl => ?_)
  refine lv_aload_n hx hb d_MO_mayEnd_7 rfl (lv_at hl 1 rfl) ?_
  refine lv_iload_n hx hb d_MO_mayEnd_8 rfl (lv_at hl 2 rfl) ?_
  refine z_iconst hx hb (z := 1) d_MO_mayEnd_9 ?_
  refine z_iadd hx hb d_MO_mayEnd_10 (v := ((w + 1 : Nat) : Int)) (by omega) ?_
  refine ro_V (As := [.int (iI (((w + 1 : Nat) : Int)))]) (rest := []) (z := bz (p_first (M 11) (w + 1)) inferInstance) ⟨hx, hb, hml, hown, hg⟩ (r_isFirst l (w + 1) (by omega) (rL_z hL)) (cwV 1 hg (gt_V (List.mem_append_right _ (List.mem_append_right _ (List.mem_append_right _ (List.mem_append_right _ (List.mem_append_right _ (List.mem_append_right _ (List.mem_append_right _ (List.mem_append_right _ (List.mem_append_right _ (List.mem_append_right _ (List.mem_append_right _ (List.mem_append_right _ (List.mem_append_right _ (List.mem_append_right _ (List.mem_append_right _ (List.mem_append_right _ (List.mem_append_left _ (List.mem_of_getElem? (i := 33) rfl)))))))))))))))))) (List.mem_append_right _ (List.mem_append_right _ (List.mem_append_right _ (List.mem_append_right _ (List.mem_append_right _ (List.mem_append_right _ (List.mem_append_right _ (List.mem_append_right _ (List.mem_append_right _ (List.mem_append_right _ (List.mem_append_right _ (List.mem_append_right _ (List.mem_append_right _ (List.mem_append_right _ (List.mem_append_right _ (List.mem_append_right _ (List.mem_append_left _ (List.mem_of_getElem? (i := 34) rfl)))))))))))))))))) (List.mem_append_left _ (List.mem_of_getElem? (i := 37) rfl)) (List.mem_append_right _ (List.mem_append_left _ (List.mem_of_getElem? (i := 9) rfl))) (List.mem_append_right _ (List.mem_append_right _ (List.mem_append_right _ (List.mem_append_right _ (List.mem_append_right _ (List.mem_append_right _ (List.mem_append_right _ (List.mem_append_right _ (List.mem_append_right _ (List.mem_append_right _ (List.mem_append_right _ (List.mem_append_right _ (List.mem_append_right _ (List.mem_append_right _ (List.mem_append_right _ (List.mem_append_right _ (List.mem_append_left _ (List.mem_of_getElem? (i := 35) rfl))))))))))))))))))) rfl rfl rfl (by decide +kernel) ⟨Nat.le_of_ble_eq_true rfl, Nat.le_of_ble_eq_true rfl⟩) hK hP (va_recv hK hP (ci := 7) (q0 := 0) rfl (wl_atE (by decide) rfl)) rfl hl.1 rfl (Nat.le_of_ble_eq_true rfl) d_MO_mayEnd_11 ⟨Nat.zero_le _, Nat.zero_le _⟩ ?_
  refine z_ifb_eq hx hb (tgt := 38) d_MO_mayEnd_14 (by decide) (fun c_14 => ?_) (fun c_14 => ?_)
  · refine lv_iload_n hx hb d_MO_mayEnd_38 rfl (lv_at hl 2 rfl) ?_
    refine z_iconst hx hb (z := 2) d_MO_mayEnd_39 ?_
    refine z_iadd hx hb d_MO_mayEnd_40 (v := ((w + 2 : Nat) : Int)) (by omega) ?_
    refine lv_aload_n hx hb d_MO_mayEnd_41 rfl (lv_at hl 1 rfl) ?_
    refine z_get (ci := 7) (C := R_MO) (T := T_MO) (N := 32) (v := .int (iI (M (0) 16))) hx hb hg in_MO hown hK hP (0) (by decide) rfl rfl 16 (by decide) (hg _ (List.mem_append_right _ (List.mem_append_right _ (List.mem_append_right _ (List.mem_append_right _ (List.mem_append_right _ (List.mem_append_right _ (List.mem_append_right _ (List.mem_append_right _ (List.mem_append_right _ (List.mem_append_right _ (List.mem_append_right _ (List.mem_append_right _ (List.mem_append_right _ (List.mem_append_left _ (List.mem_of_getElem? (i := 19) rfl)))))))))))))))) (fun _ h9 => h9) rfl d_MO_mayEnd_42 ?_
    refine z_icmp_eq hx hb (tgt := 58) d_MO_mayEnd_45 (by decide) ⟨by omega, by omega⟩ ⟨by omega, by omega⟩ (fun c_45 => ?_) (fun c_45 => ?_)
    · refine z_iconst hx hb (z := 1) d_MO_mayEnd_58 ?_
      refine lv_goto (tgt := 63) hx hb d_MO_mayEnd_59 (by decide) ?_
      refine lv_istore_n (lv' := [(3, .int (iI (1))), (2, .int (iI (M (11) (w)))), (0, .ref (ad (0))), (1, .int (iI (((w : Nat) : Int))))]) hx hb d_MO_mayEnd_63 rfl hl (by decide) rfl (fun ls hl => ?_)
      refine lv_aload_n hx hb d_MO_mayEnd_64 rfl (lv_at hl 2 rfl) ?_
      refine z_get (ci := 7) (C := R_MO) (T := T_MO) (N := 32) (v := .ref (ad (2))) hx hb hg in_MO hown hK hP (0) (by decide) rfl rfl 6 (by decide) (hg _ (List.mem_append_right _ (List.mem_append_right _ (List.mem_append_right _ (List.mem_append_right _ (List.mem_append_right _ (List.mem_append_right _ (List.mem_append_right _ (List.mem_append_right _ (List.mem_append_right _ (List.mem_append_right _ (List.mem_append_right _ (List.mem_append_right _ (List.mem_append_right _ (List.mem_append_left _ (List.mem_of_getElem? (i := 9) rfl)))))))))))))))) (fun _ h9 => h9) rfl d_MO_mayEnd_65 ?_
      refine z_bipush hx hb (z := 11) d_MO_mayEnd_68 (by decide) ?_
      refine lv_iload_n hx hb d_MO_mayEnd_70 rfl (lv_at hl 1 rfl) ?_
      refine z_imul hx hb d_MO_mayEnd_71 (v := (11 * M (11) (w))) rfl ?_
      refine z_bipush hx hb (z := 7) d_MO_mayEnd_72 (by decide) ?_
      refine z_iadd hx hb d_MO_mayEnd_74 (v := ((11 * M (11) (w)) + 7)) rfl ?_
      refine z_iald hx hb hK hP (2) 0 (by decide) (fun _ => rfl) rfl (11 * rq M w + 7) (by omega) (by omega) (by decide) d_MO_mayEnd_75 ?_
      refine z_if_ne hx hb (tgt := 110) d_MO_mayEnd_76 (by decide) ⟨by omega, by omega⟩ (fun c_76 => ?_) (fun c_76 => ?_)
      · refine z_iconst hx hb (z := 0) d_MO_mayEnd_110 ?_
        exact W.zret (v := iI (0)) hx hb hr (by first | rfl | decide) (fun t ht hW => ⟨_, rfl, by rw [bz_f (fun h => h.elim (fun g => c_14 g.1) (fun g => by omega))], ht⟩) (fun q h => by cases h) d_MO_mayEnd_111
      · refine lv_aload_n hx hb d_MO_mayEnd_79 rfl (lv_at hl 2 rfl) ?_
        refine z_get (ci := 7) (C := R_MO) (T := T_MO) (N := 32) (v := .ref (ad (2))) hx hb hg in_MO hown hK hP (0) (by decide) rfl rfl 6 (by decide) (hg _ (List.mem_append_right _ (List.mem_append_right _ (List.mem_append_right _ (List.mem_append_right _ (List.mem_append_right _ (List.mem_append_right _ (List.mem_append_right _ (List.mem_append_right _ (List.mem_append_right _ (List.mem_append_right _ (List.mem_append_right _ (List.mem_append_right _ (List.mem_append_right _ (List.mem_append_left _ (List.mem_of_getElem? (i := 9) rfl)))))))))))))))) (fun _ h9 => h9) rfl d_MO_mayEnd_80 ?_
        refine z_bipush hx hb (z := 11) d_MO_mayEnd_83 (by decide) ?_
        refine lv_iload_n hx hb d_MO_mayEnd_85 rfl (lv_at hl 1 rfl) ?_
        refine z_imul hx hb d_MO_mayEnd_86 (v := (11 * M (11) (w))) rfl ?_
        refine z_bipush hx hb (z := 8) d_MO_mayEnd_87 (by decide) ?_
        refine z_iadd hx hb d_MO_mayEnd_89 (v := ((11 * M (11) (w)) + 8)) rfl ?_
        refine z_iald hx hb hK hP (2) 0 (by decide) (fun _ => rfl) rfl (11 * rq M w + 8) (by omega) (by omega) (by decide) d_MO_mayEnd_90 ?_
        refine z_if_eq hx hb (tgt := 106) d_MO_mayEnd_91 (by decide) ⟨by omega, by omega⟩ (fun c_91 => ?_) (fun c_91 => ?_)
        · refine z_iconst hx hb (z := 1) d_MO_mayEnd_106 ?_
          refine lv_goto (tgt := 111) hx hb d_MO_mayEnd_107 (by decide) ?_
          exact W.zret (v := iI (1)) hx hb hr (by first | rfl | decide) (fun t ht hW => ⟨_, rfl, by rw [bz_t (Or.inr ⟨c_14, by omega, Or.inl (by omega)⟩)], ht⟩) (fun q h => by cases h) d_MO_mayEnd_111
        · refine lv_aload_n hx hb d_MO_mayEnd_94 rfl (lv_at hl 2 rfl) ?_
          refine lv_iload_n hx hb d_MO_mayEnd_95 rfl (lv_at hl 3 rfl) ?_
          refine ro_V (As := [.int (iI (((w : Nat) : Int)))]) (rest := []) (z := bz (p_first (M 11) (w)) inferInstance) ⟨hx, hb, hml, hown, hg⟩ (r_isFirst l (w) (by omega) (rL_z hL)) (cwV 1 hg (gt_V (List.mem_append_right _ (List.mem_append_right _ (List.mem_append_right _ (List.mem_append_right _ (List.mem_append_right _ (List.mem_append_right _ (List.mem_append_right _ (List.mem_append_right _ (List.mem_append_right _ (List.mem_append_right _ (List.mem_append_right _ (List.mem_append_right _ (List.mem_append_right _ (List.mem_append_right _ (List.mem_append_right _ (List.mem_append_right _ (List.mem_append_left _ (List.mem_of_getElem? (i := 33) rfl)))))))))))))))))) (List.mem_append_right _ (List.mem_append_right _ (List.mem_append_right _ (List.mem_append_right _ (List.mem_append_right _ (List.mem_append_right _ (List.mem_append_right _ (List.mem_append_right _ (List.mem_append_right _ (List.mem_append_right _ (List.mem_append_right _ (List.mem_append_right _ (List.mem_append_right _ (List.mem_append_right _ (List.mem_append_right _ (List.mem_append_right _ (List.mem_append_left _ (List.mem_of_getElem? (i := 34) rfl)))))))))))))))))) (List.mem_append_left _ (List.mem_of_getElem? (i := 37) rfl)) (List.mem_append_right _ (List.mem_append_left _ (List.mem_of_getElem? (i := 9) rfl))) (List.mem_append_right _ (List.mem_append_right _ (List.mem_append_right _ (List.mem_append_right _ (List.mem_append_right _ (List.mem_append_right _ (List.mem_append_right _ (List.mem_append_right _ (List.mem_append_right _ (List.mem_append_right _ (List.mem_append_right _ (List.mem_append_right _ (List.mem_append_right _ (List.mem_append_right _ (List.mem_append_right _ (List.mem_append_right _ (List.mem_append_left _ (List.mem_of_getElem? (i := 35) rfl))))))))))))))))))) rfl rfl rfl (by decide +kernel) ⟨Nat.le_of_ble_eq_true rfl, Nat.le_of_ble_eq_true rfl⟩) hK hP (va_recv hK hP (ci := 7) (q0 := 0) rfl (wl_atE (by decide) rfl)) rfl hl.1 rfl (Nat.le_of_ble_eq_true rfl) d_MO_mayEnd_96 ⟨Nat.zero_le _, Nat.zero_le _⟩ ?_
          refine z_ifb_ne hx hb (tgt := 110) d_MO_mayEnd_99 (by decide) (fun c_99 => ?_) (fun c_99 => ?_)
          · refine z_iconst hx hb (z := 0) d_MO_mayEnd_110 ?_
            exact W.zret (v := iI (0)) hx hb hr (by first | rfl | decide) (fun t ht hW => ⟨_, rfl, by rw [bz_f (fun h => h.elim (fun g => c_14 g.1) (fun g => g.2.2.elim (fun q => by omega) (fun q => q (Or.inl (by rw [hw0]; exact c_99)))))], ht⟩) (fun q h => by cases h) d_MO_mayEnd_111
          · refine lv_iload_n hx hb d_MO_mayEnd_102 rfl (lv_at hl 0 rfl) ?_
            refine z_if_ne hx hb (tgt := 110) d_MO_mayEnd_103 (by decide) ⟨by decide, by decide⟩ (fun c_103 => ?_) (fun c_103 => ?_)
            · refine z_iconst hx hb (z := 0) d_MO_mayEnd_110 ?_
              exact W.zret (v := iI (0)) hx hb hr (by first | rfl | decide) (fun t ht hW => ⟨_, rfl, by rw [bz_f (fun h => h.elim (fun g => c_14 g.1) (fun g => g.2.2.elim (fun q => by omega) (fun q => q (Or.inr (Or.inl (by omega))))))], ht⟩) (fun q h => by cases h) d_MO_mayEnd_111
            · exact absurd c_103 (by decide)
    · refine lv_aload_n hx hb d_MO_mayEnd_48 rfl (lv_at hl 1 rfl) ?_
      refine lv_iload_n hx hb d_MO_mayEnd_49 rfl (lv_at hl 2 rfl) ?_
      refine z_iconst hx hb (z := 2) d_MO_mayEnd_50 ?_
      refine z_iadd hx hb d_MO_mayEnd_51 (v := ((w + 2 : Nat) : Int)) (by omega) ?_
      refine ro_V (As := [.int (iI (((w + 2 : Nat) : Int)))]) (rest := []) (z := bz (p_first (M 11) (w + 2)) inferInstance) ⟨hx, hb, hml, hown, hg⟩ (r_isFirst l (w + 2) (by omega) (rL_z hL)) (cwV 1 hg (gt_V (List.mem_append_right _ (List.mem_append_right _ (List.mem_append_right _ (List.mem_append_right _ (List.mem_append_right _ (List.mem_append_right _ (List.mem_append_right _ (List.mem_append_right _ (List.mem_append_right _ (List.mem_append_right _ (List.mem_append_right _ (List.mem_append_right _ (List.mem_append_right _ (List.mem_append_right _ (List.mem_append_right _ (List.mem_append_right _ (List.mem_append_left _ (List.mem_of_getElem? (i := 33) rfl)))))))))))))))))) (List.mem_append_right _ (List.mem_append_right _ (List.mem_append_right _ (List.mem_append_right _ (List.mem_append_right _ (List.mem_append_right _ (List.mem_append_right _ (List.mem_append_right _ (List.mem_append_right _ (List.mem_append_right _ (List.mem_append_right _ (List.mem_append_right _ (List.mem_append_right _ (List.mem_append_right _ (List.mem_append_right _ (List.mem_append_right _ (List.mem_append_left _ (List.mem_of_getElem? (i := 34) rfl)))))))))))))))))) (List.mem_append_left _ (List.mem_of_getElem? (i := 37) rfl)) (List.mem_append_right _ (List.mem_append_left _ (List.mem_of_getElem? (i := 9) rfl))) (List.mem_append_right _ (List.mem_append_right _ (List.mem_append_right _ (List.mem_append_right _ (List.mem_append_right _ (List.mem_append_right _ (List.mem_append_right _ (List.mem_append_right _ (List.mem_append_right _ (List.mem_append_right _ (List.mem_append_right _ (List.mem_append_right _ (List.mem_append_right _ (List.mem_append_right _ (List.mem_append_right _ (List.mem_append_right _ (List.mem_append_left _ (List.mem_of_getElem? (i := 35) rfl))))))))))))))))))) rfl rfl rfl (by decide +kernel) ⟨Nat.le_of_ble_eq_true rfl, Nat.le_of_ble_eq_true rfl⟩) hK hP (va_recv hK hP (ci := 7) (q0 := 0) rfl (wl_atE (by decide) rfl)) rfl hl.1 rfl (Nat.le_of_ble_eq_true rfl) d_MO_mayEnd_52 ⟨Nat.zero_le _, Nat.zero_le _⟩ ?_
      refine z_ifb_eq hx hb (tgt := 62) d_MO_mayEnd_55 (by decide) (fun c_55 => ?_) (fun c_55 => ?_)
      · refine z_iconst hx hb (z := 0) d_MO_mayEnd_62 ?_
        refine lv_istore_n (lv' := [(3, .int (iI (0))), (2, .int (iI (M (11) (w)))), (0, .ref (ad (0))), (1, .int (iI (((w : Nat) : Int))))]) hx hb d_MO_mayEnd_63 rfl hl (by decide) rfl (fun ls hl => ?_)
        refine lv_aload_n hx hb d_MO_mayEnd_64 rfl (lv_at hl 2 rfl) ?_
        refine z_get (ci := 7) (C := R_MO) (T := T_MO) (N := 32) (v := .ref (ad (2))) hx hb hg in_MO hown hK hP (0) (by decide) rfl rfl 6 (by decide) (hg _ (List.mem_append_right _ (List.mem_append_right _ (List.mem_append_right _ (List.mem_append_right _ (List.mem_append_right _ (List.mem_append_right _ (List.mem_append_right _ (List.mem_append_right _ (List.mem_append_right _ (List.mem_append_right _ (List.mem_append_right _ (List.mem_append_right _ (List.mem_append_right _ (List.mem_append_left _ (List.mem_of_getElem? (i := 9) rfl)))))))))))))))) (fun _ h9 => h9) rfl d_MO_mayEnd_65 ?_
        refine z_bipush hx hb (z := 11) d_MO_mayEnd_68 (by decide) ?_
        refine lv_iload_n hx hb d_MO_mayEnd_70 rfl (lv_at hl 1 rfl) ?_
        refine z_imul hx hb d_MO_mayEnd_71 (v := (11 * M (11) (w))) rfl ?_
        refine z_bipush hx hb (z := 7) d_MO_mayEnd_72 (by decide) ?_
        refine z_iadd hx hb d_MO_mayEnd_74 (v := ((11 * M (11) (w)) + 7)) rfl ?_
        refine z_iald hx hb hK hP (2) 0 (by decide) (fun _ => rfl) rfl (11 * rq M w + 7) (by omega) (by omega) (by decide) d_MO_mayEnd_75 ?_
        refine z_if_ne hx hb (tgt := 110) d_MO_mayEnd_76 (by decide) ⟨by omega, by omega⟩ (fun c_76 => ?_) (fun c_76 => ?_)
        · refine z_iconst hx hb (z := 0) d_MO_mayEnd_110 ?_
          exact W.zret (v := iI (0)) hx hb hr (by first | rfl | decide) (fun t ht hW => ⟨_, rfl, by rw [bz_f (fun h => h.elim (fun g => c_14 g.1) (fun g => by omega))], ht⟩) (fun q h => by cases h) d_MO_mayEnd_111
        · refine lv_aload_n hx hb d_MO_mayEnd_79 rfl (lv_at hl 2 rfl) ?_
          refine z_get (ci := 7) (C := R_MO) (T := T_MO) (N := 32) (v := .ref (ad (2))) hx hb hg in_MO hown hK hP (0) (by decide) rfl rfl 6 (by decide) (hg _ (List.mem_append_right _ (List.mem_append_right _ (List.mem_append_right _ (List.mem_append_right _ (List.mem_append_right _ (List.mem_append_right _ (List.mem_append_right _ (List.mem_append_right _ (List.mem_append_right _ (List.mem_append_right _ (List.mem_append_right _ (List.mem_append_right _ (List.mem_append_right _ (List.mem_append_left _ (List.mem_of_getElem? (i := 9) rfl)))))))))))))))) (fun _ h9 => h9) rfl d_MO_mayEnd_80 ?_
          refine z_bipush hx hb (z := 11) d_MO_mayEnd_83 (by decide) ?_
          refine lv_iload_n hx hb d_MO_mayEnd_85 rfl (lv_at hl 1 rfl) ?_
          refine z_imul hx hb d_MO_mayEnd_86 (v := (11 * M (11) (w))) rfl ?_
          refine z_bipush hx hb (z := 8) d_MO_mayEnd_87 (by decide) ?_
          refine z_iadd hx hb d_MO_mayEnd_89 (v := ((11 * M (11) (w)) + 8)) rfl ?_
          refine z_iald hx hb hK hP (2) 0 (by decide) (fun _ => rfl) rfl (11 * rq M w + 8) (by omega) (by omega) (by decide) d_MO_mayEnd_90 ?_
          refine z_if_eq hx hb (tgt := 106) d_MO_mayEnd_91 (by decide) ⟨by omega, by omega⟩ (fun c_91 => ?_) (fun c_91 => ?_)
          · refine z_iconst hx hb (z := 1) d_MO_mayEnd_106 ?_
            refine lv_goto (tgt := 111) hx hb d_MO_mayEnd_107 (by decide) ?_
            exact W.zret (v := iI (1)) hx hb hr (by first | rfl | decide) (fun t ht hW => ⟨_, rfl, by rw [bz_t (Or.inr ⟨c_14, by omega, Or.inl (by omega)⟩)], ht⟩) (fun q h => by cases h) d_MO_mayEnd_111
          · refine lv_aload_n hx hb d_MO_mayEnd_94 rfl (lv_at hl 2 rfl) ?_
            refine lv_iload_n hx hb d_MO_mayEnd_95 rfl (lv_at hl 3 rfl) ?_
            refine ro_V (As := [.int (iI (((w : Nat) : Int)))]) (rest := []) (z := bz (p_first (M 11) (w)) inferInstance) ⟨hx, hb, hml, hown, hg⟩ (r_isFirst l (w) (by omega) (rL_z hL)) (cwV 1 hg (gt_V (List.mem_append_right _ (List.mem_append_right _ (List.mem_append_right _ (List.mem_append_right _ (List.mem_append_right _ (List.mem_append_right _ (List.mem_append_right _ (List.mem_append_right _ (List.mem_append_right _ (List.mem_append_right _ (List.mem_append_right _ (List.mem_append_right _ (List.mem_append_right _ (List.mem_append_right _ (List.mem_append_right _ (List.mem_append_right _ (List.mem_append_left _ (List.mem_of_getElem? (i := 33) rfl)))))))))))))))))) (List.mem_append_right _ (List.mem_append_right _ (List.mem_append_right _ (List.mem_append_right _ (List.mem_append_right _ (List.mem_append_right _ (List.mem_append_right _ (List.mem_append_right _ (List.mem_append_right _ (List.mem_append_right _ (List.mem_append_right _ (List.mem_append_right _ (List.mem_append_right _ (List.mem_append_right _ (List.mem_append_right _ (List.mem_append_right _ (List.mem_append_left _ (List.mem_of_getElem? (i := 34) rfl)))))))))))))))))) (List.mem_append_left _ (List.mem_of_getElem? (i := 37) rfl)) (List.mem_append_right _ (List.mem_append_left _ (List.mem_of_getElem? (i := 9) rfl))) (List.mem_append_right _ (List.mem_append_right _ (List.mem_append_right _ (List.mem_append_right _ (List.mem_append_right _ (List.mem_append_right _ (List.mem_append_right _ (List.mem_append_right _ (List.mem_append_right _ (List.mem_append_right _ (List.mem_append_right _ (List.mem_append_right _ (List.mem_append_right _ (List.mem_append_right _ (List.mem_append_right _ (List.mem_append_right _ (List.mem_append_left _ (List.mem_of_getElem? (i := 35) rfl))))))))))))))))))) rfl rfl rfl (by decide +kernel) ⟨Nat.le_of_ble_eq_true rfl, Nat.le_of_ble_eq_true rfl⟩) hK hP (va_recv hK hP (ci := 7) (q0 := 0) rfl (wl_atE (by decide) rfl)) rfl hl.1 rfl (Nat.le_of_ble_eq_true rfl) d_MO_mayEnd_96 ⟨Nat.zero_le _, Nat.zero_le _⟩ ?_
            refine z_ifb_ne hx hb (tgt := 110) d_MO_mayEnd_99 (by decide) (fun c_99 => ?_) (fun c_99 => ?_)
            · refine z_iconst hx hb (z := 0) d_MO_mayEnd_110 ?_
              exact W.zret (v := iI (0)) hx hb hr (by first | rfl | decide) (fun t ht hW => ⟨_, rfl, by rw [bz_f (fun h => h.elim (fun g => c_14 g.1) (fun g => g.2.2.elim (fun q => by omega) (fun q => q (Or.inl (by rw [hw0]; exact c_99)))))], ht⟩) (fun q h => by cases h) d_MO_mayEnd_111
            · refine lv_iload_n hx hb d_MO_mayEnd_102 rfl (lv_at hl 0 rfl) ?_
              refine z_if_ne hx hb (tgt := 110) d_MO_mayEnd_103 (by decide) ⟨by decide, by decide⟩ (fun c_103 => ?_) (fun c_103 => ?_)
              · exact absurd c_103 (by decide)
              · refine z_iconst hx hb (z := 1) d_MO_mayEnd_106 ?_
                refine lv_goto (tgt := 111) hx hb d_MO_mayEnd_107 (by decide) ?_
                exact W.zret (v := iI (1)) hx hb hr (by first | rfl | decide) (fun t ht hW => ⟨_, rfl, by rw [bz_t (Or.inr ⟨c_14, by omega, Or.inr (fun g7 => g7.elim (fun q => c_99 (by rw [hw0] at q; exact q)) (fun g8 => g8.elim (fun q => by omega) (fun q => c_55 (Or.inr (by first | exact q | exact fun z => q z.symm)))))⟩)], ht⟩) (fun q h => by cases h) d_MO_mayEnd_111
      · refine z_iconst hx hb (z := 1) d_MO_mayEnd_58 ?_
        refine lv_goto (tgt := 63) hx hb d_MO_mayEnd_59 (by decide) ?_
        refine lv_istore_n (lv' := [(3, .int (iI (1))), (2, .int (iI (M (11) (w)))), (0, .ref (ad (0))), (1, .int (iI (((w : Nat) : Int))))]) hx hb d_MO_mayEnd_63 rfl hl (by decide) rfl (fun ls hl => ?_)
        refine lv_aload_n hx hb d_MO_mayEnd_64 rfl (lv_at hl 2 rfl) ?_
        refine z_get (ci := 7) (C := R_MO) (T := T_MO) (N := 32) (v := .ref (ad (2))) hx hb hg in_MO hown hK hP (0) (by decide) rfl rfl 6 (by decide) (hg _ (List.mem_append_right _ (List.mem_append_right _ (List.mem_append_right _ (List.mem_append_right _ (List.mem_append_right _ (List.mem_append_right _ (List.mem_append_right _ (List.mem_append_right _ (List.mem_append_right _ (List.mem_append_right _ (List.mem_append_right _ (List.mem_append_right _ (List.mem_append_right _ (List.mem_append_left _ (List.mem_of_getElem? (i := 9) rfl)))))))))))))))) (fun _ h9 => h9) rfl d_MO_mayEnd_65 ?_
        refine z_bipush hx hb (z := 11) d_MO_mayEnd_68 (by decide) ?_
        refine lv_iload_n hx hb d_MO_mayEnd_70 rfl (lv_at hl 1 rfl) ?_
        refine z_imul hx hb d_MO_mayEnd_71 (v := (11 * M (11) (w))) rfl ?_
        refine z_bipush hx hb (z := 7) d_MO_mayEnd_72 (by decide) ?_
        refine z_iadd hx hb d_MO_mayEnd_74 (v := ((11 * M (11) (w)) + 7)) rfl ?_
        refine z_iald hx hb hK hP (2) 0 (by decide) (fun _ => rfl) rfl (11 * rq M w + 7) (by omega) (by omega) (by decide) d_MO_mayEnd_75 ?_
        refine z_if_ne hx hb (tgt := 110) d_MO_mayEnd_76 (by decide) ⟨by omega, by omega⟩ (fun c_76 => ?_) (fun c_76 => ?_)
        · refine z_iconst hx hb (z := 0) d_MO_mayEnd_110 ?_
          exact W.zret (v := iI (0)) hx hb hr (by first | rfl | decide) (fun t ht hW => ⟨_, rfl, by rw [bz_f (fun h => h.elim (fun g => c_14 g.1) (fun g => by omega))], ht⟩) (fun q h => by cases h) d_MO_mayEnd_111
        · refine lv_aload_n hx hb d_MO_mayEnd_79 rfl (lv_at hl 2 rfl) ?_
          refine z_get (ci := 7) (C := R_MO) (T := T_MO) (N := 32) (v := .ref (ad (2))) hx hb hg in_MO hown hK hP (0) (by decide) rfl rfl 6 (by decide) (hg _ (List.mem_append_right _ (List.mem_append_right _ (List.mem_append_right _ (List.mem_append_right _ (List.mem_append_right _ (List.mem_append_right _ (List.mem_append_right _ (List.mem_append_right _ (List.mem_append_right _ (List.mem_append_right _ (List.mem_append_right _ (List.mem_append_right _ (List.mem_append_right _ (List.mem_append_left _ (List.mem_of_getElem? (i := 9) rfl)))))))))))))))) (fun _ h9 => h9) rfl d_MO_mayEnd_80 ?_
          refine z_bipush hx hb (z := 11) d_MO_mayEnd_83 (by decide) ?_
          refine lv_iload_n hx hb d_MO_mayEnd_85 rfl (lv_at hl 1 rfl) ?_
          refine z_imul hx hb d_MO_mayEnd_86 (v := (11 * M (11) (w))) rfl ?_
          refine z_bipush hx hb (z := 8) d_MO_mayEnd_87 (by decide) ?_
          refine z_iadd hx hb d_MO_mayEnd_89 (v := ((11 * M (11) (w)) + 8)) rfl ?_
          refine z_iald hx hb hK hP (2) 0 (by decide) (fun _ => rfl) rfl (11 * rq M w + 8) (by omega) (by omega) (by decide) d_MO_mayEnd_90 ?_
          refine z_if_eq hx hb (tgt := 106) d_MO_mayEnd_91 (by decide) ⟨by omega, by omega⟩ (fun c_91 => ?_) (fun c_91 => ?_)
          · refine z_iconst hx hb (z := 1) d_MO_mayEnd_106 ?_
            refine lv_goto (tgt := 111) hx hb d_MO_mayEnd_107 (by decide) ?_
            exact W.zret (v := iI (1)) hx hb hr (by first | rfl | decide) (fun t ht hW => ⟨_, rfl, by rw [bz_t (Or.inr ⟨c_14, by omega, Or.inl (by omega)⟩)], ht⟩) (fun q h => by cases h) d_MO_mayEnd_111
          · refine lv_aload_n hx hb d_MO_mayEnd_94 rfl (lv_at hl 2 rfl) ?_
            refine lv_iload_n hx hb d_MO_mayEnd_95 rfl (lv_at hl 3 rfl) ?_
            refine ro_V (As := [.int (iI (((w : Nat) : Int)))]) (rest := []) (z := bz (p_first (M 11) (w)) inferInstance) ⟨hx, hb, hml, hown, hg⟩ (r_isFirst l (w) (by omega) (rL_z hL)) (cwV 1 hg (gt_V (List.mem_append_right _ (List.mem_append_right _ (List.mem_append_right _ (List.mem_append_right _ (List.mem_append_right _ (List.mem_append_right _ (List.mem_append_right _ (List.mem_append_right _ (List.mem_append_right _ (List.mem_append_right _ (List.mem_append_right _ (List.mem_append_right _ (List.mem_append_right _ (List.mem_append_right _ (List.mem_append_right _ (List.mem_append_right _ (List.mem_append_left _ (List.mem_of_getElem? (i := 33) rfl)))))))))))))))))) (List.mem_append_right _ (List.mem_append_right _ (List.mem_append_right _ (List.mem_append_right _ (List.mem_append_right _ (List.mem_append_right _ (List.mem_append_right _ (List.mem_append_right _ (List.mem_append_right _ (List.mem_append_right _ (List.mem_append_right _ (List.mem_append_right _ (List.mem_append_right _ (List.mem_append_right _ (List.mem_append_right _ (List.mem_append_right _ (List.mem_append_left _ (List.mem_of_getElem? (i := 34) rfl)))))))))))))))))) (List.mem_append_left _ (List.mem_of_getElem? (i := 37) rfl)) (List.mem_append_right _ (List.mem_append_left _ (List.mem_of_getElem? (i := 9) rfl))) (List.mem_append_right _ (List.mem_append_right _ (List.mem_append_right _ (List.mem_append_right _ (List.mem_append_right _ (List.mem_append_right _ (List.mem_append_right _ (List.mem_append_right _ (List.mem_append_right _ (List.mem_append_right _ (List.mem_append_right _ (List.mem_append_right _ (List.mem_append_right _ (List.mem_append_right _ (List.mem_append_right _ (List.mem_append_right _ (List.mem_append_left _ (List.mem_of_getElem? (i := 35) rfl))))))))))))))))))) rfl rfl rfl (by decide +kernel) ⟨Nat.le_of_ble_eq_true rfl, Nat.le_of_ble_eq_true rfl⟩) hK hP (va_recv hK hP (ci := 7) (q0 := 0) rfl (wl_atE (by decide) rfl)) rfl hl.1 rfl (Nat.le_of_ble_eq_true rfl) d_MO_mayEnd_96 ⟨Nat.zero_le _, Nat.zero_le _⟩ ?_
            refine z_ifb_ne hx hb (tgt := 110) d_MO_mayEnd_99 (by decide) (fun c_99 => ?_) (fun c_99 => ?_)
            · refine z_iconst hx hb (z := 0) d_MO_mayEnd_110 ?_
              exact W.zret (v := iI (0)) hx hb hr (by first | rfl | decide) (fun t ht hW => ⟨_, rfl, by rw [bz_f (fun h => h.elim (fun g => c_14 g.1) (fun g => g.2.2.elim (fun q => by omega) (fun q => q (Or.inl (by rw [hw0]; exact c_99)))))], ht⟩) (fun q h => by cases h) d_MO_mayEnd_111
            · refine lv_iload_n hx hb d_MO_mayEnd_102 rfl (lv_at hl 0 rfl) ?_
              refine z_if_ne hx hb (tgt := 110) d_MO_mayEnd_103 (by decide) ⟨by decide, by decide⟩ (fun c_103 => ?_) (fun c_103 => ?_)
              · refine z_iconst hx hb (z := 0) d_MO_mayEnd_110 ?_
                exact W.zret (v := iI (0)) hx hb hr (by first | rfl | decide) (fun t ht hW => ⟨_, rfl, by rw [bz_f (fun h => h.elim (fun g => c_14 g.1) (fun g => g.2.2.elim (fun q => by omega) (fun q => q (Or.inr (Or.inr (fun g9 => c_55.elim (fun q => by omega) (fun q => q (by first | exact g9 | exact g9.symm))))))))], ht⟩) (fun q h => by cases h) d_MO_mayEnd_111
              · exact absurd c_103 (by decide)
  · refine lv_aload_n hx hb d_MO_mayEnd_17 rfl (lv_at hl 1 rfl) ?_
    refine z_get (ci := 7) (C := R_MO) (T := T_MO) (N := 32) (v := .ref (ad (2))) hx hb hg in_MO hown hK hP (0) (by decide) rfl rfl 6 (by decide) (hg _ (List.mem_append_right _ (List.mem_append_right _ (List.mem_append_right _ (List.mem_append_right _ (List.mem_append_right _ (List.mem_append_right _ (List.mem_append_right _ (List.mem_append_right _ (List.mem_append_right _ (List.mem_append_right _ (List.mem_append_right _ (List.mem_append_right _ (List.mem_append_right _ (List.mem_append_left _ (List.mem_of_getElem? (i := 9) rfl)))))))))))))))) (fun _ h9 => h9) rfl d_MO_mayEnd_18 ?_
    refine z_bipush hx hb (z := 11) d_MO_mayEnd_21 (by decide) ?_
    refine lv_iload_n hx hb d_MO_mayEnd_23 rfl (lv_at hl 0 rfl) ?_
    refine z_imul hx hb d_MO_mayEnd_24 (v := (11 * M (11) (w))) rfl ?_
    refine z_bipush hx hb (z := 6) d_MO_mayEnd_25 (by decide) ?_
    refine z_iadd hx hb d_MO_mayEnd_27 (v := ((11 * M (11) (w)) + 6)) rfl ?_
    refine z_iald hx hb hK hP (2) 0 (by decide) (fun _ => rfl) rfl (11 * rq M w + 6) (by omega) (by omega) (by decide) d_MO_mayEnd_28 ?_
    refine z_if_ne hx hb (tgt := 36) d_MO_mayEnd_29 (by decide) ⟨by omega, by omega⟩ (fun c_29 => ?_) (fun c_29 => ?_)
    · refine z_iconst hx hb (z := 0) d_MO_mayEnd_36 ?_
      exact W.zret (v := iI (0)) hx hb hr (by first | rfl | decide) (fun t ht hW => ⟨_, rfl, by rw [bz_f (fun h => h.elim (fun g => by omega) (fun g => g.1 c_14))], ht⟩) (fun q h => by cases h) d_MO_mayEnd_37
    · refine z_iconst hx hb (z := 1) d_MO_mayEnd_32 ?_
      refine lv_goto (tgt := 37) hx hb d_MO_mayEnd_33 (by decide) ?_
      exact W.zret (v := iI (1)) hx hb hr (by first | rfl | decide) (fun t ht hW => ⟨_, rfl, by rw [bz_t (Or.inl ⟨c_14, by omega⟩)], ht⟩) (fun q h => by cases h) d_MO_mayEnd_37
set_option maxHeartbeats 4000000 in
set_option maxRecDepth 100000 in
theorem lr_filled1 {p : Program} {l : Launch} {e : Env} {s : State} {m : MethodId} {args : Array Value} {below : List Frame} {meth : Method} {c : Code} {H : Heap} {locs : List Loc} {Q : State → Prop} {D : va_G} {ad : Nat → Nat} {cs : ClassId} {M : Nat → Nat → Int} (hx : p.tables.exec = Jvm.exec) (hb : c.code = b_MO_filled) (hml : c.maxLocals = 6) (hg : ∀ w ∈ gt, w.before args s = true) (hown : s.vm.findClass R_MO = some m.cls) (hK : va_K D vwCl (mo_tys cs) s) (hP : va_P D vwCl (mo_w ad cs M) H) (a nl : Nat) (hn : M 0 16 = ((nl : Nat) : Int)) (hn6 : nl < 640) (ha : a < nl) (hL : rL M) (hZ : rZ M) (t : Nat) (h2 : 1 ≤ M 0 2 ∧ M 0 2 ≤ 30000) (kk : ∀ ls : Array Slot, lv_has ls 6 [(2, .int (iI (((t : Nat) : Int)))), (0, .ref (ad (0))), (1, .int (iI (((a : Nat) : Int))))] → W p l e ({ frames := 2, cells := 0, slots := 0, locals := 44 } : Room) s m args below meth c H locs 0 0 Q (F0 m 82 ls [])) : ∀ (f cn : Nat) (d : Int) (ls : Array Slot), a + cn + f = nl → 1 ≤ cn → -20000000 + 20000 * ((cn : Nat) : Int) ≤ d + 40000 * ((cn : Nat) : Int) ∧ d ≤ 20000 * ((cn : Nat) : Int) → r_can M a nl f cn d = t → lv_has ls 6 [(4, .int (iI (1))), (3, .int (iI (d))), (2, .int (iI (((cn : Nat) : Int)))), (0, .ref (ad (0))), (1, .int (iI (((a : Nat) : Int))))] → W p l e ({ frames := 2, cells := 0, slots := 0, locals := 44 } : Room) s m args below meth c H locs 0 0 Q (F0 m 12 ls []) := by
  intro f
  induction f with
  | zero =>
    intro cn d ls hf hc1 hd he hl
    have hbb := r_btwb hZ (a + cn)
    have hhb := (hL (a + cn)).2.2
    refine lv_iload hx hb d_MO_filled_12 (lv_at hl 0 rfl) ?_
    refine z_if_eq hx hb (tgt := 82) d_MO_filled_14 (by decide) ⟨by decide, by decide⟩ (fun c_14 => ?_) (fun c_14 => ?_)
    · exact absurd c_14 (by decide)
    · refine lv_iload_n hx hb d_MO_filled_17 rfl (lv_at hl 4 rfl) ?_
      refine lv_iload_n hx hb d_MO_filled_18 rfl (lv_at hl 2 rfl) ?_
      refine z_iadd hx hb d_MO_filled_19 (v := ((a + cn : Nat) : Int)) (by omega) ?_
      refine lv_aload_n hx hb d_MO_filled_20 rfl (lv_at hl 3 rfl) ?_
      refine z_get (ci := 7) (C := R_MO) (T := T_MO) (N := 32) (v := .int (iI (M (0) 16))) hx hb hg in_MO hown hK hP (0) (by decide) rfl rfl 16 (by decide) (hg _ (List.mem_append_right _ (List.mem_append_right _ (List.mem_append_right _ (List.mem_append_right _ (List.mem_append_right _ (List.mem_append_right _ (List.mem_append_right _ (List.mem_append_right _ (List.mem_append_right _ (List.mem_append_right _ (List.mem_append_right _ (List.mem_append_right _ (List.mem_append_right _ (List.mem_append_left _ (List.mem_of_getElem? (i := 19) rfl)))))))))))))))) (fun _ h9 => h9) rfl d_MO_filled_21 ?_
      refine z_icmp_ge hx hb (tgt := 82) d_MO_filled_24 (by decide) ⟨by omega, by omega⟩ ⟨by omega, by omega⟩ (fun c_24 => ?_) (fun c_24 => ?_)
      · have he : cn = t := he
        subst he
        exact kk ls (lv_sub hl [2, 3, 4] rfl)
      · exact absurd c_24 (by omega)
  | succ f ih =>
    intro cn d ls hf hc1 hd he hl
    have hbb := r_btwb hZ (a + cn)
    have hhb := (hL (a + cn)).2.2
    refine lv_iload hx hb d_MO_filled_12 (lv_at hl 0 rfl) ?_
    refine z_if_eq hx hb (tgt := 82) d_MO_filled_14 (by decide) ⟨by decide, by decide⟩ (fun c_14 => ?_) (fun c_14 => ?_)
    · exact absurd c_14 (by decide)
    · refine lv_iload_n hx hb d_MO_filled_17 rfl (lv_at hl 4 rfl) ?_
      refine lv_iload_n hx hb d_MO_filled_18 rfl (lv_at hl 2 rfl) ?_
      refine z_iadd hx hb d_MO_filled_19 (v := ((a + cn : Nat) : Int)) (by omega) ?_
      refine lv_aload_n hx hb d_MO_filled_20 rfl (lv_at hl 3 rfl) ?_
      refine z_get (ci := 7) (C := R_MO) (T := T_MO) (N := 32) (v := .int (iI (M (0) 16))) hx hb hg in_MO hown hK hP (0) (by decide) rfl rfl 16 (by decide) (hg _ (List.mem_append_right _ (List.mem_append_right _ (List.mem_append_right _ (List.mem_append_right _ (List.mem_append_right _ (List.mem_append_right _ (List.mem_append_right _ (List.mem_append_right _ (List.mem_append_right _ (List.mem_append_right _ (List.mem_append_right _ (List.mem_append_right _ (List.mem_append_right _ (List.mem_append_left _ (List.mem_of_getElem? (i := 19) rfl)))))))))))))))) (fun _ h9 => h9) rfl d_MO_filled_21 ?_
      refine z_icmp_ge hx hb (tgt := 82) d_MO_filled_24 (by decide) ⟨by omega, by omega⟩ ⟨by omega, by omega⟩ (fun c_24 => ?_) (fun c_24 => ?_)
      · exact absurd c_24 (by omega)
      · refine lv_iload_n hx hb d_MO_filled_27 rfl (lv_at hl 1 rfl) ?_
        refine lv_aload_n hx hb d_MO_filled_28 rfl (lv_at hl 3 rfl) ?_
        refine lv_iload_n hx hb d_MO_filled_29 rfl (lv_at hl 4 rfl) ?_
        refine lv_iload_n hx hb d_MO_filled_30 rfl (lv_at hl 2 rfl) ?_
        refine z_iadd hx hb d_MO_filled_31 (v := ((a + cn : Nat) : Int)) (by omega) ?_
        refine ro_V (As := [.int (iI (((a + cn : Nat) : Int)))]) (rest := [.int (iI (d))]) (z := r_btw M (a + cn)) ⟨hx, hb, hml, hown, hg⟩ (r_between l (a + cn) (by omega) (by omega) hL) (cwV 1 hg (gt_V (List.mem_append_right _ (List.mem_append_right _ (List.mem_append_right _ (List.mem_append_right _ (List.mem_append_right _ (List.mem_append_right _ (List.mem_append_right _ (List.mem_append_right _ (List.mem_append_right _ (List.mem_append_right _ (List.mem_append_right _ (List.mem_append_right _ (List.mem_append_right _ (List.mem_append_right _ (List.mem_append_right _ (List.mem_append_right _ (List.mem_append_left _ (List.mem_of_getElem? (i := 30) rfl)))))))))))))))))) (List.mem_append_right _ (List.mem_append_right _ (List.mem_append_right _ (List.mem_append_right _ (List.mem_append_right _ (List.mem_append_right _ (List.mem_append_right _ (List.mem_append_right _ (List.mem_append_right _ (List.mem_append_right _ (List.mem_append_right _ (List.mem_append_right _ (List.mem_append_right _ (List.mem_append_right _ (List.mem_append_right _ (List.mem_append_right _ (List.mem_append_left _ (List.mem_of_getElem? (i := 31) rfl)))))))))))))))))) (List.mem_append_left _ (List.mem_of_getElem? (i := 36) rfl)) (List.mem_append_right _ (List.mem_append_left _ (List.mem_of_getElem? (i := 9) rfl))) (List.mem_append_right _ (List.mem_append_right _ (List.mem_append_right _ (List.mem_append_right _ (List.mem_append_right _ (List.mem_append_right _ (List.mem_append_right _ (List.mem_append_right _ (List.mem_append_right _ (List.mem_append_right _ (List.mem_append_right _ (List.mem_append_right _ (List.mem_append_right _ (List.mem_append_right _ (List.mem_append_right _ (List.mem_append_right _ (List.mem_append_left _ (List.mem_of_getElem? (i := 32) rfl))))))))))))))))))) rfl rfl rfl (by decide +kernel) ⟨Nat.le_of_ble_eq_true rfl, Nat.le_of_ble_eq_true rfl⟩) hK hP (va_recv hK hP (ci := 7) (q0 := 0) rfl (wl_atE (by decide) rfl)) rfl hl.1 rfl (Nat.le_of_ble_eq_true rfl) d_MO_filled_32 ⟨Nat.zero_le _, Nat.zero_le _⟩ ?_
        refine z_iadd hx hb d_MO_filled_35 (v := (d + r_btw M (a + cn))) rfl ?_
        refine lv_aload_n hx hb d_MO_filled_36 rfl (lv_at hl 3 rfl) ?_
        refine z_get (ci := 7) (C := R_MO) (T := T_MO) (N := 32) (v := .ref (ad (16))) hx hb hg in_MO hown hK hP (0) (by decide) rfl rfl 22 (by decide) (hg _ (List.mem_append_right _ (List.mem_append_right _ (List.mem_append_right _ (List.mem_append_right _ (List.mem_append_right _ (List.mem_append_right _ (List.mem_append_right _ (List.mem_append_right _ (List.mem_append_right _ (List.mem_append_right _ (List.mem_append_right _ (List.mem_append_right _ (List.mem_append_right _ (List.mem_append_left _ (List.mem_of_getElem? (i := 25) rfl)))))))))))))))) (fun _ h9 => h9) rfl d_MO_filled_37 ?_
        refine lv_iload_n hx hb d_MO_filled_40 rfl (lv_at hl 4 rfl) ?_
        refine lv_iload_n hx hb d_MO_filled_41 rfl (lv_at hl 2 rfl) ?_
        refine z_iadd hx hb d_MO_filled_42 (v := ((a + cn : Nat) : Int)) (by omega) ?_
        refine z_iald hx hb hK hP (16) 0 (by decide) (fun _ => rfl) rfl (a + cn) rfl (by omega) (by decide) d_MO_filled_43 ?_
        refine z_iadd hx hb d_MO_filled_44 (v := ((d + r_btw M (a + cn)) + M (16) (a + cn))) rfl ?_
        refine lv_istore (lv' := [(5, .int (iI (((d + r_btw M (a + cn)) + M (16) (a + cn))))), (4, .int (iI (1))), (3, .int (iI (d))), (2, .int (iI (((cn : Nat) : Int)))), (0, .ref (ad (0))), (1, .int (iI (((a : Nat) : Int))))]) hx hb d_MO_filled_45 hl (by decide) rfl (fun ls hl => ?_)
        refine lv_iload hx hb d_MO_filled_47 (lv_at hl 0 rfl) ?_
        refine lv_aload_n hx hb d_MO_filled_49 rfl (lv_at hl 4 rfl) ?_
        refine z_get (ci := 7) (C := R_MO) (T := T_MO) (N := 32) (v := .int (iI (M (0) 2))) hx hb hg in_MO hown hK hP (0) (by decide) rfl rfl 2 (by decide) (hg _ (List.mem_append_right _ (List.mem_append_right _ (List.mem_append_right _ (List.mem_append_right _ (List.mem_append_right _ (List.mem_append_right _ (List.mem_append_right _ (List.mem_append_right _ (List.mem_append_right _ (List.mem_append_right _ (List.mem_append_right _ (List.mem_append_right _ (List.mem_append_right _ (List.mem_append_left _ (List.mem_of_getElem? (i := 5) rfl)))))))))))))))) (fun _ h9 => h9) rfl d_MO_filled_50 ?_
        refine z_icmp_gt hx hb (tgt := 60) d_MO_filled_53 (by decide) ⟨by omega, by omega⟩ ⟨by omega, by omega⟩ (fun c_53 => ?_) (fun c_53 => ?_)
        · refine z_iconst hx hb (z := 0) d_MO_filled_60 ?_
          refine lv_istore (lv' := [(4, .int (iI (0))), (5, .int (iI (((d + r_btw M (a + cn)) + M (16) (a + cn))))), (3, .int (iI (d))), (2, .int (iI (((cn : Nat) : Int)))), (0, .ref (ad (0))), (1, .int (iI (((a : Nat) : Int))))]) hx hb d_MO_filled_61 hl (by decide) rfl (fun ls hl => ?_)
          refine lv_iload hx hb d_MO_filled_63 (lv_at hl 1 rfl) ?_
          refine lv_istore_n (lv' := [(3, .int (iI (((d + r_btw M (a + cn)) + M (16) (a + cn))))), (4, .int (iI (0))), (5, .int (iI (((d + r_btw M (a + cn)) + M (16) (a + cn))))), (2, .int (iI (((cn : Nat) : Int)))), (0, .ref (ad (0))), (1, .int (iI (((a : Nat) : Int))))]) hx hb d_MO_filled_65 rfl hl (by decide) rfl (fun ls hl => ?_)
          refine lv_iload_n hx hb d_MO_filled_66 rfl (lv_at hl 3 rfl) ?_
          refine lv_iload hx hb d_MO_filled_67 (lv_at hl 1 rfl) ?_
          refine z_if_eq hx hb (tgt := 76) d_MO_filled_69 (by decide) ⟨by decide, by decide⟩ (fun c_69 => ?_) (fun c_69 => ?_)
          · refine z_iconst hx hb (z := 0) d_MO_filled_76 ?_
            refine z_iadd hx hb d_MO_filled_77 (v := ((cn + 0 : Nat) : Int)) (by omega) ?_
            refine lv_istore_n (lv' := [(2, .int (iI (((cn + 0 : Nat) : Int)))), (3, .int (iI (((d + r_btw M (a + cn)) + M (16) (a + cn))))), (4, .int (iI (0))), (5, .int (iI (((d + r_btw M (a + cn)) + M (16) (a + cn))))), (0, .ref (ad (0))), (1, .int (iI (((a : Nat) : Int))))]) hx hb d_MO_filled_78 rfl hl (by decide) rfl (fun ls hl => ?_)
            refine lv_goto (tgt := 12) hx hb d_MO_filled_79 (by decide) ?_
            refine lv_iload hx hb d_MO_filled_12 (lv_at hl 2 rfl) ?_
            refine z_if_eq hx hb (tgt := 82) d_MO_filled_14 (by decide) ⟨by decide, by decide⟩ (fun c_14' => ?_) (fun c_14' => ?_)
            · have he : cn = t := by rw [← he]; unfold r_can; rw [if_pos (by omega)]
              subst he
              exact kk ls (lv_sub hl [0, 4, 5] rfl)
            · exact absurd c_14' (by decide)
          · exact absurd c_69 (by decide)
        · refine z_iconst hx hb (z := 1) d_MO_filled_56 ?_
          refine lv_goto (tgt := 61) hx hb d_MO_filled_57 (by decide) ?_
          refine lv_istore (lv' := [(4, .int (iI (1))), (5, .int (iI (((d + r_btw M (a + cn)) + M (16) (a + cn))))), (3, .int (iI (d))), (2, .int (iI (((cn : Nat) : Int)))), (0, .ref (ad (0))), (1, .int (iI (((a : Nat) : Int))))]) hx hb d_MO_filled_61 hl (by decide) rfl (fun ls hl => ?_)
          refine lv_iload hx hb d_MO_filled_63 (lv_at hl 1 rfl) ?_
          refine lv_istore_n (lv' := [(3, .int (iI (((d + r_btw M (a + cn)) + M (16) (a + cn))))), (4, .int (iI (1))), (5, .int (iI (((d + r_btw M (a + cn)) + M (16) (a + cn))))), (2, .int (iI (((cn : Nat) : Int)))), (0, .ref (ad (0))), (1, .int (iI (((a : Nat) : Int))))]) hx hb d_MO_filled_65 rfl hl (by decide) rfl (fun ls hl => ?_)
          refine lv_iload_n hx hb d_MO_filled_66 rfl (lv_at hl 3 rfl) ?_
          refine lv_iload hx hb d_MO_filled_67 (lv_at hl 1 rfl) ?_
          refine z_if_eq hx hb (tgt := 76) d_MO_filled_69 (by decide) ⟨by decide, by decide⟩ (fun c_69 => ?_) (fun c_69 => ?_)
          · exact absurd c_69 (by decide)
          · refine z_iconst hx hb (z := 1) d_MO_filled_72 ?_
            refine lv_goto (tgt := 77) hx hb d_MO_filled_73 (by decide) ?_
            refine z_iadd hx hb d_MO_filled_77 (v := ((cn + 1 : Nat) : Int)) (by omega) ?_
            refine lv_istore_n (lv' := [(2, .int (iI (((cn + 1 : Nat) : Int)))), (3, .int (iI (((d + r_btw M (a + cn)) + M (16) (a + cn))))), (4, .int (iI (1))), (5, .int (iI (((d + r_btw M (a + cn)) + M (16) (a + cn))))), (0, .ref (ad (0))), (1, .int (iI (((a : Nat) : Int))))]) hx hb d_MO_filled_78 rfl hl (by decide) rfl (fun ls hl => ?_)
            refine lv_goto (tgt := 12) hx hb d_MO_filled_79 (by decide) ?_
            exact ih (cn + 1) (d + r_btw M (a + cn) + M 16 (a + cn)) ls (by omega) (by omega) (by omega) (by rw [← he]; conv => rhs; unfold r_can; rw [if_neg (by omega)]) (lv_sub hl [2, 1, 0, 4, 5] rfl)
set_option maxHeartbeats 4000000 in
set_option maxRecDepth 100000 in
theorem lr_filled2 {p : Program} {l : Launch} {e : Env} {s : State} {m : MethodId} {args : Array Value} {below : List Frame} {meth : Method} {c : Code} {H : Heap} {locs : List Loc} {Q : State → Prop} {D : va_G} {ad : Nat → Nat} {cs : ClassId} {M : Nat → Nat → Int} (hx : p.tables.exec = Jvm.exec) (hb : c.code = b_MO_filled) (hml : c.maxLocals = 6) (hg : ∀ w ∈ gt, w.before args s = true) (hown : s.vm.findClass R_MO = some m.cls) (hK : va_K D vwCl (mo_tys cs) s) (hP : va_P D vwCl (mo_w ad cs M) H) (a nl : Nat) (hn : M 0 16 = ((nl : Nat) : Int)) (hn6 : nl < 640) (ha : a < nl) (hL : rL M) (hZ : rZ M) (can t : Nat) (hcan : a + can ≤ nl) (hz : ∀ j, zb (M 6 j)) (kk : ∀ (ls : Array Slot), t ≤ can → W p l e ({ frames := 2, cells := 0, slots := 0, locals := 44 } : Room) s m args below meth c H locs 0 0 Q (F0 m 106 ls [.int (iI ((t : Nat) : Int))])) (kk2 : ∀ (ls : Array Slot), can < t → lv_has ls 6 [(2, .int (iI (((can : Nat) : Int)))), (0, .ref (ad (0))), (1, .int (iI (((a : Nat) : Int))))] → W p l e ({ frames := 2, cells := 0, slots := 0, locals := 44 } : Room) s m args below meth c H locs 0 0 Q (F0 m 113 ls [])) : ∀ (f n : Nat) (ls : Array Slot), n + f = can + 1 → 1 ≤ n → r_fm M a nl f n = t → lv_has ls 6 [(5, .int (iI (((n : Nat) : Int)))), (2, .int (iI (((can : Nat) : Int)))), (0, .ref (ad (0))), (1, .int (iI (((a : Nat) : Int))))] → W p l e ({ frames := 2, cells := 0, slots := 0, locals := 44 } : Room) s m args below meth c H locs 0 0 Q (F0 m 85 ls []) := by
  intro f
  induction f with
  | zero =>
    intro n ls hf hn1 he hl
    refine lv_iload hx hb d_MO_filled_85 (lv_at hl 0 rfl) ?_
    refine lv_iload_n hx hb d_MO_filled_87 rfl (lv_at hl 1 rfl) ?_
    refine z_icmp_gt hx hb (tgt := 113) d_MO_filled_88 (by decide) ⟨by omega, by omega⟩ ⟨by omega, by omega⟩ (fun c_88 => ?_) (fun c_88 => ?_)
    · have he : n = t := he
      subst he
      exact kk2 ls (by omega) (lv_sub hl [1, 2, 3] rfl)
    · exact absurd c_88 (by omega)
  | succ f ih =>
    intro n ls hf hn1 he hl
    refine lv_iload hx hb d_MO_filled_85 (lv_at hl 0 rfl) ?_
    refine lv_iload_n hx hb d_MO_filled_87 rfl (lv_at hl 1 rfl) ?_
    refine z_icmp_gt hx hb (tgt := 113) d_MO_filled_88 (by decide) ⟨by omega, by omega⟩ ⟨by omega, by omega⟩ (fun c_88 => ?_) (fun c_88 => ?_)
    · exact absurd c_88 (by omega)
    · refine lv_aload_n hx hb d_MO_filled_91 rfl (lv_at hl 2 rfl) ?_
      refine lv_iload_n hx hb d_MO_filled_92 rfl (lv_at hl 3 rfl) ?_
      refine lv_iload hx hb d_MO_filled_93 (lv_at hl 0 rfl) ?_
      refine z_iadd hx hb d_MO_filled_95 (v := ((a + n : Nat) : Int)) (by omega) ?_
      refine z_iconst hx hb (z := 1) d_MO_filled_96 ?_
      refine z_isub hx hb d_MO_filled_97 (v := ((a + n - 1 : Nat) : Int)) (by omega) ?_
      refine ro_V (As := [.int (iI (((a + n - 1 : Nat) : Int)))]) (rest := []) (z := bz (r_mu M nl (a + n - 1)) inferInstance) ⟨hx, hb, hml, hown, hg⟩ (r_mustEnd l (a + n - 1) nl (by omega) hn hn6 hL hZ hz) (cwV 1 hg (gt_V (List.mem_append_right _ (List.mem_append_right _ (List.mem_append_right _ (List.mem_append_right _ (List.mem_append_right _ (List.mem_append_right _ (List.mem_append_right _ (List.mem_append_right _ (List.mem_append_right _ (List.mem_append_right _ (List.mem_append_right _ (List.mem_append_right _ (List.mem_append_right _ (List.mem_append_right _ (List.mem_append_right _ (List.mem_append_right _ (List.mem_append_left _ (List.mem_of_getElem? (i := 36) rfl)))))))))))))))))) (List.mem_append_right _ (List.mem_append_right _ (List.mem_append_right _ (List.mem_append_right _ (List.mem_append_right _ (List.mem_append_right _ (List.mem_append_right _ (List.mem_append_right _ (List.mem_append_right _ (List.mem_append_right _ (List.mem_append_right _ (List.mem_append_right _ (List.mem_append_right _ (List.mem_append_right _ (List.mem_append_right _ (List.mem_append_right _ (List.mem_append_left _ (List.mem_of_getElem? (i := 37) rfl)))))))))))))))))) (List.mem_append_left _ (List.mem_of_getElem? (i := 38) rfl)) (List.mem_append_right _ (List.mem_append_left _ (List.mem_of_getElem? (i := 9) rfl))) (List.mem_append_right _ (List.mem_append_right _ (List.mem_append_right _ (List.mem_append_right _ (List.mem_append_right _ (List.mem_append_right _ (List.mem_append_right _ (List.mem_append_right _ (List.mem_append_right _ (List.mem_append_right _ (List.mem_append_right _ (List.mem_append_right _ (List.mem_append_right _ (List.mem_append_right _ (List.mem_append_right _ (List.mem_append_right _ (List.mem_append_left _ (List.mem_of_getElem? (i := 38) rfl))))))))))))))))))) rfl rfl rfl (by decide +kernel) ⟨Nat.le_of_ble_eq_true rfl, Nat.le_of_ble_eq_true rfl⟩) hK hP (va_recv hK hP (ci := 7) (q0 := 0) rfl (wl_atE (by decide) rfl)) rfl hl.1 rfl (Nat.le_of_ble_eq_true rfl) d_MO_filled_98 ⟨Nat.zero_le _, Nat.zero_le _⟩ ?_
      refine z_ifb_eq hx hb (tgt := 107) d_MO_filled_101 (by decide) (fun c_101 => ?_) (fun c_101 => ?_)
      · refine z_iinc (v := ((n + 1 : Nat) : Int)) (lv' := [(5, .int (iI (((n + 1 : Nat) : Int)))), (2, .int (iI (((can : Nat) : Int)))), (0, .ref (ad (0))), (1, .int (iI (((a : Nat) : Int))))]) hx hb d_MO_filled_107 hl (k := 0) rfl (by omega) (by decide) rfl (fun ls hl => ?_)
        refine lv_goto (tgt := 85) hx hb d_MO_filled_110 (by decide) ?_
        exact ih (n + 1) ls (by omega) (by omega) (by rw [← he]; conv => rhs; unfold r_fm; rw [if_neg c_101]) hl
      · refine lv_iload hx hb d_MO_filled_104 (lv_at hl 0 rfl) ?_
        have he : n = t := by rw [← he]; unfold r_fm; rw [if_pos c_101]
        subst he
        exact kk ls (by omega)
set_option maxHeartbeats 4000000 in
set_option maxRecDepth 100000 in
theorem lr_filled3 {p : Program} {l : Launch} {e : Env} {s : State} {m : MethodId} {args : Array Value} {below : List Frame} {meth : Method} {c : Code} {H : Heap} {locs : List Loc} {Q : State → Prop} {D : va_G} {ad : Nat → Nat} {cs : ClassId} {M : Nat → Nat → Int} (hx : p.tables.exec = Jvm.exec) (hb : c.code = b_MO_filled) (hml : c.maxLocals = 6) (hg : ∀ w ∈ gt, w.before args s = true) (hown : s.vm.findClass R_MO = some m.cls) (hK : va_K D vwCl (mo_tys cs) s) (hP : va_P D vwCl (mo_w ad cs M) H) (a nl : Nat) (hn : M 0 16 = ((nl : Nat) : Int)) (hn6 : nl < 640) (ha : a < nl) (hL : rL M) (hZ : rZ M) (can t : Nat) (hcan : a + can < nl) (kk : ∀ (ls : Array Slot), W p l e ({ frames := 2, cells := 0, slots := 0, locals := 44 } : Room) s m args below meth c H locs 0 0 Q (F0 m 148 ls [.int (iI ((t : Nat) : Int))])) (kk2 : ∀ (ls : Array Slot), W p l e ({ frames := 2, cells := 0, slots := 0, locals := 44 } : Room) s m args below meth c H locs 0 0 Q (F0 m 156 ls [.int (iI ((t : Nat) : Int))])) : ∀ (f : Nat) (ls : Array Slot), f ≤ can → r_dn M a nl can f = t → lv_has ls 6 [(5, .int (iI (((f : Nat) : Int)))), (2, .int (iI (((can : Nat) : Int)))), (0, .ref (ad (0))), (1, .int (iI (((a : Nat) : Int))))] → W p l e ({ frames := 2, cells := 0, slots := 0, locals := 44 } : Room) s m args below meth c H locs 0 0 Q (F0 m 128 ls []) := by
  intro f
  induction f with
  | zero =>
    intro ls hf he hl
    refine lv_iload hx hb d_MO_filled_128 (lv_at hl 0 rfl) ?_
    refine z_if_le hx hb (tgt := 155) d_MO_filled_130 (by decide) ⟨by omega, by omega⟩ (fun c_130 => ?_) (fun c_130 => ?_)
    · refine lv_iload_n hx hb d_MO_filled_155 rfl (lv_at hl 1 rfl) ?_
      have he : can = t := he
      subst he
      exact kk2 ls
    · exact absurd c_130 (by omega)
  | succ f ih =>
    intro ls hf he hl
    refine lv_iload hx hb d_MO_filled_128 (lv_at hl 0 rfl) ?_
    refine z_if_le hx hb (tgt := 155) d_MO_filled_130 (by decide) ⟨by omega, by omega⟩ (fun c_130 => ?_) (fun c_130 => ?_)
    · refine lv_iload_n hx hb d_MO_filled_155 rfl (lv_at hl 1 rfl) ?_
      exact absurd c_130 (by omega)
    · refine lv_aload_n hx hb d_MO_filled_133 rfl (lv_at hl 2 rfl) ?_
      refine lv_iload_n hx hb d_MO_filled_134 rfl (lv_at hl 3 rfl) ?_
      refine lv_iload hx hb d_MO_filled_135 (lv_at hl 0 rfl) ?_
      refine z_iadd hx hb d_MO_filled_137 (v := ((a + f + 1 : Nat) : Int)) (by omega) ?_
      refine z_iconst hx hb (z := 1) d_MO_filled_138 ?_
      refine z_isub hx hb d_MO_filled_139 (v := ((a + f : Nat) : Int)) (by omega) ?_
      refine ro_V (As := [.int (iI (((a + f : Nat) : Int)))]) (rest := []) (z := bz (r_ma M nl (a + f)) inferInstance) ⟨hx, hb, hml, hown, hg⟩ (r_mayEnd l (a + f) nl (by omega) hn hn6 hL hZ) (cwV 1 hg (gt_V (List.mem_append_right _ (List.mem_append_right _ (List.mem_append_right _ (List.mem_append_right _ (List.mem_append_right _ (List.mem_append_right _ (List.mem_append_right _ (List.mem_append_right _ (List.mem_append_right _ (List.mem_append_right _ (List.mem_append_right _ (List.mem_append_right _ (List.mem_append_right _ (List.mem_append_right _ (List.mem_append_right _ (List.mem_append_right _ (List.mem_append_left _ (List.mem_of_getElem? (i := 39) rfl)))))))))))))))))) (List.mem_append_right _ (List.mem_append_right _ (List.mem_append_right _ (List.mem_append_right _ (List.mem_append_right _ (List.mem_append_right _ (List.mem_append_right _ (List.mem_append_right _ (List.mem_append_right _ (List.mem_append_right _ (List.mem_append_right _ (List.mem_append_right _ (List.mem_append_right _ (List.mem_append_right _ (List.mem_append_right _ (List.mem_append_right _ (List.mem_append_right _ (List.mem_of_getElem? (i := 0) rfl)))))))))))))))))) (List.mem_append_left _ (List.mem_of_getElem? (i := 39) rfl)) (List.mem_append_right _ (List.mem_append_left _ (List.mem_of_getElem? (i := 9) rfl))) (List.mem_append_right _ (List.mem_append_right _ (List.mem_append_right _ (List.mem_append_right _ (List.mem_append_right _ (List.mem_append_right _ (List.mem_append_right _ (List.mem_append_right _ (List.mem_append_right _ (List.mem_append_right _ (List.mem_append_right _ (List.mem_append_right _ (List.mem_append_right _ (List.mem_append_right _ (List.mem_append_right _ (List.mem_append_right _ (List.mem_append_right _ (List.mem_of_getElem? (i := 1) rfl))))))))))))))))))) rfl rfl rfl (by decide +kernel) ⟨Nat.le_of_ble_eq_true rfl, Nat.le_of_ble_eq_true rfl⟩) hK hP (va_recv hK hP (ci := 7) (q0 := 0) rfl (wl_atE (by decide) rfl)) rfl hl.1 rfl (Nat.le_of_ble_eq_true rfl) d_MO_filled_140 ⟨Nat.zero_le _, Nat.zero_le _⟩ ?_
      refine z_ifb_eq hx hb (tgt := 149) d_MO_filled_143 (by decide) (fun c_143 => ?_) (fun c_143 => ?_)
      · refine z_iinc (v := ((f : Nat) : Int)) (lv' := [(5, .int (iI (((f : Nat) : Int)))), (2, .int (iI (((can : Nat) : Int)))), (0, .ref (ad (0))), (1, .int (iI (((a : Nat) : Int))))]) hx hb d_MO_filled_149 hl (k := 0) rfl (by omega) (by decide) rfl (fun ls hl => ?_)
        refine lv_goto (tgt := 128) hx hb d_MO_filled_152 (by decide) ?_
        exact ih ls (by omega) (by rw [← he]; conv => rhs; unfold r_dn; rw [if_neg c_143]) hl
      · refine lv_iload hx hb d_MO_filled_146 (lv_at hl 0 rfl) ?_
        have he : f + 1 = t := by rw [← he]; unfold r_dn; rw [if_pos c_143]
        subst he
        exact kk ls
set_option maxHeartbeats 4000000 in
set_option maxRecDepth 100000 in
/-- filled -/
theorem r_filled (l : Launch) {D : va_G} {ad : Nat → Nat} {cs : ClassId} {M : Nat → Nat → Int} (a nl : Nat) (hn : M 0 16 = ((nl : Nat) : Int)) (hn6 : nl < 640) (ha : a < nl) (hL : rL M) (hZ : rZ M) (hT : rT M) : Met l y_MO_filled ws_MO_filled ({ frames := 2, cells := 0, slots := 0, locals := 44 } : Room) (va_Pc [.ref (ad (0)), .int (iI (((a : Nat) : Int)))] (ro_B D vwCl (mo_tys cs) (mo_w ad cs M))) (vp_Si (fun r => r = iI (((r_fil M a nl : Nat) : Int)))) 0 0 (fun _ => False) := by
  refine Met.ofW (cc := b_MO_filled) (maxL := 6) (ret := (some .int)) (by decide) rfl ?_
  intro p e s m args below meth c s₁ B hml hv
  obtain ⟨rfl, hP, hK⟩ := hv
  have hx := B.exec
  have hb := B.bytes
  have hr := B.returns
  have hts := atoms_spec (ws := ws_MO_filled) B.pre
  have hg : ∀ w ∈ gt, w.before _ s = true := fun w h => hts w (List.mem_cons_of_mem _ h)
  have hown : s.vm.findClass R_MO = some m.cls := findClass_of_methodNamed B.named
  have hlocks := B.notSynchronized
  have hl := lv_entry ([.ref (ad (0)), .int (iI (((a : Nat) : Int)))]) (n := 6) (Nat.le_of_ble_eq_true rfl)
  rw [lg_entry_eq]
  generalize (lg_sl ([.ref (ad (0)), .int (iI (((a : Nat) : Int)))]) ++ List.replicate (6 - (lg_sl ([.ref (ad (0)), .int (iI (((a : Nat) : Int)))])).length) Slot.unset).toArray = ls at hl ⊢
  have hl : lv_has ls 6 [(0, .ref (ad (0))), (1, .int (iI (((a : Nat) : Int))))] := hl
  have hcb := r_can0_b M ha
  obtain ⟨can, ecan⟩ : ∃ q_, q_ = r_can0 M a nl := ⟨_, rfl⟩
  have hha := (hL a).2.2
  rw [← ecan] at hcb
  obtain ⟨t, et⟩ : ∃ q_, q_ = r_fm M a nl can 1 := ⟨_, rfl⟩
  refine z_iconst hx hb (z := 1) d_MO_filled_0 ?_
  refine lv_istore_n (lv' := [(2, .int (iI (1))), (0, .ref (ad (0))), (1, .int (iI (((a : Nat) : Int))))]) hx hb d_MO_filled_1 rfl hl (by decide) rfl (fun ls hl => ?_)
  refine lv_aload_n hx hb d_MO_filled_2 rfl (lv_at hl 1 rfl) ?_
  refine z_get (ci := 7) (C := R_MO) (T := T_MO) (N := 32) (v := .ref (ad (16))) hx hb hg in_MO hown hK hP (0) (by decide) rfl rfl 22 (by decide) (hg _ (List.mem_append_right _ (List.mem_append_right _ (List.mem_append_right _ (List.mem_append_right _ (List.mem_append_right _ (List.mem_append_right _ (List.mem_append_right _ (List.mem_append_right _ (List.mem_append_right _ (List.mem_append_right _ (List.mem_append_right _ (List.mem_append_right _ (List.mem_append_right _ (List.mem_append_left _ (List.mem_of_getElem? (i := 25) rfl)))))))))))))))) (fun _ h9 => h9) rfl d_MO_filled_3 ?_
  refine lv_iload_n hx hb d_MO_filled_6 rfl (lv_at hl 2 rfl) ?_
  refine z_iald hx hb hK hP (16) 0 (by decide) (fun _ => rfl) rfl (a) rfl (by omega) (by decide) d_MO_filled_7 ?_
  refine lv_istore_n (lv' := [(3, .int (iI (M (16) (a)))), (2, .int (iI (1))), (0, .ref (ad (0))), (1, .int (iI (((a : Nat) : Int))))]) hx hb d_MO_filled_8 rfl hl (by decide) rfl (fun ls hl => ?_)
  refine z_iconst hx hb (z := 1) d_MO_filled_9 ?_
  refine lv_istore (lv' := [(4, .int (iI (1))), (3, .int (iI (M (16) (a)))), (2, .int (iI (1))), (0, .ref (ad (0))), (1, .int (iI (((a : Nat) : Int))))]) hx hb d_MO_filled_10 hl (by decide) rfl (fun ls hl => ?_)
  refine lr_filled1 hx hb hml hg hown hK hP a nl hn hn6 ha hL hZ can hT.2.2.2.2.1 (fun ls hl => ?_) (nl - (a + 1)) 1 (M 16 a) ls (by omega) (by omega) (by omega) (by rw [ecan]; rfl) (lv_sub hl [0, 1, 2, 3, 4] rfl)
  refine z_iconst hx hb (z := 1) d_MO_filled_82 ?_
  refine lv_istore (lv' := [(5, .int (iI (1))), (2, .int (iI (((can : Nat) : Int)))), (0, .ref (ad (0))), (1, .int (iI (((a : Nat) : Int))))]) hx hb d_MO_filled_83 hl (by decide) rfl (fun ls hl => ?_)
  refine lr_filled2 hx hb hml hg hown hK hP a nl hn hn6 ha hL hZ can t hcb.2 (zb_6 hT) (fun ls htn => ?_) (fun ls htn hl => ?_) can 1 ls (by omega) (by omega) et.symm (lv_sub hl [0, 1, 2, 3] rfl)
  · exact W.iret (v := iI (((t : Nat) : Int))) hx hb hr (fun t ht hW => ⟨_, rfl, by unfold r_fil; rw [← ecan, ← et, if_pos (by omega)], ht⟩) (fun q h => by cases h) d_MO_filled_106
  · refine lv_iload_n hx hb d_MO_filled_113 rfl (lv_at hl 2 rfl) ?_
    refine lv_iload_n hx hb d_MO_filled_114 rfl (lv_at hl 0 rfl) ?_
    refine z_iadd hx hb d_MO_filled_115 (v := ((a + can : Nat) : Int)) (by omega) ?_
    refine lv_aload_n hx hb d_MO_filled_116 rfl (lv_at hl 1 rfl) ?_
    refine z_get (ci := 7) (C := R_MO) (T := T_MO) (N := 32) (v := .int (iI (M (0) 16))) hx hb hg in_MO hown hK hP (0) (by decide) rfl rfl 16 (by decide) (hg _ (List.mem_append_right _ (List.mem_append_right _ (List.mem_append_right _ (List.mem_append_right _ (List.mem_append_right _ (List.mem_append_right _ (List.mem_append_right _ (List.mem_append_right _ (List.mem_append_right _ (List.mem_append_right _ (List.mem_append_right _ (List.mem_append_right _ (List.mem_append_right _ (List.mem_append_left _ (List.mem_of_getElem? (i := 19) rfl)))))))))))))))) (fun _ h9 => h9) rfl d_MO_filled_117 ?_
    refine z_icmp_ne hx hb (tgt := 125) d_MO_filled_120 (by decide) ⟨by omega, by omega⟩ ⟨by omega, by omega⟩ (fun c_120 => ?_) (fun c_120 => ?_)
    · refine lv_iload_n hx hb d_MO_filled_125 rfl (lv_at hl 0 rfl) ?_
      refine lv_istore (lv' := [(5, .int (iI (((can : Nat) : Int)))), (2, .int (iI (((can : Nat) : Int)))), (0, .ref (ad (0))), (1, .int (iI (((a : Nat) : Int))))]) hx hb d_MO_filled_126 hl (by decide) rfl (fun ls hl => ?_)
      refine lr_filled3 hx hb hml hg hown hK hP a nl hn hn6 ha hL hZ can (r_dn M a nl can can) (by omega) (fun ls => ?_) (fun ls => ?_) can ls (by omega) rfl (lv_sub hl [0, 1, 2, 3] rfl)
      · exact W.iret (v := iI (((r_dn M a nl can can : Nat) : Int))) hx hb hr (fun t ht hW => ⟨_, rfl, by unfold r_fil; rw [← ecan, ← et, if_neg (by omega), if_neg (by omega)], ht⟩) (fun q h => by cases h) d_MO_filled_148
      · exact W.iret (v := iI (((r_dn M a nl can can : Nat) : Int))) hx hb hr (fun t ht hW => ⟨_, rfl, by unfold r_fil; rw [← ecan, ← et, if_neg (by omega), if_neg (by omega)], ht⟩) (fun q h => by cases h) d_MO_filled_156
    · refine lv_iload_n hx hb d_MO_filled_123 rfl (lv_at hl 0 rfl) ?_
      exact W.iret (v := iI (((can : Nat) : Int))) hx hb hr (fun t ht hW => ⟨_, rfl, by unfold r_fil; rw [← ecan, ← et, if_neg (by omega), if_pos (by omega)], ht⟩) (fun q h => by cases h) d_MO_filled_124
