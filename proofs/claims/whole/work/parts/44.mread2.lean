set_option maxHeartbeats 4000000 in
set_option maxRecDepth 100000 in
/-- beginning -/
theorem r_beginning (l : Launch) {D : va_G} {ad : Nat → Nat} {cs : ClassId} {M : Nat → Nat → Int} (q a : Nat) (hq : q < 30) (ha : a ≤ 600) (hs : rS M q) (hb1 : 0 ≤ M 1 q ∧ M 1 q ≤ 600) : Met l y_MO_beginning ws_MO_beginning ({ frames := 0, cells := 0, slots := 0, locals := 0 } : Room) (va_Pc [.ref (ad (0)), .int (iI (((q : Nat) : Int))), .int (iI (((a : Nat) : Int)))] (ro_B D vwCl (mo_tys cs) (mo_w ad cs M))) (vp_Si (fun r => r = iI (r_beg M q a))) 0 0 (fun _ => False) := by
  refine Met.ofW (cc := b_MO_beginning) (maxL := 4) (ret := (some .int)) (by decide) rfl ?_
  intro p e s m args below meth c s₁ B hml hv
  obtain ⟨rfl, hP, hK⟩ := hv
  have hx := B.exec
  have hb := B.bytes
  have hr := B.returns
  have hts := atoms_spec (ws := ws_MO_beginning) B.pre
  have hg : ∀ w ∈ gt, w.before _ s = true := fun w h => hts w (List.mem_cons_of_mem _ h)
  have hown : s.vm.findClass R_MO = some m.cls := findClass_of_methodNamed B.named
  have hlocks := B.notSynchronized
  have hl := lv_entry ([.ref (ad (0)), .int (iI (((q : Nat) : Int))), .int (iI (((a : Nat) : Int)))]) (n := 4) (Nat.le_of_ble_eq_true rfl)
  rw [lg_entry_eq]
  generalize (lg_sl ([.ref (ad (0)), .int (iI (((q : Nat) : Int))), .int (iI (((a : Nat) : Int)))]) ++ List.replicate (4 - (lg_sl ([.ref (ad (0)), .int (iI (((q : Nat) : Int))), .int (iI (((a : Nat) : Int)))])).length) Slot.unset).toArray = ls at hl ⊢
  have hl : lv_has ls 4 [(0, .ref (ad (0))), (1, .int (iI (((q : Nat) : Int)))), (2, .int (iI (((a : Nat) : Int))))] := hl
  obtain ⟨h0, h1, h2⟩ := hs
  refine lv_aload_n hx hb d_MO_beginning_0 rfl (lv_at hl 0 rfl) ?_
  refine z_get (ci := 7) (C := R_MO) (T := T_MO) (N := 32) (v := .ref (ad (2))) hx hb hg in_MO hown hK hP (0) (by decide) rfl rfl 6 (by decide) (hg _ (List.mem_append_right _ (List.mem_append_right _ (List.mem_append_right _ (List.mem_append_right _ (List.mem_append_right _ (List.mem_append_right _ (List.mem_append_right _ (List.mem_append_right _ (List.mem_append_right _ (List.mem_append_right _ (List.mem_append_right _ (List.mem_append_right _ (List.mem_append_right _ (List.mem_append_left _ (List.mem_of_getElem? (i := 9) rfl)))))))))))))))) (fun _ h9 => h9) rfl d_MO_beginning_1 ?_
  refine z_bipush hx hb (z := 11) d_MO_beginning_4 (by decide) ?_
  refine lv_iload_n hx hb d_MO_beginning_6 rfl (lv_at hl 1 rfl) ?_
  refine z_imul hx hb d_MO_beginning_7 (v := ((11 * q : Nat) : Int)) (by omega) ?_
  refine z_iald hx hb hK hP (2) 0 (by decide) (fun _ => rfl) rfl (11 * q) rfl (by omega) (by decide) d_MO_beginning_8 ?_
  refine lv_iload_n hx hb d_MO_beginning_9 rfl (lv_at hl 2 rfl) ?_
  refine lv_aload_n hx hb d_MO_beginning_10 rfl (lv_at hl 0 rfl) ?_
  refine z_get (ci := 7) (C := R_MO) (T := T_MO) (N := 32) (v := .ref (ad (1))) hx hb hg in_MO hown hK hP (0) (by decide) rfl rfl 5 (by decide) (hg _ (List.mem_append_right _ (List.mem_append_right _ (List.mem_append_right _ (List.mem_append_right _ (List.mem_append_right _ (List.mem_append_right _ (List.mem_append_right _ (List.mem_append_right _ (List.mem_append_right _ (List.mem_append_right _ (List.mem_append_right _ (List.mem_append_right _ (List.mem_append_right _ (List.mem_append_left _ (List.mem_of_getElem? (i := 8) rfl)))))))))))))))) (fun _ h9 => h9) rfl d_MO_beginning_11 ?_
  refine lv_iload_n hx hb d_MO_beginning_14 rfl (lv_at hl 1 rfl) ?_
  refine z_iald hx hb hK hP (1) 0 (by decide) (fun _ => rfl) rfl (q) rfl (by omega) (by decide) d_MO_beginning_15 ?_
  refine z_icmp_ne hx hb (tgt := 33) d_MO_beginning_16 (by decide) ⟨by omega, by omega⟩ ⟨by omega, by omega⟩ (fun c_16 => ?_) (fun c_16 => ?_)
  · refine z_iconst hx hb (z := 0) d_MO_beginning_33 ?_
    refine z_iadd hx hb d_MO_beginning_34 (v := (M (2) (11 * q) + 0)) rfl ?_
    refine lv_istore_n (lv' := [(3, .int (iI ((M (2) (11 * q) + 0)))), (0, .ref (ad (0))), (1, .int (iI (((q : Nat) : Int)))), (2, .int (iI (((a : Nat) : Int))))]) hx hb d_MO_beginning_35 rfl hl (by decide) rfl (fun ls hl => ?_)
    refine lv_iload_n hx hb d_MO_beginning_36 rfl (lv_at hl 0 rfl) ?_
    refine z_if_ge hx hb (tgt := 44) d_MO_beginning_37 (by decide) ⟨by omega, by omega⟩ (fun c_37 => ?_) (fun c_37 => ?_)
    · refine lv_iload_n hx hb d_MO_beginning_44 rfl (lv_at hl 0 rfl) ?_
      exact W.iret (v := iI ((M (2) (11 * q) + 0))) hx hb hr (fun t ht hW => ⟨_, rfl, congrArg iI (by unfold r_beg; rw [if_neg c_16]; omega), ht⟩) (fun q h => by cases h) d_MO_beginning_45
    · refine z_iconst hx hb (z := 0) d_MO_beginning_40 ?_
      refine lv_goto (tgt := 45) hx hb d_MO_beginning_41 (by decide) ?_
      exact W.iret (v := iI (0)) hx hb hr (fun t ht hW => ⟨_, rfl, congrArg iI (by unfold r_beg; rw [if_neg c_16]; omega), ht⟩) (fun q h => by cases h) d_MO_beginning_45
  · refine lv_aload_n hx hb d_MO_beginning_19 rfl (lv_at hl 0 rfl) ?_
    refine z_get (ci := 7) (C := R_MO) (T := T_MO) (N := 32) (v := .ref (ad (2))) hx hb hg in_MO hown hK hP (0) (by decide) rfl rfl 6 (by decide) (hg _ (List.mem_append_right _ (List.mem_append_right _ (List.mem_append_right _ (List.mem_append_right _ (List.mem_append_right _ (List.mem_append_right _ (List.mem_append_right _ (List.mem_append_right _ (List.mem_append_right _ (List.mem_append_right _ (List.mem_append_right _ (List.mem_append_right _ (List.mem_append_right _ (List.mem_append_left _ (List.mem_of_getElem? (i := 9) rfl)))))))))))))))) (fun _ h9 => h9) rfl d_MO_beginning_20 ?_
    refine z_bipush hx hb (z := 11) d_MO_beginning_23 (by decide) ?_
    refine lv_iload_n hx hb d_MO_beginning_25 rfl (lv_at hl 1 rfl) ?_
    refine z_imul hx hb d_MO_beginning_26 (v := ((11 * q : Nat) : Int)) (by omega) ?_
    refine z_iconst hx hb (z := 2) d_MO_beginning_27 ?_
    refine z_iadd hx hb d_MO_beginning_28 (v := ((11 * q + 2 : Nat) : Int)) (by omega) ?_
    refine z_iald hx hb hK hP (2) 0 (by decide) (fun _ => rfl) rfl (11 * q + 2) rfl (by omega) (by decide) d_MO_beginning_29 ?_
    refine lv_goto (tgt := 34) hx hb d_MO_beginning_30 (by decide) ?_
    refine z_iadd hx hb d_MO_beginning_34 (v := (M (2) (11 * q) + M (2) (11 * q + 2))) rfl ?_
    refine lv_istore_n (lv' := [(3, .int (iI ((M (2) (11 * q) + M (2) (11 * q + 2))))), (0, .ref (ad (0))), (1, .int (iI (((q : Nat) : Int)))), (2, .int (iI (((a : Nat) : Int))))]) hx hb d_MO_beginning_35 rfl hl (by decide) rfl (fun ls hl => ?_)
    refine lv_iload_n hx hb d_MO_beginning_36 rfl (lv_at hl 0 rfl) ?_
    refine z_if_ge hx hb (tgt := 44) d_MO_beginning_37 (by decide) ⟨by omega, by omega⟩ (fun c_37 => ?_) (fun c_37 => ?_)
    · refine lv_iload_n hx hb d_MO_beginning_44 rfl (lv_at hl 0 rfl) ?_
      exact W.iret (v := iI ((M (2) (11 * q) + M (2) (11 * q + 2)))) hx hb hr (fun t ht hW => ⟨_, rfl, congrArg iI (by unfold r_beg; rw [if_pos c_16]; omega), ht⟩) (fun q h => by cases h) d_MO_beginning_45
    · refine z_iconst hx hb (z := 0) d_MO_beginning_40 ?_
      refine lv_goto (tgt := 45) hx hb d_MO_beginning_41 (by decide) ?_
      exact W.iret (v := iI (0)) hx hb hr (fun t ht hW => ⟨_, rfl, congrArg iI (by unfold r_beg; rw [if_pos c_16]; omega), ht⟩) (fun q h => by cases h) d_MO_beginning_45
set_option maxHeartbeats 4000000 in
set_option maxRecDepth 100000 in
/-- room -/
theorem r_roomc (l : Launch) {D : va_G} {ad : Nat → Nat} {cs : ClassId} {M : Nat → Nat → Int} (q : Nat) (hq : q < 30) : Met l y_MO_room ws_MO_room ({ frames := 0, cells := 0, slots := 0, locals := 0 } : Room) (va_Pc [.ref (ad (0)), .int (iI (((q : Nat) : Int)))] (ro_B D vwCl (mo_tys cs) (mo_w ad cs M))) (vp_Si (fun r => r = iI (r_room M q))) 0 0 (fun _ => False) := by
  refine Met.ofW (cc := b_MO_room) (maxL := 2) (ret := (some .int)) (by decide) rfl ?_
  intro p e s m args below meth c s₁ B hml hv
  obtain ⟨rfl, hP, hK⟩ := hv
  have hx := B.exec
  have hb := B.bytes
  have hr := B.returns
  have hts := atoms_spec (ws := ws_MO_room) B.pre
  have hg : ∀ w ∈ gt, w.before _ s = true := fun w h => hts w (List.mem_cons_of_mem _ h)
  have hown : s.vm.findClass R_MO = some m.cls := findClass_of_methodNamed B.named
  have hlocks := B.notSynchronized
  have hl := lv_entry ([.ref (ad (0)), .int (iI (((q : Nat) : Int)))]) (n := 2) (Nat.le_of_ble_eq_true rfl)
  rw [lg_entry_eq]
  generalize (lg_sl ([.ref (ad (0)), .int (iI (((q : Nat) : Int)))]) ++ List.replicate (2 - (lg_sl ([.ref (ad (0)), .int (iI (((q : Nat) : Int)))])).length) Slot.unset).toArray = ls at hl ⊢
  have hl : lv_has ls 2 [(0, .ref (ad (0))), (1, .int (iI (((q : Nat) : Int))))] := hl
  refine lv_aload_n hx hb d_MO_room_0 rfl (lv_at hl 0 rfl) ?_
  refine z_get (ci := 7) (C := R_MO) (T := T_MO) (N := 32) (v := .int (iI (M (0) 1))) hx hb hg in_MO hown hK hP (0) (by decide) rfl rfl 1 (by decide) (hg _ (List.mem_append_right _ (List.mem_append_right _ (List.mem_append_right _ (List.mem_append_right _ (List.mem_append_right _ (List.mem_append_right _ (List.mem_append_right _ (List.mem_append_right _ (List.mem_append_right _ (List.mem_append_right _ (List.mem_append_right _ (List.mem_append_right _ (List.mem_append_right _ (List.mem_append_left _ (List.mem_of_getElem? (i := 4) rfl)))))))))))))))) (fun _ h9 => h9) rfl d_MO_room_1 ?_
  refine lv_aload_n hx hb d_MO_room_4 rfl (lv_at hl 0 rfl) ?_
  refine z_get (ci := 7) (C := R_MO) (T := T_MO) (N := 32) (v := .ref (ad (2))) hx hb hg in_MO hown hK hP (0) (by decide) rfl rfl 6 (by decide) (hg _ (List.mem_append_right _ (List.mem_append_right _ (List.mem_append_right _ (List.mem_append_right _ (List.mem_append_right _ (List.mem_append_right _ (List.mem_append_right _ (List.mem_append_right _ (List.mem_append_right _ (List.mem_append_right _ (List.mem_append_right _ (List.mem_append_right _ (List.mem_append_right _ (List.mem_append_left _ (List.mem_of_getElem? (i := 9) rfl)))))))))))))))) (fun _ h9 => h9) rfl d_MO_room_5 ?_
  refine z_bipush hx hb (z := 11) d_MO_room_8 (by decide) ?_
  refine lv_iload_n hx hb d_MO_room_10 rfl (lv_at hl 1 rfl) ?_
  refine z_imul hx hb d_MO_room_11 (v := ((11 * q : Nat) : Int)) (by omega) ?_
  refine z_iconst hx hb (z := 1) d_MO_room_12 ?_
  refine z_iadd hx hb d_MO_room_13 (v := ((11 * q + 1 : Nat) : Int)) (by omega) ?_
  refine z_iald hx hb hK hP (2) 0 (by decide) (fun _ => rfl) rfl (11 * q + 1) rfl (by omega) (by decide) d_MO_room_14 ?_
  refine z_isub hx hb d_MO_room_15 (v := (M (0) 1 - M (2) (11 * q + 1))) rfl ?_
  exact W.iret (v := iI ((M (0) 1 - M (2) (11 * q + 1)))) hx hb hr (fun t ht hW => ⟨_, rfl, rfl, ht⟩) (fun q h => by cases h) d_MO_room_16
set_option maxHeartbeats 4000000 in
set_option maxRecDepth 100000 in
/-- breaks -/
theorem r_breaks (l : Launch) {D : va_G} {ad : Nat → Nat} {cs : ClassId} {M : Nat → Nat → Int} (q b : Nat) (hq : q < 30) (hb1 : 1 ≤ b) (hbe : ((b : Nat) : Int) ≤ M 1 (q + 1)) (he6 : M 1 (q + 1) ≤ 600) (hz : ∀ j, zb (M 6 j)) : Met l y_MO_breaks ws_MO_breaks ({ frames := 1, cells := 0, slots := 0, locals := 21 } : Room) (va_Pc [.ref (ad (0)), .int (iI (((q : Nat) : Int))), .int (iI (((b : Nat) : Int)))] (ro_B D vwCl (mo_tys cs) (mo_w ad cs M))) (vp_Si (fun r => r = iI (bz (r_brk (M 6) (M 1 (q + 1)) b) inferInstance))) 0 0 (fun _ => False) := by
  refine Met.ofW (cc := b_MO_breaks) (maxL := 4) (ret := (some .boolean)) (by decide) rfl ?_
  intro p e s m args below meth c s₁ B hml hv
  obtain ⟨rfl, hP, hK⟩ := hv
  have hx := B.exec
  have hb := B.bytes
  have hr := B.returns
  have hts := atoms_spec (ws := ws_MO_breaks) B.pre
  have hg : ∀ w ∈ gt, w.before _ s = true := fun w h => hts w (List.mem_cons_of_mem _ h)
  have hown : s.vm.findClass R_MO = some m.cls := findClass_of_methodNamed B.named
  have hlocks := B.notSynchronized
  have hl := lv_entry ([.ref (ad (0)), .int (iI (((q : Nat) : Int))), .int (iI (((b : Nat) : Int)))]) (n := 4) (Nat.le_of_ble_eq_true rfl)
  rw [lg_entry_eq]
  generalize (lg_sl ([.ref (ad (0)), .int (iI (((q : Nat) : Int))), .int (iI (((b : Nat) : Int)))]) ++ List.replicate (4 - (lg_sl ([.ref (ad (0)), .int (iI (((q : Nat) : Int))), .int (iI (((b : Nat) : Int)))])).length) Slot.unset).toArray = ls at hl ⊢
  have hl : lv_has ls 4 [(0, .ref (ad (0))), (1, .int (iI (((q : Nat) : Int)))), (2, .int (iI (((b : Nat) : Int))))] := hl
  refine lv_aload_n hx hb d_MO_breaks_0 rfl (lv_at hl 0 rfl) ?_
  refine z_get (ci := 7) (C := R_MO) (T := T_MO) (N := 32) (v := .ref (ad (6))) hx hb hg in_MO hown hK hP (0) (by decide) rfl rfl 10 (by decide) (hg _ (List.mem_append_right _ (List.mem_append_right _ (List.mem_append_right _ (List.mem_append_right _ (List.mem_append_right _ (List.mem_append_right _ (List.mem_append_right _ (List.mem_append_right _ (List.mem_append_right _ (List.mem_append_right _ (List.mem_append_right _ (List.mem_append_right _ (List.mem_append_right _ (List.mem_append_left _ (List.mem_of_getElem? (i := 13) rfl)))))))))))))))) (fun _ h9 => h9) rfl d_MO_breaks_1 ?_
  refine lv_iload_n hx hb d_MO_breaks_4 rfl (lv_at hl 2 rfl) ?_
  refine z_iconst hx hb (z := 1) d_MO_breaks_5 ?_
  refine z_isub hx hb d_MO_breaks_6 (v := ((b - 1 : Nat) : Int)) (by omega) ?_
  refine z_iald hx hb hK hP (6) 0 (by decide) (fun _ => rfl) rfl (b - 1) rfl (by omega) (by decide) d_MO_breaks_7 ?_
  refine lv_istore_n (lv' := [(3, .int (iI (M (6) (b - 1)))), (0, .ref (ad (0))), (1, .int (iI (((q : Nat) : Int)))), (2, .int (iI (((b : Nat) : Int))))]) hx hb d_MO_breaks_8 rfl hl (by decide) rfl (fun ls hl => ?_)
  refine lv_iload_n hx hb d_MO_breaks_9 rfl (lv_at hl 3 rfl) ?_
  refine lv_aload_n hx hb d_MO_breaks_10 rfl (lv_at hl 1 rfl) ?_
  refine z_get (ci := 7) (C := R_MO) (T := T_MO) (N := 32) (v := .ref (ad (1))) hx hb hg in_MO hown hK hP (0) (by decide) rfl rfl 5 (by decide) (hg _ (List.mem_append_right _ (List.mem_append_right _ (List.mem_append_right _ (List.mem_append_right _ (List.mem_append_right _ (List.mem_append_right _ (List.mem_append_right _ (List.mem_append_right _ (List.mem_append_right _ (List.mem_append_right _ (List.mem_append_right _ (List.mem_append_right _ (List.mem_append_right _ (List.mem_append_left _ (List.mem_of_getElem? (i := 8) rfl)))))))))))))))) (fun _ h9 => h9) rfl d_MO_breaks_11 ?_
  refine lv_iload_n hx hb d_MO_breaks_14 rfl (lv_at hl 2 rfl) ?_
  refine z_iconst hx hb (z := 1) d_MO_breaks_15 ?_
  refine z_iadd hx hb d_MO_breaks_16 (v := ((q + 1 : Nat) : Int)) (by omega) ?_
  refine z_iald hx hb hK hP (1) 0 (by decide) (fun _ => rfl) rfl (q + 1) rfl (by omega) (by decide) d_MO_breaks_17 ?_
  refine z_icmp_eq hx hb (tgt := 56) d_MO_breaks_18 (by decide) ⟨by omega, by omega⟩ ⟨by omega, by omega⟩ (fun c_18 => ?_) (fun c_18 => ?_)
  · refine z_iconst hx hb (z := 1) d_MO_breaks_56 ?_
    refine lv_goto (tgt := 61) hx hb d_MO_breaks_57 (by decide) ?_
    exact W.zret (v := iI (1)) hx hb hr (by first | rfl | decide) (fun t ht hW => ⟨_, rfl, by first | (rw [bz_t (by omega)]; done) | (rw [bz_f (by omega)]; done), ht⟩) (fun q h => by cases h) d_MO_breaks_61
  · refine lv_iload_n hx hb d_MO_breaks_21 rfl (lv_at hl 0 rfl) ?_
    refine z_iconst hx hb (z := 1) d_MO_breaks_22 ?_
    refine z_icmp_eq hx hb (tgt := 56) d_MO_breaks_23 (by decide) (hz _) ⟨by decide, by decide⟩ (fun c_23 => ?_) (fun c_23 => ?_)
    · refine z_iconst hx hb (z := 1) d_MO_breaks_56 ?_
      refine lv_goto (tgt := 61) hx hb d_MO_breaks_57 (by decide) ?_
      exact W.zret (v := iI (1)) hx hb hr (by first | rfl | decide) (fun t ht hW => ⟨_, rfl, by first | (rw [bz_t (by omega)]; done) | (rw [bz_f (by omega)]; done), ht⟩) (fun q h => by cases h) d_MO_breaks_61
    · refine lv_iload_n hx hb d_MO_breaks_26 rfl (lv_at hl 0 rfl) ?_
      refine z_iconst hx hb (z := 3) d_MO_breaks_27 ?_
      refine z_icmp_eq hx hb (tgt := 56) d_MO_breaks_28 (by decide) (hz _) ⟨by decide, by decide⟩ (fun c_28 => ?_) (fun c_28 => ?_)
      · refine z_iconst hx hb (z := 1) d_MO_breaks_56 ?_
        refine lv_goto (tgt := 61) hx hb d_MO_breaks_57 (by decide) ?_
        exact W.zret (v := iI (1)) hx hb hr (by first | rfl | decide) (fun t ht hW => ⟨_, rfl, by first | (rw [bz_t (by omega)]; done) | (rw [bz_f (by omega)]; done), ht⟩) (fun q h => by cases h) d_MO_breaks_61
      · refine lv_iload_n hx hb d_MO_breaks_31 rfl (lv_at hl 0 rfl) ?_
        refine z_iconst hx hb (z := 4) d_MO_breaks_32 ?_
        refine z_icmp_eq hx hb (tgt := 56) d_MO_breaks_33 (by decide) (hz _) ⟨by decide, by decide⟩ (fun c_33 => ?_) (fun c_33 => ?_)
        · refine z_iconst hx hb (z := 1) d_MO_breaks_56 ?_
          refine lv_goto (tgt := 61) hx hb d_MO_breaks_57 (by decide) ?_
          exact W.zret (v := iI (1)) hx hb hr (by first | rfl | decide) (fun t ht hW => ⟨_, rfl, by first | (rw [bz_t (by omega)]; done) | (rw [bz_f (by omega)]; done), ht⟩) (fun q h => by cases h) d_MO_breaks_61
        · refine lv_aload_n hx hb d_MO_breaks_36 rfl (lv_at hl 1 rfl) ?_
          refine lv_iload_n hx hb d_MO_breaks_37 rfl (lv_at hl 3 rfl) ?_
          refine z_iconst hx hb (z := 1) d_MO_breaks_38 ?_
          refine z_isub hx hb d_MO_breaks_39 (v := ((b - 1 : Nat) : Int)) (by omega) ?_
          refine ro_V (As := [.int (iI (((b - 1 : Nat) : Int)))]) (rest := []) (z := bz (p_endl (M 6) (b - 1)) inferInstance) ⟨hx, hb, hml, hown, hg⟩ (r_isEnd l (b - 1) (by omega) hz) (cwV 1 hg (gt_V (List.mem_append_right _ (List.mem_append_right _ (List.mem_append_right _ (List.mem_append_right _ (List.mem_append_right _ (List.mem_append_right _ (List.mem_append_right _ (List.mem_append_right _ (List.mem_append_right _ (List.mem_append_right _ (List.mem_append_right _ (List.mem_append_right _ (List.mem_append_right _ (List.mem_append_right _ (List.mem_append_right _ (List.mem_append_left _ (List.mem_of_getElem? (i := 37) rfl))))))))))))))))) (List.mem_append_right _ (List.mem_append_right _ (List.mem_append_right _ (List.mem_append_right _ (List.mem_append_right _ (List.mem_append_right _ (List.mem_append_right _ (List.mem_append_right _ (List.mem_append_right _ (List.mem_append_right _ (List.mem_append_right _ (List.mem_append_right _ (List.mem_append_right _ (List.mem_append_right _ (List.mem_append_right _ (List.mem_append_left _ (List.mem_of_getElem? (i := 38) rfl))))))))))))))))) (List.mem_append_left _ (List.mem_of_getElem? (i := 25) rfl)) (List.mem_append_right _ (List.mem_append_left _ (List.mem_of_getElem? (i := 9) rfl))) (List.mem_append_right _ (List.mem_append_right _ (List.mem_append_right _ (List.mem_append_right _ (List.mem_append_right _ (List.mem_append_right _ (List.mem_append_right _ (List.mem_append_right _ (List.mem_append_right _ (List.mem_append_right _ (List.mem_append_right _ (List.mem_append_right _ (List.mem_append_right _ (List.mem_append_right _ (List.mem_append_right _ (List.mem_append_left _ (List.mem_of_getElem? (i := 39) rfl)))))))))))))))))) rfl rfl rfl (by decide +kernel) ⟨Nat.le_of_ble_eq_true rfl, Nat.le_of_ble_eq_true rfl⟩) hK hP (va_recv hK hP (ci := 7) (q0 := 0) rfl (wl_atE (by decide) rfl)) rfl hl.1 rfl (Nat.le_of_ble_eq_true rfl) d_MO_breaks_40 ⟨Nat.zero_le _, Nat.zero_le _⟩ ?_
          refine z_ifb_ne hx hb (tgt := 56) d_MO_breaks_43 (by decide) (fun c_43 => ?_) (fun c_43 => ?_)
          · refine z_iconst hx hb (z := 1) d_MO_breaks_56 ?_
            refine lv_goto (tgt := 61) hx hb d_MO_breaks_57 (by decide) ?_
            exact W.zret (v := iI (1)) hx hb hr (by first | rfl | decide) (fun t ht hW => ⟨_, rfl, by first | (rw [bz_t (by omega)]; done) | (rw [bz_f (by omega)]; done), ht⟩) (fun q h => by cases h) d_MO_breaks_61
          · refine lv_aload_n hx hb d_MO_breaks_46 rfl (lv_at hl 1 rfl) ?_
            refine z_get (ci := 7) (C := R_MO) (T := T_MO) (N := 32) (v := .ref (ad (6))) hx hb hg in_MO hown hK hP (0) (by decide) rfl rfl 10 (by decide) (hg _ (List.mem_append_right _ (List.mem_append_right _ (List.mem_append_right _ (List.mem_append_right _ (List.mem_append_right _ (List.mem_append_right _ (List.mem_append_right _ (List.mem_append_right _ (List.mem_append_right _ (List.mem_append_right _ (List.mem_append_right _ (List.mem_append_right _ (List.mem_append_right _ (List.mem_append_left _ (List.mem_of_getElem? (i := 13) rfl)))))))))))))))) (fun _ h9 => h9) rfl d_MO_breaks_47 ?_
            refine lv_iload_n hx hb d_MO_breaks_50 rfl (lv_at hl 3 rfl) ?_
            refine z_iald hx hb hK hP (6) 0 (by decide) (fun _ => rfl) rfl (b) rfl (by omega) (by decide) d_MO_breaks_51 ?_
            refine z_iconst hx hb (z := 2) d_MO_breaks_52 ?_
            refine z_icmp_ne hx hb (tgt := 60) d_MO_breaks_53 (by decide) (hz _) ⟨by decide, by decide⟩ (fun c_53 => ?_) (fun c_53 => ?_)
            · refine z_iconst hx hb (z := 0) d_MO_breaks_60 ?_
              exact W.zret (v := iI (0)) hx hb hr (by first | rfl | decide) (fun t ht hW => ⟨_, rfl, by first | (rw [bz_t (by omega)]; done) | (rw [bz_f (by omega)]; done), ht⟩) (fun q h => by cases h) d_MO_breaks_61
            · refine z_iconst hx hb (z := 1) d_MO_breaks_56 ?_
              refine lv_goto (tgt := 61) hx hb d_MO_breaks_57 (by decide) ?_
              exact W.zret (v := iI (1)) hx hb hr (by first | rfl | decide) (fun t ht hW => ⟨_, rfl, by first | (rw [bz_t (by omega)]; done) | (rw [bz_f (by omega)]; done), ht⟩) (fun q h => by cases h) d_MO_breaks_61
set_option maxHeartbeats 4000000 in
set_option maxRecDepth 100000 in
theorem lr_measure {p : Program} {l : Launch} {e : Env} {s : State} {m : MethodId} {args : Array Value} {below : List Frame} {meth : Method} {c : Code} {Q : State → Prop} {A : Nat → Prop} {H0 : Heap} {D : va_G} {ad : Nat → Nat} {cs : ClassId} {M : Nat → Nat → Int} (hx : p.tables.exec = Jvm.exec) (hb : c.code = b_MO_measure) (hml : c.maxLocals = 8) (hg : ∀ w ∈ gt, w.before args s = true) (hown : s.vm.findClass R_MO = some m.cls) (hK : va_K D vwCl (mo_tys cs) s) (hA : ∀ q, H0.size ≤ q → A q) (q n a b so : Nat) (hb6 : b ≤ 600) (hso : so ≤ 600) (hp : rP M q n) (ht : rT M) (res : Int × (Nat → Nat → Int)) (kk : ∀ (H : Heap) (locs : List Loc) (ls : Array Slot), va_P D vwCl (mo_w ad cs res.2) H → va_D A (mo_w ad cs res.2) → va_S A H0 H locs → lv_has ls 8 [(6, .int (iI res.1))] → W p l e ({ frames := 3, cells := 0, slots := 0, locals := 74 } : Room) s m args below meth c H locs 0 0 Q (F0 m 116 ls [])) : ∀ (f k : Nat) (x en : Int) (Mc : Nat → Nat → Int), (k + f = b ∨ (f = 0 ∧ b ≤ k)) → k ≤ 600 → 0 ≤ x → x + 60000 * ((f : Nat) : Int) ≤ 39000000 → eqb 9 10 Mc M → r_ms (M 6) (M 7) (r_tabs M q n) so b f k x en Mc = res → ∀ (H : Heap) (locs : List Loc) (ls : Array Slot), va_P D vwCl (mo_w ad cs Mc) H → va_D A (mo_w ad cs Mc) → va_S A H0 H locs → lv_has ls 8 [(7, .int (iI (((k : Nat) : Int)))), (6, .int (iI (en))), (5, .int (iI (x))), (4, .int (iI (((so : Nat) : Int)))), (0, .ref (ad (0))), (1, .int (iI (((q : Nat) : Int)))), (2, .int (iI (((a : Nat) : Int)))), (3, .int (iI (((b : Nat) : Int))))] → W p l e ({ frames := 3, cells := 0, slots := 0, locals := 74 } : Room) s m args below meth c H locs 0 0 Q (F0 m 23 ls []) := by
  obtain ⟨hq, hn, hs, hz4, hz5⟩ := id hp
  have hst := ht.2.2.2.2.2
  intro f
  induction f with
  | zero =>
    intro k x en Mc hkf hk6 hx0 hxB hsm he H locs ls hP hD hS hl
    refine lv_iload hx hb d_MO_measure_23 (lv_at hl 0 rfl) ?_
    refine lv_iload_n hx hb d_MO_measure_25 rfl (lv_at hl 7 rfl) ?_
    refine z_icmp_ge hx hb (tgt := 116) d_MO_measure_26 (by decide) ⟨by omega, by omega⟩ ⟨by omega, by omega⟩ (fun c_26 => ?_) (fun c_26 => ?_)
    · have he : (en, Mc) = res := he
      subst he
      exact kk H locs ls hP hD hS (lv_sub hl [1] rfl)
    · exact absurd c_26 (by omega)
  | succ f ih =>
    intro k x en Mc hkf hk6 hx0 hxB hsm he H locs ls hP hD hS hl
    refine lv_iload hx hb d_MO_measure_23 (lv_at hl 0 rfl) ?_
    refine lv_iload_n hx hb d_MO_measure_25 rfl (lv_at hl 7 rfl) ?_
    refine z_icmp_ge hx hb (tgt := 116) d_MO_measure_26 (by decide) ⟨by omega, by omega⟩ ⟨by omega, by omega⟩ (fun c_26 => ?_) (fun c_26 => ?_)
    · exact absurd c_26 (by omega)
    · refine lv_aload_n hx hb d_MO_measure_29 rfl (lv_at hl 4 rfl) ?_
      refine z_get (ci := 7) (C := R_MO) (T := T_MO) (N := 32) (v := .ref (ad (9))) hx hb hg in_MO hown hK hP (0) (by decide) rfl rfl 13 (by decide) (hg _ (List.mem_append_right _ (List.mem_append_right _ (List.mem_append_right _ (List.mem_append_right _ (List.mem_append_right _ (List.mem_append_right _ (List.mem_append_right _ (List.mem_append_right _ (List.mem_append_right _ (List.mem_append_right _ (List.mem_append_right _ (List.mem_append_right _ (List.mem_append_right _ (List.mem_append_left _ (List.mem_of_getElem? (i := 16) rfl)))))))))))))))) (fun _ h9 => h9) rfl d_MO_measure_30 ?_
      refine lv_iload hx hb d_MO_measure_33 (lv_at hl 0 rfl) ?_
      refine lv_iload hx hb d_MO_measure_35 (lv_at hl 2 rfl) ?_
      refine z_iast hx hb hK hP hD hS (9) 0 (by decide) (fun _ => rfl) rfl (v := x) (k) rfl (by omega) (by decide) d_MO_measure_37 (fun H locs hP hD hS => ?_)
      obtain ⟨M_1, eM_1⟩ : ∃ q_, q_ = mset Mc (9) (k) (x) := ⟨_, rfl⟩
      have hP : va_P D vwCl (mo_w ad cs M_1) H := by rw [eM_1]; exact hP
      have hD : va_D A (mo_w ad cs M_1) := by rw [eM_1]; exact hD
      have hs1 : eqb 9 10 M_1 M := by rw [eM_1]; exact eqb_set hsm (by omega) (by omega)
      have ht1 : rT M_1 := eqb_rT hs1 ht
      have hp1 : rP M_1 q n := eqb_rP hs1 hp
      have g61 : M_1 6 = M 6 := hs1 6 (by omega)
      have g71 : M_1 7 = M 7 := hs1 7 (by omega)
      have gt1 : r_tabs M_1 q n = r_tabs M q n := by unfold r_tabs r_sp r_sk; rw [hs1 4 (by omega), hs1 5 (by omega), hs1 0 (by omega)]
      obtain ⟨qw, eqw⟩ : ∃ q_, q_ = q_wide (M 6) (M 7) (r_tabs M q n) so b k x := ⟨_, rfl⟩
      have hqb : 0 ≤ qw ∧ qw ≤ 60000 := by rw [eqw]; exact q_wideb hx0 ht.2.1 hst (fun j => hz4 _)
      refine lv_aload_n hx hb d_MO_measure_38 rfl (lv_at hl 4 rfl) ?_
      refine z_get (ci := 7) (C := R_MO) (T := T_MO) (N := 32) (v := .ref (ad (10))) hx hb hg in_MO hown hK hP (0) (by decide) rfl rfl 14 (by decide) (hg _ (List.mem_append_right _ (List.mem_append_right _ (List.mem_append_right _ (List.mem_append_right _ (List.mem_append_right _ (List.mem_append_right _ (List.mem_append_right _ (List.mem_append_right _ (List.mem_append_right _ (List.mem_append_right _ (List.mem_append_right _ (List.mem_append_right _ (List.mem_append_right _ (List.mem_append_left _ (List.mem_of_getElem? (i := 17) rfl)))))))))))))))) (fun _ h9 => h9) rfl d_MO_measure_39 ?_
      refine lv_iload hx hb d_MO_measure_42 (lv_at hl 0 rfl) ?_
      refine lv_aload_n hx hb d_MO_measure_44 rfl (lv_at hl 4 rfl) ?_
      refine z_get (ci := 7) (C := R_MO) (T := T_MO) (N := 32) (v := .ref (ad (6))) hx hb hg in_MO hown hK hP (0) (by decide) rfl rfl 10 (by decide) (hg _ (List.mem_append_right _ (List.mem_append_right _ (List.mem_append_right _ (List.mem_append_right _ (List.mem_append_right _ (List.mem_append_right _ (List.mem_append_right _ (List.mem_append_right _ (List.mem_append_right _ (List.mem_append_right _ (List.mem_append_right _ (List.mem_append_right _ (List.mem_append_right _ (List.mem_append_left _ (List.mem_of_getElem? (i := 13) rfl)))))))))))))))) (fun _ h9 => h9) rfl d_MO_measure_45 ?_
      refine lv_iload hx hb d_MO_measure_48 (lv_at hl 0 rfl) ?_
      refine z_iald hx hb hK hP (6) 0 (by decide) (fun _ => rfl) rfl (k) rfl (by omega) (by decide) d_MO_measure_50 ?_
      refine z_iconst hx hb (z := 2) d_MO_measure_51 ?_
      refine z_icmp_ne hx hb (tgt := 70) d_MO_measure_52 (by decide) (zb_6 ht1 _) ⟨by decide, by decide⟩ (fun c_52 => ?_) (fun c_52 => ?_)
      · refine lv_aload_n hx hb d_MO_measure_70 rfl (lv_at hl 4 rfl) ?_
        refine lv_iload hx hb d_MO_measure_71 (lv_at hl 0 rfl) ?_
        refine lv_iload_n hx hb d_MO_measure_73 rfl (lv_at hl 7 rfl) ?_
        have hwd : p_wid (M_1 6) (M_1 7) k (decide (k + 1 = b)) = qw := by rw [eqw]; unfold q_wide; rw [if_neg (by rw [← g61]; exact c_52), g61, g71]
        refine ro_V (As := [.int (iI (((k : Nat) : Int))), .int (iI (((b : Nat) : Int)))]) (rest := [.int (iI (((k : Nat) : Int))), .ref (ad (10))]) (z := qw) ⟨hx, hb, hml, hown, hg⟩ (hwd ▸ r_plain l k b (by omega) hb6 (zb_6 ht1)) (cwV 2 hg (gt_V (List.mem_append_right _ (List.mem_append_right _ (List.mem_append_right _ (List.mem_append_right _ (List.mem_append_right _ (List.mem_append_right _ (List.mem_append_right _ (List.mem_append_right _ (List.mem_append_right _ (List.mem_append_right _ (List.mem_append_right _ (List.mem_append_right _ (List.mem_append_right _ (List.mem_append_right _ (List.mem_append_right _ (List.mem_append_right _ (List.mem_append_left _ (List.mem_of_getElem? (i := 18) rfl)))))))))))))))))) (List.mem_append_right _ (List.mem_append_right _ (List.mem_append_right _ (List.mem_append_right _ (List.mem_append_right _ (List.mem_append_right _ (List.mem_append_right _ (List.mem_append_right _ (List.mem_append_right _ (List.mem_append_right _ (List.mem_append_right _ (List.mem_append_right _ (List.mem_append_right _ (List.mem_append_right _ (List.mem_append_right _ (List.mem_append_right _ (List.mem_append_left _ (List.mem_of_getElem? (i := 19) rfl)))))))))))))))))) (List.mem_append_left _ (List.mem_of_getElem? (i := 32) rfl)) (List.mem_append_right _ (List.mem_append_left _ (List.mem_of_getElem? (i := 9) rfl))) (List.mem_append_right _ (List.mem_append_right _ (List.mem_append_right _ (List.mem_append_right _ (List.mem_append_right _ (List.mem_append_right _ (List.mem_append_right _ (List.mem_append_right _ (List.mem_append_right _ (List.mem_append_right _ (List.mem_append_right _ (List.mem_append_right _ (List.mem_append_right _ (List.mem_append_right _ (List.mem_append_right _ (List.mem_append_right _ (List.mem_append_left _ (List.mem_of_getElem? (i := 20) rfl))))))))))))))))))) rfl rfl rfl (by decide +kernel) ⟨Nat.le_of_ble_eq_true rfl, Nat.le_of_ble_eq_true rfl⟩) hK hP (va_recv hK hP (ci := 7) (q0 := 0) rfl (wl_atE (by decide) rfl)) rfl hl.1 rfl (Nat.le_of_ble_eq_true rfl) d_MO_measure_74 ⟨Nat.zero_le _, Nat.zero_le _⟩ ?_
        refine z_iast hx hb hK hP hD hS (10) 0 (by decide) (fun _ => rfl) rfl (v := qw) (k) rfl (by omega) (by decide) d_MO_measure_77 (fun H locs hP hD hS => ?_)
        obtain ⟨M_2, eM_2⟩ : ∃ q_, q_ = mset M_1 (10) (k) (qw) := ⟨_, rfl⟩
        have hP : va_P D vwCl (mo_w ad cs M_2) H := by rw [eM_2]; exact hP
        have hD : va_D A (mo_w ad cs M_2) := by rw [eM_2]; exact hD
        have hs2 : eqb 9 10 M_2 M := by rw [eM_2]; exact eqb_set hs1 (by omega) (by omega)
        have ht2 : rT M_2 := eqb_rT hs2 ht
        have hp2 : rP M_2 q n := eqb_rP hs2 hp
        have g62 : M_2 6 = M 6 := hs2 6 (by omega)
        have g72 : M_2 7 = M 7 := hs2 7 (by omega)
        have hbr : M_2 10 k = qw := by rw [eM_2, mset_same]
        have hen : p_endl (M_2 6) k = p_endl (M 6) k := by rw [g62]
        refine lv_iload hx hb d_MO_measure_78 (lv_at hl 2 rfl) ?_
        refine lv_aload_n hx hb d_MO_measure_80 rfl (lv_at hl 4 rfl) ?_
        refine z_get (ci := 7) (C := R_MO) (T := T_MO) (N := 32) (v := .ref (ad (10))) hx hb hg in_MO hown hK hP (0) (by decide) rfl rfl 14 (by decide) (hg _ (List.mem_append_right _ (List.mem_append_right _ (List.mem_append_right _ (List.mem_append_right _ (List.mem_append_right _ (List.mem_append_right _ (List.mem_append_right _ (List.mem_append_right _ (List.mem_append_right _ (List.mem_append_right _ (List.mem_append_right _ (List.mem_append_right _ (List.mem_append_right _ (List.mem_append_left _ (List.mem_of_getElem? (i := 17) rfl)))))))))))))))) (fun _ h9 => h9) rfl d_MO_measure_81 ?_
        refine lv_iload hx hb d_MO_measure_84 (lv_at hl 0 rfl) ?_
        refine z_iald hx hb hK hP (10) 0 (by decide) (fun _ => rfl) rfl (k) rfl (by omega) (by decide) d_MO_measure_86 ?_
        refine z_iadd hx hb d_MO_measure_87 (v := (x + M_2 (10) (k))) rfl ?_
        refine lv_topi (fun y_ ey => ?_)
        have ey := ey.trans (congrArg iI (show (x + M_2 (10) (k)) = x + qw by rw [hbr]))
        subst ey
        refine lv_istore (lv' := [(5, .int (iI (x + qw))), (7, .int (iI (((k : Nat) : Int)))), (6, .int (iI (en))), (4, .int (iI (((so : Nat) : Int)))), (0, .ref (ad (0))), (1, .int (iI (((q : Nat) : Int)))), (2, .int (iI (((a : Nat) : Int)))), (3, .int (iI (((b : Nat) : Int))))]) hx hb d_MO_measure_88 hl (by decide) rfl (fun ls hl => ?_)
        refine lv_iload hx hb d_MO_measure_90 (lv_at hl 1 rfl) ?_
        refine lv_iload hx hb d_MO_measure_92 (lv_at hl 3 rfl) ?_
        refine z_icmp_ge hx hb (tgt := 110) d_MO_measure_94 (by decide) ⟨by omega, by omega⟩ ⟨by omega, by omega⟩ (fun c_94 => ?_) (fun c_94 => ?_)
        · refine z_iinc (v := ((k + 1 : Nat) : Int)) (lv' := [(7, .int (iI (((k + 1 : Nat) : Int)))), (5, .int (iI (x + qw))), (6, .int (iI (en))), (4, .int (iI (((so : Nat) : Int)))), (0, .ref (ad (0))), (1, .int (iI (((q : Nat) : Int)))), (2, .int (iI (((a : Nat) : Int)))), (3, .int (iI (((b : Nat) : Int))))]) hx hb d_MO_measure_110 hl (k := 1) rfl (by omega) (by decide) rfl (fun ls hl => ?_)
          refine lv_goto (tgt := 23) hx hb d_MO_measure_113 (by decide) ?_
          have hF : r_ms (M 6) (M 7) (r_tabs M q n) so b f (k + 1) (x + qw) (en) M_2 = res := by rw [← he, eM_2, eM_1]; conv => rhs; unfold r_ms; rw [← eqw, if_neg (fun h => by omega)]
          exact ih (k + 1) (x + qw) (en) M_2 (by omega) (by omega) (by omega) (by omega) hs2 hF H locs ls hP hD hS (lv_sub hl [0, 2, 1, 3, 4, 5, 6, 7] rfl)
        · refine lv_aload_n hx hb d_MO_measure_97 rfl (lv_at hl 4 rfl) ?_
          refine lv_iload hx hb d_MO_measure_98 (lv_at hl 1 rfl) ?_
          refine ro_V (As := [.int (iI (((k : Nat) : Int)))]) (rest := []) (z := bz (p_endl (M_2 6) k) inferInstance) ⟨hx, hb, hml, hown, hg⟩ (r_isEnd l k (by omega) (zb_6 ht2)) (cwV 1 hg (gt_V (List.mem_append_right _ (List.mem_append_right _ (List.mem_append_right _ (List.mem_append_right _ (List.mem_append_right _ (List.mem_append_right _ (List.mem_append_right _ (List.mem_append_right _ (List.mem_append_right _ (List.mem_append_right _ (List.mem_append_right _ (List.mem_append_right _ (List.mem_append_right _ (List.mem_append_right _ (List.mem_append_right _ (List.mem_append_left _ (List.mem_of_getElem? (i := 37) rfl))))))))))))))))) (List.mem_append_right _ (List.mem_append_right _ (List.mem_append_right _ (List.mem_append_right _ (List.mem_append_right _ (List.mem_append_right _ (List.mem_append_right _ (List.mem_append_right _ (List.mem_append_right _ (List.mem_append_right _ (List.mem_append_right _ (List.mem_append_right _ (List.mem_append_right _ (List.mem_append_right _ (List.mem_append_right _ (List.mem_append_left _ (List.mem_of_getElem? (i := 38) rfl))))))))))))))))) (List.mem_append_left _ (List.mem_of_getElem? (i := 25) rfl)) (List.mem_append_right _ (List.mem_append_left _ (List.mem_of_getElem? (i := 9) rfl))) (List.mem_append_right _ (List.mem_append_right _ (List.mem_append_right _ (List.mem_append_right _ (List.mem_append_right _ (List.mem_append_right _ (List.mem_append_right _ (List.mem_append_right _ (List.mem_append_right _ (List.mem_append_right _ (List.mem_append_right _ (List.mem_append_right _ (List.mem_append_right _ (List.mem_append_right _ (List.mem_append_right _ (List.mem_append_left _ (List.mem_of_getElem? (i := 39) rfl)))))))))))))))))) rfl rfl rfl (by decide +kernel) ⟨Nat.le_of_ble_eq_true rfl, Nat.le_of_ble_eq_true rfl⟩) hK hP (va_recv hK hP (ci := 7) (q0 := 0) rfl (wl_atE (by decide) rfl)) rfl hl.1 rfl (Nat.le_of_ble_eq_true rfl) d_MO_measure_100 ⟨Nat.zero_le _, Nat.zero_le _⟩ ?_
          refine z_ifb_ne hx hb (tgt := 110) d_MO_measure_103 (by decide) (fun c_103 => ?_) (fun c_103 => ?_)
          · refine z_iinc (v := ((k + 1 : Nat) : Int)) (lv' := [(7, .int (iI (((k + 1 : Nat) : Int)))), (5, .int (iI (x + qw))), (6, .int (iI (en))), (4, .int (iI (((so : Nat) : Int)))), (0, .ref (ad (0))), (1, .int (iI (((q : Nat) : Int)))), (2, .int (iI (((a : Nat) : Int)))), (3, .int (iI (((b : Nat) : Int))))]) hx hb d_MO_measure_110 hl (k := 1) rfl (by omega) (by decide) rfl (fun ls hl => ?_)
            refine lv_goto (tgt := 23) hx hb d_MO_measure_113 (by decide) ?_
            have hF : r_ms (M 6) (M 7) (r_tabs M q n) so b f (k + 1) (x + qw) (en) M_2 = res := by rw [← he, eM_2, eM_1]; conv => rhs; unfold r_ms; rw [← eqw, if_neg (fun h => h.2 (hen ▸ c_103))]
            exact ih (k + 1) (x + qw) (en) M_2 (by omega) (by omega) (by omega) (by omega) hs2 hF H locs ls hP hD hS (lv_sub hl [0, 2, 1, 3, 4, 5, 6, 7] rfl)
          · refine lv_iload hx hb d_MO_measure_106 (lv_at hl 0 rfl) ?_
            refine lv_istore (lv' := [(6, .int (iI (x + qw))), (5, .int (iI (x + qw))), (7, .int (iI (((k : Nat) : Int)))), (4, .int (iI (((so : Nat) : Int)))), (0, .ref (ad (0))), (1, .int (iI (((q : Nat) : Int)))), (2, .int (iI (((a : Nat) : Int)))), (3, .int (iI (((b : Nat) : Int))))]) hx hb d_MO_measure_108 hl (by decide) rfl (fun ls hl => ?_)
            refine z_iinc (v := ((k + 1 : Nat) : Int)) (lv' := [(7, .int (iI (((k + 1 : Nat) : Int)))), (6, .int (iI (x + qw))), (5, .int (iI (x + qw))), (4, .int (iI (((so : Nat) : Int)))), (0, .ref (ad (0))), (1, .int (iI (((q : Nat) : Int)))), (2, .int (iI (((a : Nat) : Int)))), (3, .int (iI (((b : Nat) : Int))))]) hx hb d_MO_measure_110 hl (k := 2) rfl (by omega) (by decide) rfl (fun ls hl => ?_)
            refine lv_goto (tgt := 23) hx hb d_MO_measure_113 (by decide) ?_
            have hF : r_ms (M 6) (M 7) (r_tabs M q n) so b f (k + 1) (x + qw) (x + qw) M_2 = res := by rw [← he, eM_2, eM_1]; conv => rhs; unfold r_ms; rw [← eqw, if_pos ⟨by omega, fun h => c_103 (hen.symm ▸ h)⟩]
            exact ih (k + 1) (x + qw) (x + qw) M_2 (by omega) (by omega) (by omega) (by omega) hs2 hF H locs ls hP hD hS (lv_sub hl [0, 1, 2, 3, 4, 5, 6, 7] rfl)
      · refine lv_aload_n hx hb d_MO_measure_55 rfl (lv_at hl 4 rfl) ?_
        refine lv_iload_n hx hb d_MO_measure_56 rfl (lv_at hl 5 rfl) ?_
        refine lv_iload hx hb d_MO_measure_57 (lv_at hl 0 rfl) ?_
        refine lv_iload_n hx hb d_MO_measure_59 rfl (lv_at hl 7 rfl) ?_
        refine lv_iload hx hb d_MO_measure_60 (lv_at hl 3 rfl) ?_
        refine lv_iload hx hb d_MO_measure_62 (lv_at hl 2 rfl) ?_
        have hwd : p_tab n (r_sp M_1 q) (r_sk M_1 q) x (p_wbt (M_1 6) (M_1 7) so b (so - (k + 1)) (k + 1) 0) (M_1 0 3) = qw := by rw [eqw]; unfold q_wide; rw [if_pos (by rw [← g61]; exact c_52), ← g61, ← g71]; have e9 := gt1; unfold r_tabs at e9; simp only [Prod.mk.injEq, true_and] at e9; unfold r_tabs; dsimp only; rw [e9.1, e9.2.1, e9.2.2]
        refine ro_V (As := [.int (iI (((q : Nat) : Int))), .int (iI (((k : Nat) : Int))), .int (iI (((b : Nat) : Int))), .int (iI (((so : Nat) : Int))), .int (iI (x))]) (rest := [.int (iI (((k : Nat) : Int))), .ref (ad (10))]) (z := qw) ⟨hx, hb, hml, hown, hg⟩ (hwd ▸ r_tab l q n k b so x (by omega) hso hb6 (by omega) hp1 ht1) (cwV 5 hg (gt_V (List.mem_append_right _ (List.mem_append_right _ (List.mem_append_right _ (List.mem_append_right _ (List.mem_append_right _ (List.mem_append_right _ (List.mem_append_right _ (List.mem_append_right _ (List.mem_append_right _ (List.mem_append_right _ (List.mem_append_right _ (List.mem_append_right _ (List.mem_append_right _ (List.mem_append_right _ (List.mem_append_right _ (List.mem_append_right _ (List.mem_append_left _ (List.mem_of_getElem? (i := 12) rfl)))))))))))))))))) (List.mem_append_right _ (List.mem_append_right _ (List.mem_append_right _ (List.mem_append_right _ (List.mem_append_right _ (List.mem_append_right _ (List.mem_append_right _ (List.mem_append_right _ (List.mem_append_right _ (List.mem_append_right _ (List.mem_append_right _ (List.mem_append_right _ (List.mem_append_right _ (List.mem_append_right _ (List.mem_append_right _ (List.mem_append_right _ (List.mem_append_left _ (List.mem_of_getElem? (i := 13) rfl)))))))))))))))))) (List.mem_append_left _ (List.mem_of_getElem? (i := 30) rfl)) (List.mem_append_right _ (List.mem_append_left _ (List.mem_of_getElem? (i := 9) rfl))) (List.mem_append_right _ (List.mem_append_right _ (List.mem_append_right _ (List.mem_append_right _ (List.mem_append_right _ (List.mem_append_right _ (List.mem_append_right _ (List.mem_append_right _ (List.mem_append_right _ (List.mem_append_right _ (List.mem_append_right _ (List.mem_append_right _ (List.mem_append_right _ (List.mem_append_right _ (List.mem_append_right _ (List.mem_append_right _ (List.mem_append_left _ (List.mem_of_getElem? (i := 14) rfl))))))))))))))))))) rfl rfl rfl (by decide +kernel) ⟨Nat.le_of_ble_eq_true rfl, Nat.le_of_ble_eq_true rfl⟩) hK hP (va_recv hK hP (ci := 7) (q0 := 0) rfl (wl_atE (by decide) rfl)) rfl hl.1 rfl (Nat.le_of_ble_eq_true rfl) d_MO_measure_64 ⟨Nat.zero_le _, Nat.zero_le _⟩ ?_
        refine lv_goto (tgt := 77) hx hb d_MO_measure_67 (by decide) ?_
        refine z_iast hx hb hK hP hD hS (10) 0 (by decide) (fun _ => rfl) rfl (v := qw) (k) rfl (by omega) (by decide) d_MO_measure_77 (fun H locs hP hD hS => ?_)
        obtain ⟨M_3, eM_3⟩ : ∃ q_, q_ = mset M_1 (10) (k) (qw) := ⟨_, rfl⟩
        have hP : va_P D vwCl (mo_w ad cs M_3) H := by rw [eM_3]; exact hP
        have hD : va_D A (mo_w ad cs M_3) := by rw [eM_3]; exact hD
        have hs2 : eqb 9 10 M_3 M := by rw [eM_3]; exact eqb_set hs1 (by omega) (by omega)
        have ht2 : rT M_3 := eqb_rT hs2 ht
        have hp2 : rP M_3 q n := eqb_rP hs2 hp
        have g62 : M_3 6 = M 6 := hs2 6 (by omega)
        have g72 : M_3 7 = M 7 := hs2 7 (by omega)
        have hbr : M_3 10 k = qw := by rw [eM_3, mset_same]
        have hen : p_endl (M_3 6) k = p_endl (M 6) k := by rw [g62]
        refine lv_iload hx hb d_MO_measure_78 (lv_at hl 2 rfl) ?_
        refine lv_aload_n hx hb d_MO_measure_80 rfl (lv_at hl 4 rfl) ?_
        refine z_get (ci := 7) (C := R_MO) (T := T_MO) (N := 32) (v := .ref (ad (10))) hx hb hg in_MO hown hK hP (0) (by decide) rfl rfl 14 (by decide) (hg _ (List.mem_append_right _ (List.mem_append_right _ (List.mem_append_right _ (List.mem_append_right _ (List.mem_append_right _ (List.mem_append_right _ (List.mem_append_right _ (List.mem_append_right _ (List.mem_append_right _ (List.mem_append_right _ (List.mem_append_right _ (List.mem_append_right _ (List.mem_append_right _ (List.mem_append_left _ (List.mem_of_getElem? (i := 17) rfl)))))))))))))))) (fun _ h9 => h9) rfl d_MO_measure_81 ?_
        refine lv_iload hx hb d_MO_measure_84 (lv_at hl 0 rfl) ?_
        refine z_iald hx hb hK hP (10) 0 (by decide) (fun _ => rfl) rfl (k) rfl (by omega) (by decide) d_MO_measure_86 ?_
        refine z_iadd hx hb d_MO_measure_87 (v := (x + M_3 (10) (k))) rfl ?_
        refine lv_topi (fun y_ ey => ?_)
        have ey := ey.trans (congrArg iI (show (x + M_3 (10) (k)) = x + qw by rw [hbr]))
        subst ey
        refine lv_istore (lv' := [(5, .int (iI (x + qw))), (7, .int (iI (((k : Nat) : Int)))), (6, .int (iI (en))), (4, .int (iI (((so : Nat) : Int)))), (0, .ref (ad (0))), (1, .int (iI (((q : Nat) : Int)))), (2, .int (iI (((a : Nat) : Int)))), (3, .int (iI (((b : Nat) : Int))))]) hx hb d_MO_measure_88 hl (by decide) rfl (fun ls hl => ?_)
        refine lv_iload hx hb d_MO_measure_90 (lv_at hl 1 rfl) ?_
        refine lv_iload hx hb d_MO_measure_92 (lv_at hl 3 rfl) ?_
        refine z_icmp_ge hx hb (tgt := 110) d_MO_measure_94 (by decide) ⟨by omega, by omega⟩ ⟨by omega, by omega⟩ (fun c_94 => ?_) (fun c_94 => ?_)
        · refine z_iinc (v := ((k + 1 : Nat) : Int)) (lv' := [(7, .int (iI (((k + 1 : Nat) : Int)))), (5, .int (iI (x + qw))), (6, .int (iI (en))), (4, .int (iI (((so : Nat) : Int)))), (0, .ref (ad (0))), (1, .int (iI (((q : Nat) : Int)))), (2, .int (iI (((a : Nat) : Int)))), (3, .int (iI (((b : Nat) : Int))))]) hx hb d_MO_measure_110 hl (k := 1) rfl (by omega) (by decide) rfl (fun ls hl => ?_)
          refine lv_goto (tgt := 23) hx hb d_MO_measure_113 (by decide) ?_
          have hF : r_ms (M 6) (M 7) (r_tabs M q n) so b f (k + 1) (x + qw) (en) M_3 = res := by rw [← he, eM_3, eM_1]; conv => rhs; unfold r_ms; rw [← eqw, if_neg (fun h => by omega)]
          exact ih (k + 1) (x + qw) (en) M_3 (by omega) (by omega) (by omega) (by omega) hs2 hF H locs ls hP hD hS (lv_sub hl [0, 2, 1, 3, 4, 5, 6, 7] rfl)
        · refine lv_aload_n hx hb d_MO_measure_97 rfl (lv_at hl 4 rfl) ?_
          refine lv_iload hx hb d_MO_measure_98 (lv_at hl 1 rfl) ?_
          refine ro_V (As := [.int (iI (((k : Nat) : Int)))]) (rest := []) (z := bz (p_endl (M_3 6) k) inferInstance) ⟨hx, hb, hml, hown, hg⟩ (r_isEnd l k (by omega) (zb_6 ht2)) (cwV 1 hg (gt_V (List.mem_append_right _ (List.mem_append_right _ (List.mem_append_right _ (List.mem_append_right _ (List.mem_append_right _ (List.mem_append_right _ (List.mem_append_right _ (List.mem_append_right _ (List.mem_append_right _ (List.mem_append_right _ (List.mem_append_right _ (List.mem_append_right _ (List.mem_append_right _ (List.mem_append_right _ (List.mem_append_right _ (List.mem_append_left _ (List.mem_of_getElem? (i := 37) rfl))))))))))))))))) (List.mem_append_right _ (List.mem_append_right _ (List.mem_append_right _ (List.mem_append_right _ (List.mem_append_right _ (List.mem_append_right _ (List.mem_append_right _ (List.mem_append_right _ (List.mem_append_right _ (List.mem_append_right _ (List.mem_append_right _ (List.mem_append_right _ (List.mem_append_right _ (List.mem_append_right _ (List.mem_append_right _ (List.mem_append_left _ (List.mem_of_getElem? (i := 38) rfl))))))))))))))))) (List.mem_append_left _ (List.mem_of_getElem? (i := 25) rfl)) (List.mem_append_right _ (List.mem_append_left _ (List.mem_of_getElem? (i := 9) rfl))) (List.mem_append_right _ (List.mem_append_right _ (List.mem_append_right _ (List.mem_append_right _ (List.mem_append_right _ (List.mem_append_right _ (List.mem_append_right _ (List.mem_append_right _ (List.mem_append_right _ (List.mem_append_right _ (List.mem_append_right _ (List.mem_append_right _ (List.mem_append_right _ (List.mem_append_right _ (List.mem_append_right _ (List.mem_append_left _ (List.mem_of_getElem? (i := 39) rfl)))))))))))))))))) rfl rfl rfl (by decide +kernel) ⟨Nat.le_of_ble_eq_true rfl, Nat.le_of_ble_eq_true rfl⟩) hK hP (va_recv hK hP (ci := 7) (q0 := 0) rfl (wl_atE (by decide) rfl)) rfl hl.1 rfl (Nat.le_of_ble_eq_true rfl) d_MO_measure_100 ⟨Nat.zero_le _, Nat.zero_le _⟩ ?_
          refine z_ifb_ne hx hb (tgt := 110) d_MO_measure_103 (by decide) (fun c_103 => ?_) (fun c_103 => ?_)
          · refine z_iinc (v := ((k + 1 : Nat) : Int)) (lv' := [(7, .int (iI (((k + 1 : Nat) : Int)))), (5, .int (iI (x + qw))), (6, .int (iI (en))), (4, .int (iI (((so : Nat) : Int)))), (0, .ref (ad (0))), (1, .int (iI (((q : Nat) : Int)))), (2, .int (iI (((a : Nat) : Int)))), (3, .int (iI (((b : Nat) : Int))))]) hx hb d_MO_measure_110 hl (k := 1) rfl (by omega) (by decide) rfl (fun ls hl => ?_)
            refine lv_goto (tgt := 23) hx hb d_MO_measure_113 (by decide) ?_
            have hF : r_ms (M 6) (M 7) (r_tabs M q n) so b f (k + 1) (x + qw) (en) M_3 = res := by rw [← he, eM_3, eM_1]; conv => rhs; unfold r_ms; rw [← eqw, if_neg (fun h => h.2 (hen ▸ c_103))]
            exact ih (k + 1) (x + qw) (en) M_3 (by omega) (by omega) (by omega) (by omega) hs2 hF H locs ls hP hD hS (lv_sub hl [0, 2, 1, 3, 4, 5, 6, 7] rfl)
          · refine lv_iload hx hb d_MO_measure_106 (lv_at hl 0 rfl) ?_
            refine lv_istore (lv' := [(6, .int (iI (x + qw))), (5, .int (iI (x + qw))), (7, .int (iI (((k : Nat) : Int)))), (4, .int (iI (((so : Nat) : Int)))), (0, .ref (ad (0))), (1, .int (iI (((q : Nat) : Int)))), (2, .int (iI (((a : Nat) : Int)))), (3, .int (iI (((b : Nat) : Int))))]) hx hb d_MO_measure_108 hl (by decide) rfl (fun ls hl => ?_)
            refine z_iinc (v := ((k + 1 : Nat) : Int)) (lv' := [(7, .int (iI (((k + 1 : Nat) : Int)))), (6, .int (iI (x + qw))), (5, .int (iI (x + qw))), (4, .int (iI (((so : Nat) : Int)))), (0, .ref (ad (0))), (1, .int (iI (((q : Nat) : Int)))), (2, .int (iI (((a : Nat) : Int)))), (3, .int (iI (((b : Nat) : Int))))]) hx hb d_MO_measure_110 hl (k := 2) rfl (by omega) (by decide) rfl (fun ls hl => ?_)
            refine lv_goto (tgt := 23) hx hb d_MO_measure_113 (by decide) ?_
            have hF : r_ms (M 6) (M 7) (r_tabs M q n) so b f (k + 1) (x + qw) (x + qw) M_3 = res := by rw [← he, eM_3, eM_1]; conv => rhs; unfold r_ms; rw [← eqw, if_pos ⟨by omega, fun h => c_103 (hen.symm ▸ h)⟩]
            exact ih (k + 1) (x + qw) (x + qw) M_3 (by omega) (by omega) (by omega) (by omega) hs2 hF H locs ls hP hD hS (lv_sub hl [0, 1, 2, 3, 4, 5, 6, 7] rfl)
set_option maxHeartbeats 4000000 in
set_option maxRecDepth 100000 in
/-- measure -/
theorem r_measure (l : Launch) {D : va_G} {ad : Nat → Nat} {cs : ClassId} {M : Nat → Nat → Int} (sz : Nat) (q n a b : Nat) (ha : a ≤ 600) (hb6 : b ≤ 600) (hs : rS M q) (hb1 : 0 ≤ M 1 q ∧ M 1 q ≤ 600) (hp : rP M q n) (ht : rT M) : Met l y_MO_measure ws_MO_measure ({ frames := 3, cells := 0, slots := 0, locals := 74 } : Room) (va_Pc [.ref (ad (0)), .int (iI (((q : Nat) : Int))), .int (iI (((a : Nat) : Int))), .int (iI (((b : Nat) : Int)))] (rw_B D vwCl (mo_tys cs) (mo_w ad cs M) sz)) (va_Qi (fun (r : Int32) (_ : Unit) => r = iI ((r_m M q n a b M).1)) (rw_E D vwCl (mo_tys cs) (mo_w ad cs M) (mo_w ad cs ((r_m M q n a b M).2)) sz) (va_A (mo_w ad cs M) sz)) 0 0 (va_A (mo_w ad cs M) sz) := by
  refine Met.ofW (cc := b_MO_measure) (maxL := 8) (ret := (some .int)) (by decide) rfl ?_
  intro p e s m args below meth c s₁ B hml hv
  obtain ⟨rfl, hsz, hP, hK, hD0⟩ := hv
  have hx := B.exec
  have hb := B.bytes
  have hr := B.returns
  have hts := atoms_spec (ws := ws_MO_measure) B.pre
  have hg : ∀ w ∈ gt, w.before _ s = true := fun w h => hts w (List.mem_cons_of_mem _ h)
  have hown : s.vm.findClass R_MO = some m.cls := findClass_of_methodNamed B.named
  have hlocks := B.notSynchronized
  subst hsz
  have hD := hD0.self (sz := s.heap.size)
  have hA : ∀ q : Nat, s.heap.size ≤ q → va_A (mo_w ad cs M) s.heap.size q := fun q h => Or.inr h
  have hS : va_S (va_A (mo_w ad cs M) s.heap.size) s.heap s.heap [] := va_S.rf
  have hl := lv_entry ([.ref (ad (0)), .int (iI (((q : Nat) : Int))), .int (iI (((a : Nat) : Int))), .int (iI (((b : Nat) : Int)))]) (n := 8) (Nat.le_of_ble_eq_true rfl)
  rw [lg_entry_eq]
  generalize (lg_sl ([.ref (ad (0)), .int (iI (((q : Nat) : Int))), .int (iI (((a : Nat) : Int))), .int (iI (((b : Nat) : Int)))]) ++ List.replicate (8 - (lg_sl ([.ref (ad (0)), .int (iI (((q : Nat) : Int))), .int (iI (((a : Nat) : Int))), .int (iI (((b : Nat) : Int)))])).length) Slot.unset).toArray = ls at hl ⊢
  have hl : lv_has ls 8 [(0, .ref (ad (0))), (1, .int (iI (((q : Nat) : Int)))), (2, .int (iI (((a : Nat) : Int)))), (3, .int (iI (((b : Nat) : Int))))] := hl
  have hq : q < 30 := hp.1
  have hso := p_solid_le (M 6) a b
  have hxb := r_begb (a := a) hs
  refine lv_aload_n hx hb d_MO_measure_0 rfl (lv_at hl 0 rfl) ?_
  refine lv_iload_n hx hb d_MO_measure_1 rfl (lv_at hl 2 rfl) ?_
  refine lv_iload_n hx hb d_MO_measure_2 rfl (lv_at hl 3 rfl) ?_
  refine ro_V (As := [.int (iI (((a : Nat) : Int))), .int (iI (((b : Nat) : Int)))]) (rest := []) (z := ((p_solid (M 6) a b : Nat) : Int)) ⟨hx, hb, hml, hown, hg⟩ (r_trailing l a b ha hb6 (zb_6 ht)) (cwV 2 hg (gt_V (List.mem_append_right _ (List.mem_append_right _ (List.mem_append_right _ (List.mem_append_right _ (List.mem_append_right _ (List.mem_append_right _ (List.mem_append_right _ (List.mem_append_right _ (List.mem_append_right _ (List.mem_append_right _ (List.mem_append_right _ (List.mem_append_right _ (List.mem_append_right _ (List.mem_append_right _ (List.mem_append_right _ (List.mem_append_right _ (List.mem_append_left _ (List.mem_of_getElem? (i := 6) rfl)))))))))))))))))) (List.mem_append_right _ (List.mem_append_right _ (List.mem_append_right _ (List.mem_append_right _ (List.mem_append_right _ (List.mem_append_right _ (List.mem_append_right _ (List.mem_append_right _ (List.mem_append_right _ (List.mem_append_right _ (List.mem_append_right _ (List.mem_append_right _ (List.mem_append_right _ (List.mem_append_right _ (List.mem_append_right _ (List.mem_append_right _ (List.mem_append_left _ (List.mem_of_getElem? (i := 7) rfl)))))))))))))))))) (List.mem_append_left _ (List.mem_of_getElem? (i := 28) rfl)) (List.mem_append_right _ (List.mem_append_left _ (List.mem_of_getElem? (i := 9) rfl))) (List.mem_append_right _ (List.mem_append_right _ (List.mem_append_right _ (List.mem_append_right _ (List.mem_append_right _ (List.mem_append_right _ (List.mem_append_right _ (List.mem_append_right _ (List.mem_append_right _ (List.mem_append_right _ (List.mem_append_right _ (List.mem_append_right _ (List.mem_append_right _ (List.mem_append_right _ (List.mem_append_right _ (List.mem_append_right _ (List.mem_append_left _ (List.mem_of_getElem? (i := 8) rfl))))))))))))))))))) rfl rfl rfl (by decide +kernel) ⟨Nat.le_of_ble_eq_true rfl, Nat.le_of_ble_eq_true rfl⟩) hK hP (va_recv hK hP (ci := 7) (q0 := 0) rfl (wl_atE (by decide) rfl)) rfl hl.1 rfl (Nat.le_of_ble_eq_true rfl) d_MO_measure_3 ⟨Nat.zero_le _, Nat.zero_le _⟩ ?_
  refine lv_istore (lv' := [(4, .int (iI (((p_solid (M 6) a b : Nat) : Int)))), (0, .ref (ad (0))), (1, .int (iI (((q : Nat) : Int)))), (2, .int (iI (((a : Nat) : Int)))), (3, .int (iI (((b : Nat) : Int))))]) hx hb d_MO_measure_6 hl (by decide) rfl (fun ls hl => ?_)
  refine lv_aload_n hx hb d_MO_measure_8 rfl (lv_at hl 1 rfl) ?_
  refine lv_iload_n hx hb d_MO_measure_9 rfl (lv_at hl 2 rfl) ?_
  refine lv_iload_n hx hb d_MO_measure_10 rfl (lv_at hl 3 rfl) ?_
  refine ro_V (As := [.int (iI (((q : Nat) : Int))), .int (iI (((a : Nat) : Int)))]) (rest := []) (z := r_beg M q a) ⟨hx, hb, hml, hown, hg⟩ (r_beginning l q a hq ha hs hb1) (cwV 2 hg (gt_V (List.mem_append_right _ (List.mem_append_right _ (List.mem_append_right _ (List.mem_append_right _ (List.mem_append_right _ (List.mem_append_right _ (List.mem_append_right _ (List.mem_append_right _ (List.mem_append_right _ (List.mem_append_right _ (List.mem_append_right _ (List.mem_append_right _ (List.mem_append_right _ (List.mem_append_right _ (List.mem_append_right _ (List.mem_append_right _ (List.mem_append_left _ (List.mem_of_getElem? (i := 9) rfl)))))))))))))))))) (List.mem_append_right _ (List.mem_append_right _ (List.mem_append_right _ (List.mem_append_right _ (List.mem_append_right _ (List.mem_append_right _ (List.mem_append_right _ (List.mem_append_right _ (List.mem_append_right _ (List.mem_append_right _ (List.mem_append_right _ (List.mem_append_right _ (List.mem_append_right _ (List.mem_append_right _ (List.mem_append_right _ (List.mem_append_right _ (List.mem_append_left _ (List.mem_of_getElem? (i := 10) rfl)))))))))))))))))) (List.mem_append_left _ (List.mem_of_getElem? (i := 29) rfl)) (List.mem_append_right _ (List.mem_append_left _ (List.mem_of_getElem? (i := 9) rfl))) (List.mem_append_right _ (List.mem_append_right _ (List.mem_append_right _ (List.mem_append_right _ (List.mem_append_right _ (List.mem_append_right _ (List.mem_append_right _ (List.mem_append_right _ (List.mem_append_right _ (List.mem_append_right _ (List.mem_append_right _ (List.mem_append_right _ (List.mem_append_right _ (List.mem_append_right _ (List.mem_append_right _ (List.mem_append_right _ (List.mem_append_left _ (List.mem_of_getElem? (i := 11) rfl))))))))))))))))))) rfl rfl rfl (by decide +kernel) ⟨Nat.le_of_ble_eq_true rfl, Nat.le_of_ble_eq_true rfl⟩) hK hP (va_recv hK hP (ci := 7) (q0 := 0) rfl (wl_atE (by decide) rfl)) rfl hl.1 rfl (Nat.le_of_ble_eq_true rfl) d_MO_measure_11 ⟨Nat.zero_le _, Nat.zero_le _⟩ ?_
  refine lv_istore (lv' := [(5, .int (iI (r_beg M q a))), (4, .int (iI (((p_solid (M 6) a b : Nat) : Int)))), (0, .ref (ad (0))), (1, .int (iI (((q : Nat) : Int)))), (2, .int (iI (((a : Nat) : Int)))), (3, .int (iI (((b : Nat) : Int))))]) hx hb d_MO_measure_14 hl (by decide) rfl (fun ls hl => ?_)
  refine lv_iload hx hb d_MO_measure_16 (lv_at hl 0 rfl) ?_
  refine lv_istore (lv' := [(6, .int (iI (r_beg M q a))), (5, .int (iI (r_beg M q a))), (4, .int (iI (((p_solid (M 6) a b : Nat) : Int)))), (0, .ref (ad (0))), (1, .int (iI (((q : Nat) : Int)))), (2, .int (iI (((a : Nat) : Int)))), (3, .int (iI (((b : Nat) : Int))))]) hx hb d_MO_measure_18 hl (by decide) rfl (fun ls hl => ?_)
  refine lv_iload_n hx hb d_MO_measure_20 rfl (lv_at hl 5 rfl) ?_
  refine lv_istore (lv' := [(7, .int (iI (((a : Nat) : Int)))), (6, .int (iI (r_beg M q a))), (5, .int (iI (r_beg M q a))), (4, .int (iI (((p_solid (M 6) a b : Nat) : Int)))), (0, .ref (ad (0))), (1, .int (iI (((q : Nat) : Int)))), (2, .int (iI (((a : Nat) : Int)))), (3, .int (iI (((b : Nat) : Int))))]) hx hb d_MO_measure_21 hl (by decide) rfl (fun ls hl => ?_)
  refine lr_measure hx hb hml hg hown hK hA q n a b (p_solid (M 6) a b) hb6 (by omega) hp ht (r_m M q n a b M) (fun H locs ls hP hD hS hl => ?_) (b - a) a (r_beg M q a) (r_beg M q a) M (by omega) ha (by omega) (by omega) eqb_rf rfl s.heap [] ls hP hD hS (lv_sub hl [0, 1, 2, 3, 4, 5, 6, 7] rfl)
  refine lv_iload hx hb d_MO_measure_116 (lv_at hl 0 rfl) ?_
  have hM : (r_m M q n a b M).2 = (r_m M q n a b M).2 := rfl
  have eW : mo_w ad cs ((r_m M q n a b M).2) = mo_w ad cs ((r_m M q n a b M).2) := by rw [hM]
  have hP := Eq.mp (congrArg (fun q => va_P D vwCl q _) eW) hP
  have hD := Eq.mp (congrArg (va_D _) eW) hD
  exact W.iret (v := iI ((r_m M q n a b M).1)) hx hb hr (fun t ht hW => ⟨⟨_, (), rfl, rfl, by rw [ht]; exact hP, va_K.moved hW.alike hK, hD⟩, hS.F ht⟩) hS.2.2 d_MO_measure_118
set_option maxHeartbeats 4000000 in
set_option maxRecDepth 100000 in
theorem lr_broken {p : Program} {l : Launch} {e : Env} {s : State} {m : MethodId} {args : Array Value} {below : List Frame} {meth : Method} {c : Code} {Q : State → Prop} {A : Nat → Prop} {H0 : Heap} {D : va_G} {ad : Nat → Nat} {cs : ClassId} {M : Nat → Nat → Int} (hx : p.tables.exec = Jvm.exec) (hb : c.code = b_MO_broken) (hml : c.maxLocals = 7) (hg : ∀ w ∈ gt, w.before args s = true) (hown : s.vm.findClass R_MO = some m.cls) (hK : va_K D vwCl (mo_tys cs) s) (hA : ∀ q, H0.size ≤ q → A q) (q n a eb : Nat) (hae : a ≤ eb) (he6 : eb ≤ 600) (heb : M (1) (q + 1) = ((eb : Nat) : Int)) (hs : rS M q) (hb1 : 0 ≤ M 1 q ∧ M 1 q ≤ 600) (hp : rP M q n) (ht : rT M) (res : Int × Int × (Nat → Nat → Int)) (kk : ∀ (H : Heap) (locs : List Loc) (ls : Array Slot), va_P D vwCl (mo_w ad cs res.2.2) H → va_D A (mo_w ad cs res.2.2) → va_S A H0 H locs → lv_has ls 7 [(4, .int (iI res.2.1)), (3, .int (iI res.1))] → W p l e ({ frames := 4, cells := 0, slots := 0, locals := 101 } : Room) s m args below meth c H locs 0 0 Q (F0 m 99 ls [])) : ∀ (f b : Nat) (fi fo : Int) (Mc : Nat → Nat → Int), (b + f = eb + 1 ∨ (f = 0 ∧ eb < b)) → 1 ≤ b → b ≤ 602 → -1 ≤ fi ∧ fi ≤ 601 → -1 ≤ fo ∧ fo ≤ 601 → eqb 9 10 Mc M → r_bk M q n a f b fi fo Mc = res → ∀ (H : Heap) (locs : List Loc) (ls : Array Slot), va_P D vwCl (mo_w ad cs Mc) H → va_D A (mo_w ad cs Mc) → va_S A H0 H locs → lv_has ls 7 [(6, .int (iI (((b : Nat) : Int)))), (5, .int (iI (1))), (4, .int (iI (fo))), (3, .int (iI (fi))), (0, .ref (ad (0))), (1, .int (iI (((q : Nat) : Int)))), (2, .int (iI (((a : Nat) : Int))))] → W p l e ({ frames := 4, cells := 0, slots := 0, locals := 101 } : Room) s m args below meth c H locs 0 0 Q (F0 m 13 ls []) := by
  have hq : q < 30 := hp.1
  have hwi := ht.2.2.2.1
  have hs1_ := hs.2.1
  have hrb : -5000 ≤ r_room M q ∧ r_room M q ≤ 30000 := by unfold r_room; omega
  intro f
  induction f with
  | zero =>
    intro b fi fo Mc hbf hb1_ hb6 hfi hfo hsm he H locs ls hP hD hS hl
    have g1 : Mc 1 = M 1 := hsm 1 (by omega)
    have g6 : Mc 6 = M 6 := hsm 6 (by omega)
    have g2 : Mc 2 = M 2 := hsm 2 (by omega)
    have g0 : Mc 0 = M 0 := hsm 0 (by omega)
    have ht1 : rT Mc := eqb_rT hsm ht
    have hp1 : rP Mc q n := eqb_rP hsm hp
    have hs1 : rS Mc q := by unfold rS; rw [g2]; exact hs
    have heb1 : Mc 1 (q + 1) = ((eb : Nat) : Int) := by rw [g1]; exact heb
    have hen : p_endl (Mc 6) (b - 1) = p_endl (M 6) (b - 1) := by rw [g6]
    have hbr : r_brk (Mc 6) (Mc 1 (q + 1)) b = r_brk (M 6) (M 1 (q + 1)) b := by rw [g6, g1]
    refine lv_iload hx hb d_MO_broken_13 (lv_at hl 0 rfl) ?_
    refine lv_aload_n hx hb d_MO_broken_15 rfl (lv_at hl 4 rfl) ?_
    refine z_get (ci := 7) (C := R_MO) (T := T_MO) (N := 32) (v := .ref (ad (1))) hx hb hg in_MO hown hK hP (0) (by decide) rfl rfl 5 (by decide) (hg _ (List.mem_append_right _ (List.mem_append_right _ (List.mem_append_right _ (List.mem_append_right _ (List.mem_append_right _ (List.mem_append_right _ (List.mem_append_right _ (List.mem_append_right _ (List.mem_append_right _ (List.mem_append_right _ (List.mem_append_right _ (List.mem_append_right _ (List.mem_append_right _ (List.mem_append_left _ (List.mem_of_getElem? (i := 8) rfl)))))))))))))))) (fun _ h9 => h9) rfl d_MO_broken_16 ?_
    refine lv_iload_n hx hb d_MO_broken_19 rfl (lv_at hl 5 rfl) ?_
    refine z_iconst hx hb (z := 1) d_MO_broken_20 ?_
    refine z_iadd hx hb d_MO_broken_21 (v := ((q + 1 : Nat) : Int)) (by omega) ?_
    refine z_iald hx hb hK hP (1) 0 (by decide) (fun _ => rfl) rfl (q + 1) rfl (by omega) (by decide) d_MO_broken_22 ?_
    refine z_icmp_gt hx hb (tgt := 99) d_MO_broken_23 (by decide) ⟨by omega, by omega⟩ ⟨by omega, by omega⟩ (fun c_23 => ?_) (fun c_23 => ?_)
    · have he : (fi, fo, Mc) = res := he
      subst he
      exact kk H locs ls hP hD hS (lv_sub hl [2, 3] rfl)
    · exact absurd c_23 (by omega)
  | succ f ih =>
    intro b fi fo Mc hbf hb1_ hb6 hfi hfo hsm he H locs ls hP hD hS hl
    have g1 : Mc 1 = M 1 := hsm 1 (by omega)
    have g6 : Mc 6 = M 6 := hsm 6 (by omega)
    have g2 : Mc 2 = M 2 := hsm 2 (by omega)
    have g0 : Mc 0 = M 0 := hsm 0 (by omega)
    have ht1 : rT Mc := eqb_rT hsm ht
    have hp1 : rP Mc q n := eqb_rP hsm hp
    have hs1 : rS Mc q := by unfold rS; rw [g2]; exact hs
    have heb1 : Mc 1 (q + 1) = ((eb : Nat) : Int) := by rw [g1]; exact heb
    have hen : p_endl (Mc 6) (b - 1) = p_endl (M 6) (b - 1) := by rw [g6]
    have hbr : r_brk (Mc 6) (Mc 1 (q + 1)) b = r_brk (M 6) (M 1 (q + 1)) b := by rw [g6, g1]
    refine lv_iload hx hb d_MO_broken_13 (lv_at hl 0 rfl) ?_
    refine lv_aload_n hx hb d_MO_broken_15 rfl (lv_at hl 4 rfl) ?_
    refine z_get (ci := 7) (C := R_MO) (T := T_MO) (N := 32) (v := .ref (ad (1))) hx hb hg in_MO hown hK hP (0) (by decide) rfl rfl 5 (by decide) (hg _ (List.mem_append_right _ (List.mem_append_right _ (List.mem_append_right _ (List.mem_append_right _ (List.mem_append_right _ (List.mem_append_right _ (List.mem_append_right _ (List.mem_append_right _ (List.mem_append_right _ (List.mem_append_right _ (List.mem_append_right _ (List.mem_append_right _ (List.mem_append_right _ (List.mem_append_left _ (List.mem_of_getElem? (i := 8) rfl)))))))))))))))) (fun _ h9 => h9) rfl d_MO_broken_16 ?_
    refine lv_iload_n hx hb d_MO_broken_19 rfl (lv_at hl 5 rfl) ?_
    refine z_iconst hx hb (z := 1) d_MO_broken_20 ?_
    refine z_iadd hx hb d_MO_broken_21 (v := ((q + 1 : Nat) : Int)) (by omega) ?_
    refine z_iald hx hb hK hP (1) 0 (by decide) (fun _ => rfl) rfl (q + 1) rfl (by omega) (by decide) d_MO_broken_22 ?_
    refine z_icmp_gt hx hb (tgt := 99) d_MO_broken_23 (by decide) ⟨by omega, by omega⟩ ⟨by omega, by omega⟩ (fun c_23 => ?_) (fun c_23 => ?_)
    · exact absurd c_23 (by omega)
    · refine lv_iload hx hb d_MO_broken_26 (lv_at hl 1 rfl) ?_
      refine z_if_eq hx hb (tgt := 99) d_MO_broken_28 (by decide) ⟨by decide, by decide⟩ (fun c_28 => ?_) (fun c_28 => ?_)
      · exact absurd c_28 (by decide)
      · refine lv_aload_n hx hb d_MO_broken_31 rfl (lv_at hl 4 rfl) ?_
        refine lv_iload hx hb d_MO_broken_32 (lv_at hl 0 rfl) ?_
        refine z_iconst hx hb (z := 1) d_MO_broken_34 ?_
        refine z_isub hx hb d_MO_broken_35 (v := ((b - 1 : Nat) : Int)) (by omega) ?_
        refine ro_V (As := [.int (iI (((b - 1 : Nat) : Int)))]) (rest := []) (z := bz (p_endl (Mc 6) (b - 1)) inferInstance) ⟨hx, hb, hml, hown, hg⟩ (r_isEnd l (b - 1) (by omega) (zb_6 ht1)) (cwV 1 hg (gt_V (List.mem_append_right _ (List.mem_append_right _ (List.mem_append_right _ (List.mem_append_right _ (List.mem_append_right _ (List.mem_append_right _ (List.mem_append_right _ (List.mem_append_right _ (List.mem_append_right _ (List.mem_append_right _ (List.mem_append_right _ (List.mem_append_right _ (List.mem_append_right _ (List.mem_append_right _ (List.mem_append_right _ (List.mem_append_left _ (List.mem_of_getElem? (i := 37) rfl))))))))))))))))) (List.mem_append_right _ (List.mem_append_right _ (List.mem_append_right _ (List.mem_append_right _ (List.mem_append_right _ (List.mem_append_right _ (List.mem_append_right _ (List.mem_append_right _ (List.mem_append_right _ (List.mem_append_right _ (List.mem_append_right _ (List.mem_append_right _ (List.mem_append_right _ (List.mem_append_right _ (List.mem_append_right _ (List.mem_append_left _ (List.mem_of_getElem? (i := 38) rfl))))))))))))))))) (List.mem_append_left _ (List.mem_of_getElem? (i := 25) rfl)) (List.mem_append_right _ (List.mem_append_left _ (List.mem_of_getElem? (i := 9) rfl))) (List.mem_append_right _ (List.mem_append_right _ (List.mem_append_right _ (List.mem_append_right _ (List.mem_append_right _ (List.mem_append_right _ (List.mem_append_right _ (List.mem_append_right _ (List.mem_append_right _ (List.mem_append_right _ (List.mem_append_right _ (List.mem_append_right _ (List.mem_append_right _ (List.mem_append_right _ (List.mem_append_right _ (List.mem_append_left _ (List.mem_of_getElem? (i := 39) rfl)))))))))))))))))) rfl rfl rfl (by decide +kernel) ⟨Nat.le_of_ble_eq_true rfl, Nat.le_of_ble_eq_true rfl⟩) hK hP (va_recv hK hP (ci := 7) (q0 := 0) rfl (wl_atE (by decide) rfl)) rfl hl.1 rfl (Nat.le_of_ble_eq_true rfl) d_MO_broken_36 ⟨Nat.zero_le _, Nat.zero_le _⟩ ?_
        refine z_ifb_ne hx hb (tgt := 46) d_MO_broken_39 (by decide) (fun c_39 => ?_) (fun c_39 => ?_)
        · refine z_iconst hx hb (z := 0) d_MO_broken_46 ?_
          refine lv_istore (lv' := [(5, .int (iI (0))), (6, .int (iI (((b : Nat) : Int)))), (4, .int (iI (fo))), (3, .int (iI (fi))), (0, .ref (ad (0))), (1, .int (iI (((q : Nat) : Int)))), (2, .int (iI (((a : Nat) : Int))))]) hx hb d_MO_broken_47 hl (by decide) rfl (fun ls hl => ?_)
          refine lv_aload_n hx hb d_MO_broken_49 rfl (lv_at hl 4 rfl) ?_
          refine lv_iload_n hx hb d_MO_broken_50 rfl (lv_at hl 5 rfl) ?_
          refine lv_iload hx hb d_MO_broken_51 (lv_at hl 1 rfl) ?_
          refine ro_V (As := [.int (iI (((q : Nat) : Int))), .int (iI (((b : Nat) : Int)))]) (rest := []) (z := bz (r_brk (Mc 6) (Mc 1 (q + 1)) b) inferInstance) ⟨hx, hb, hml, hown, hg⟩ (r_breaks l q b hq (by omega) (by omega) (by omega) (zb_6 ht1)) (cwV 2 hg (gt_V (List.mem_append_right _ (List.mem_append_right _ (List.mem_append_right _ (List.mem_append_right _ (List.mem_append_right _ (List.mem_append_right _ (List.mem_append_right _ (List.mem_append_right _ (List.mem_append_right _ (List.mem_append_right _ (List.mem_append_right _ (List.mem_append_right _ (List.mem_append_right _ (List.mem_append_right _ (List.mem_append_right _ (List.mem_append_right _ (List.mem_append_left _ (List.mem_of_getElem? (i := 0) rfl)))))))))))))))))) (List.mem_append_right _ (List.mem_append_right _ (List.mem_append_right _ (List.mem_append_right _ (List.mem_append_right _ (List.mem_append_right _ (List.mem_append_right _ (List.mem_append_right _ (List.mem_append_right _ (List.mem_append_right _ (List.mem_append_right _ (List.mem_append_right _ (List.mem_append_right _ (List.mem_append_right _ (List.mem_append_right _ (List.mem_append_right _ (List.mem_append_left _ (List.mem_of_getElem? (i := 1) rfl)))))))))))))))))) (List.mem_append_left _ (List.mem_of_getElem? (i := 26) rfl)) (List.mem_append_right _ (List.mem_append_left _ (List.mem_of_getElem? (i := 9) rfl))) (List.mem_append_right _ (List.mem_append_right _ (List.mem_append_right _ (List.mem_append_right _ (List.mem_append_right _ (List.mem_append_right _ (List.mem_append_right _ (List.mem_append_right _ (List.mem_append_right _ (List.mem_append_right _ (List.mem_append_right _ (List.mem_append_right _ (List.mem_append_right _ (List.mem_append_right _ (List.mem_append_right _ (List.mem_append_right _ (List.mem_append_left _ (List.mem_of_getElem? (i := 2) rfl))))))))))))))))))) rfl rfl rfl (by decide +kernel) ⟨Nat.le_of_ble_eq_true rfl, Nat.le_of_ble_eq_true rfl⟩) hK hP (va_recv hK hP (ci := 7) (q0 := 0) rfl (wl_atE (by decide) rfl)) rfl hl.1 rfl (Nat.le_of_ble_eq_true rfl) d_MO_broken_53 ⟨Nat.zero_le _, Nat.zero_le _⟩ ?_
          refine z_ifb_ne hx hb (tgt := 62) d_MO_broken_56 (by decide) (fun c_56 => ?_) (fun c_56 => ?_)
          · refine lv_iload_n hx hb d_MO_broken_62 rfl (lv_at hl 3 rfl) ?_
            refine z_if_ge hx hb (tgt := 71) d_MO_broken_63 (by decide) ⟨by omega, by omega⟩ (fun c_63 => ?_) (fun c_63 => ?_)
            · refine lv_iload_n hx hb d_MO_broken_71 rfl (lv_at hl 3 rfl) ?_
              refine lv_istore_n (lv' := [(3, .int (iI (fi))), (5, .int (iI (0))), (6, .int (iI (((b : Nat) : Int)))), (4, .int (iI (fo))), (0, .ref (ad (0))), (1, .int (iI (((q : Nat) : Int)))), (2, .int (iI (((a : Nat) : Int))))]) hx hb d_MO_broken_72 rfl hl (by decide) rfl (fun ls hl => ?_)
              refine lv_aload_n hx hb d_MO_broken_73 rfl (lv_at hl 4 rfl) ?_
              refine lv_iload_n hx hb d_MO_broken_74 rfl (lv_at hl 5 rfl) ?_
              refine lv_iload_n hx hb d_MO_broken_75 rfl (lv_at hl 6 rfl) ?_
              refine lv_iload hx hb d_MO_broken_76 (lv_at hl 2 rfl) ?_
              have hrm : r_m Mc q n a b Mc = r_m M q n a b Mc := by unfold r_m r_tabs r_sp r_sk r_beg; rw [g6, hsm 7 (by omega), hsm 4 (by omega), hsm 5 (by omega), g0, g2, g1]
              obtain ⟨rv, erv⟩ : ∃ q_, q_ = r_m M q n a b Mc := ⟨_, rfl⟩
              have hrv : 0 ≤ rv.1 ∧ rv.1 ≤ 37000000 := by rw [erv]; exact r_mb hs hp ht (by omega)
              refine rw_Vi (As := [.int (iI (((q : Nat) : Int))), .int (iI (((a : Nat) : Int))), .int (iI (((b : Nat) : Int)))]) (rest := []) (w' := (mo_w ad cs (rv.2))) (z := rv.1) ⟨hx, hb, hml, hown, hg⟩ ((hrm.trans erv.symm) ▸ r_measure l _ q n a b (by omega) (by omega) hs1 (by rw [g1]; exact hb1) hp1 ht1) (cwV 3 hg (gt_V (List.mem_append_right _ (List.mem_append_right _ (List.mem_append_right _ (List.mem_append_right _ (List.mem_append_right _ (List.mem_append_right _ (List.mem_append_right _ (List.mem_append_right _ (List.mem_append_right _ (List.mem_append_right _ (List.mem_append_right _ (List.mem_append_right _ (List.mem_append_right _ (List.mem_append_right _ (List.mem_append_right _ (List.mem_append_right _ (List.mem_append_left _ (List.mem_of_getElem? (i := 3) rfl)))))))))))))))))) (List.mem_append_right _ (List.mem_append_right _ (List.mem_append_right _ (List.mem_append_right _ (List.mem_append_right _ (List.mem_append_right _ (List.mem_append_right _ (List.mem_append_right _ (List.mem_append_right _ (List.mem_append_right _ (List.mem_append_right _ (List.mem_append_right _ (List.mem_append_right _ (List.mem_append_right _ (List.mem_append_right _ (List.mem_append_right _ (List.mem_append_left _ (List.mem_of_getElem? (i := 4) rfl)))))))))))))))))) (List.mem_append_left _ (List.mem_of_getElem? (i := 27) rfl)) (List.mem_append_right _ (List.mem_append_left _ (List.mem_of_getElem? (i := 9) rfl))) (List.mem_append_right _ (List.mem_append_right _ (List.mem_append_right _ (List.mem_append_right _ (List.mem_append_right _ (List.mem_append_right _ (List.mem_append_right _ (List.mem_append_right _ (List.mem_append_right _ (List.mem_append_right _ (List.mem_append_right _ (List.mem_append_right _ (List.mem_append_right _ (List.mem_append_right _ (List.mem_append_right _ (List.mem_append_right _ (List.mem_append_left _ (List.mem_of_getElem? (i := 5) rfl))))))))))))))))))) rfl rfl rfl (by decide +kernel) ⟨Nat.le_of_ble_eq_true rfl, Nat.le_of_ble_eq_true rfl⟩) hK hP hD hS hA (va_recv hK hP (ci := 7) (q0 := 0) rfl (wl_atE (by decide) rfl)) rfl hl.1 rfl (Nat.le_of_ble_eq_true rfl) d_MO_broken_78 ⟨Nat.zero_le _, Nat.zero_le _⟩ (fun H locs hP hD hS => ?_)
              obtain ⟨M_1, eM_1⟩ : ∃ q_, q_ = rv.2 := ⟨_, rfl⟩
              have hP : va_P D vwCl (mo_w ad cs M_1) H := by rw [eM_1]; exact hP
              have hD : va_D A (mo_w ad cs M_1) := by rw [eM_1]; exact hD
              have hs5 : eqb 9 10 M_1 M := by rw [eM_1, erv]; exact eqb_tr (r_ms_eq _ _ _ _ _ _ _ _ _ _) hsm
              have heb5 : M_1 1 (q + 1) = ((eb : Nat) : Int) := by rw [hs5 1 (by omega)]; exact heb
              have hrr : r_room M_1 q = r_room M q := by unfold r_room; rw [hs5 0 (by omega), hs5 2 (by omega)]
              refine lv_aload_n hx hb d_MO_broken_81 rfl (lv_at hl 4 rfl) ?_
              refine lv_iload_n hx hb d_MO_broken_82 rfl (lv_at hl 5 rfl) ?_
              refine ro_V (As := [.int (iI (((q : Nat) : Int)))]) (rest := [.int (iI (rv.1))]) (z := r_room M q) ⟨hx, hb, hml, hown, hg⟩ (hrr ▸ r_roomc l q hq) (cwV 1 hg (gt_V (List.mem_append_right _ (List.mem_append_right _ (List.mem_append_right _ (List.mem_append_right _ (List.mem_append_right _ (List.mem_append_right _ (List.mem_append_right _ (List.mem_append_right _ (List.mem_append_right _ (List.mem_append_right _ (List.mem_append_right _ (List.mem_append_right _ (List.mem_append_right _ (List.mem_append_right _ (List.mem_append_right _ (List.mem_append_right _ (List.mem_append_left _ (List.mem_of_getElem? (i := 21) rfl)))))))))))))))))) (List.mem_append_right _ (List.mem_append_right _ (List.mem_append_right _ (List.mem_append_right _ (List.mem_append_right _ (List.mem_append_right _ (List.mem_append_right _ (List.mem_append_right _ (List.mem_append_right _ (List.mem_append_right _ (List.mem_append_right _ (List.mem_append_right _ (List.mem_append_right _ (List.mem_append_right _ (List.mem_append_right _ (List.mem_append_right _ (List.mem_append_left _ (List.mem_of_getElem? (i := 22) rfl)))))))))))))))))) (List.mem_append_left _ (List.mem_of_getElem? (i := 33) rfl)) (List.mem_append_right _ (List.mem_append_left _ (List.mem_of_getElem? (i := 9) rfl))) (List.mem_append_right _ (List.mem_append_right _ (List.mem_append_right _ (List.mem_append_right _ (List.mem_append_right _ (List.mem_append_right _ (List.mem_append_right _ (List.mem_append_right _ (List.mem_append_right _ (List.mem_append_right _ (List.mem_append_right _ (List.mem_append_right _ (List.mem_append_right _ (List.mem_append_right _ (List.mem_append_right _ (List.mem_append_right _ (List.mem_append_left _ (List.mem_of_getElem? (i := 23) rfl))))))))))))))))))) rfl rfl rfl (by decide +kernel) ⟨Nat.le_of_ble_eq_true rfl, Nat.le_of_ble_eq_true rfl⟩) hK hP (va_recv hK hP (ci := 7) (q0 := 0) rfl (wl_atE (by decide) rfl)) rfl hl.1 rfl (Nat.le_of_ble_eq_true rfl) d_MO_broken_83 ⟨Nat.zero_le _, Nat.zero_le _⟩ ?_
              refine z_icmp_gt hx hb (tgt := 93) d_MO_broken_86 (by decide) ⟨by omega, by omega⟩ ⟨by omega, by omega⟩ (fun c_86 => ?_) (fun c_86 => ?_)
              · refine z_iinc (v := ((b + 1 : Nat) : Int)) (lv' := [(6, .int (iI (((b + 1 : Nat) : Int)))), (3, .int (iI (fi))), (5, .int (iI (0))), (4, .int (iI (fo))), (0, .ref (ad (0))), (1, .int (iI (((q : Nat) : Int)))), (2, .int (iI (((a : Nat) : Int))))]) hx hb d_MO_broken_93 hl (k := 2) rfl (by omega) (by decide) rfl (fun ls hl => ?_)
                refine lv_goto (tgt := 13) hx hb d_MO_broken_96 (by decide) ?_
                refine lv_iload hx hb d_MO_broken_13 (lv_at hl 0 rfl) ?_
                refine lv_aload_n hx hb d_MO_broken_15 rfl (lv_at hl 4 rfl) ?_
                refine z_get (ci := 7) (C := R_MO) (T := T_MO) (N := 32) (v := .ref (ad (1))) hx hb hg in_MO hown hK hP (0) (by decide) rfl rfl 5 (by decide) (hg _ (List.mem_append_right _ (List.mem_append_right _ (List.mem_append_right _ (List.mem_append_right _ (List.mem_append_right _ (List.mem_append_right _ (List.mem_append_right _ (List.mem_append_right _ (List.mem_append_right _ (List.mem_append_right _ (List.mem_append_right _ (List.mem_append_right _ (List.mem_append_right _ (List.mem_append_left _ (List.mem_of_getElem? (i := 8) rfl)))))))))))))))) (fun _ h9 => h9) rfl d_MO_broken_16 ?_
                refine lv_iload_n hx hb d_MO_broken_19 rfl (lv_at hl 5 rfl) ?_
                refine z_iconst hx hb (z := 1) d_MO_broken_20 ?_
                refine z_iadd hx hb d_MO_broken_21 (v := ((q + 1 : Nat) : Int)) (by omega) ?_
                refine z_iald hx hb hK hP (1) 0 (by decide) (fun _ => rfl) rfl (q + 1) rfl (by omega) (by decide) d_MO_broken_22 ?_
                refine z_icmp_gt hx hb (tgt := 99) d_MO_broken_23 (by decide) ⟨by omega, by omega⟩ ⟨by omega, by omega⟩ (fun c_23' => ?_) (fun c_23' => ?_)
                · have he2 : (fi, fo, M_1) = res := by rw [← he, eM_1]; unfold r_bk; rw [if_pos (hbr ▸ c_56), if_pos (hen ▸ c_39), ← erv, if_neg (by omega), if_neg (by omega)]
                  subst he2
                  exact kk H locs ls hP hD hS (lv_sub hl [3, 1] rfl)
                · refine lv_iload hx hb d_MO_broken_26 (lv_at hl 2 rfl) ?_
                  refine z_if_eq hx hb (tgt := 99) d_MO_broken_28 (by decide) ⟨by decide, by decide⟩ (fun c_28' => ?_) (fun c_28' => ?_)
                  · have he2 : (fi, fo, M_1) = res := by rw [← he, eM_1]; unfold r_bk; rw [if_pos (hbr ▸ c_56), if_pos (hen ▸ c_39), ← erv, if_neg (by omega), if_neg (by omega)]
                    subst he2
                    exact kk H locs ls hP hD hS (lv_sub hl [3, 1] rfl)
                  · exact absurd c_28' (by decide)
              · refine lv_iload hx hb d_MO_broken_89 (lv_at hl 2 rfl) ?_
                refine lv_istore (lv' := [(4, .int (iI (((b : Nat) : Int)))), (3, .int (iI (fi))), (5, .int (iI (0))), (6, .int (iI (((b : Nat) : Int)))), (0, .ref (ad (0))), (1, .int (iI (((q : Nat) : Int)))), (2, .int (iI (((a : Nat) : Int))))]) hx hb d_MO_broken_91 hl (by decide) rfl (fun ls hl => ?_)
                refine z_iinc (v := ((b + 1 : Nat) : Int)) (lv' := [(6, .int (iI (((b + 1 : Nat) : Int)))), (4, .int (iI (((b : Nat) : Int)))), (3, .int (iI (fi))), (5, .int (iI (0))), (0, .ref (ad (0))), (1, .int (iI (((q : Nat) : Int)))), (2, .int (iI (((a : Nat) : Int))))]) hx hb d_MO_broken_93 hl (k := 3) rfl (by omega) (by decide) rfl (fun ls hl => ?_)
                refine lv_goto (tgt := 13) hx hb d_MO_broken_96 (by decide) ?_
                refine lv_iload hx hb d_MO_broken_13 (lv_at hl 0 rfl) ?_
                refine lv_aload_n hx hb d_MO_broken_15 rfl (lv_at hl 4 rfl) ?_
                refine z_get (ci := 7) (C := R_MO) (T := T_MO) (N := 32) (v := .ref (ad (1))) hx hb hg in_MO hown hK hP (0) (by decide) rfl rfl 5 (by decide) (hg _ (List.mem_append_right _ (List.mem_append_right _ (List.mem_append_right _ (List.mem_append_right _ (List.mem_append_right _ (List.mem_append_right _ (List.mem_append_right _ (List.mem_append_right _ (List.mem_append_right _ (List.mem_append_right _ (List.mem_append_right _ (List.mem_append_right _ (List.mem_append_right _ (List.mem_append_left _ (List.mem_of_getElem? (i := 8) rfl)))))))))))))))) (fun _ h9 => h9) rfl d_MO_broken_16 ?_
                refine lv_iload_n hx hb d_MO_broken_19 rfl (lv_at hl 5 rfl) ?_
                refine z_iconst hx hb (z := 1) d_MO_broken_20 ?_
                refine z_iadd hx hb d_MO_broken_21 (v := ((q + 1 : Nat) : Int)) (by omega) ?_
                refine z_iald hx hb hK hP (1) 0 (by decide) (fun _ => rfl) rfl (q + 1) rfl (by omega) (by decide) d_MO_broken_22 ?_
                refine z_icmp_gt hx hb (tgt := 99) d_MO_broken_23 (by decide) ⟨by omega, by omega⟩ ⟨by omega, by omega⟩ (fun c_23' => ?_) (fun c_23' => ?_)
                · have he2 : (fi, ((b : Nat) : Int), M_1) = res := by rw [← he, eM_1]; unfold r_bk; rw [if_pos (hbr ▸ c_56), if_pos (hen ▸ c_39), ← erv, if_neg (by omega), if_pos (by omega)]
                  subst he2
                  exact kk H locs ls hP hD hS (lv_sub hl [1, 2] rfl)
                · refine lv_iload hx hb d_MO_broken_26 (lv_at hl 3 rfl) ?_
                  refine z_if_eq hx hb (tgt := 99) d_MO_broken_28 (by decide) ⟨by decide, by decide⟩ (fun c_28' => ?_) (fun c_28' => ?_)
                  · have he2 : (fi, ((b : Nat) : Int), M_1) = res := by rw [← he, eM_1]; unfold r_bk; rw [if_pos (hbr ▸ c_56), if_pos (hen ▸ c_39), ← erv, if_neg (by omega), if_pos (by omega)]
                    subst he2
                    exact kk H locs ls hP hD hS (lv_sub hl [1, 2] rfl)
                  · exact absurd c_28' (by decide)
            · refine lv_iload hx hb d_MO_broken_66 (lv_at hl 1 rfl) ?_
              refine lv_goto (tgt := 72) hx hb d_MO_broken_68 (by decide) ?_
              refine lv_istore_n (lv' := [(3, .int (iI (((b : Nat) : Int)))), (5, .int (iI (0))), (6, .int (iI (((b : Nat) : Int)))), (4, .int (iI (fo))), (0, .ref (ad (0))), (1, .int (iI (((q : Nat) : Int)))), (2, .int (iI (((a : Nat) : Int))))]) hx hb d_MO_broken_72 rfl hl (by decide) rfl (fun ls hl => ?_)
              refine lv_aload_n hx hb d_MO_broken_73 rfl (lv_at hl 4 rfl) ?_
              refine lv_iload_n hx hb d_MO_broken_74 rfl (lv_at hl 5 rfl) ?_
              refine lv_iload_n hx hb d_MO_broken_75 rfl (lv_at hl 6 rfl) ?_
              refine lv_iload hx hb d_MO_broken_76 (lv_at hl 2 rfl) ?_
              have hrm : r_m Mc q n a b Mc = r_m M q n a b Mc := by unfold r_m r_tabs r_sp r_sk r_beg; rw [g6, hsm 7 (by omega), hsm 4 (by omega), hsm 5 (by omega), g0, g2, g1]
              obtain ⟨rv, erv⟩ : ∃ q_, q_ = r_m M q n a b Mc := ⟨_, rfl⟩
              have hrv : 0 ≤ rv.1 ∧ rv.1 ≤ 37000000 := by rw [erv]; exact r_mb hs hp ht (by omega)
              refine rw_Vi (As := [.int (iI (((q : Nat) : Int))), .int (iI (((a : Nat) : Int))), .int (iI (((b : Nat) : Int)))]) (rest := []) (w' := (mo_w ad cs (rv.2))) (z := rv.1) ⟨hx, hb, hml, hown, hg⟩ ((hrm.trans erv.symm) ▸ r_measure l _ q n a b (by omega) (by omega) hs1 (by rw [g1]; exact hb1) hp1 ht1) (cwV 3 hg (gt_V (List.mem_append_right _ (List.mem_append_right _ (List.mem_append_right _ (List.mem_append_right _ (List.mem_append_right _ (List.mem_append_right _ (List.mem_append_right _ (List.mem_append_right _ (List.mem_append_right _ (List.mem_append_right _ (List.mem_append_right _ (List.mem_append_right _ (List.mem_append_right _ (List.mem_append_right _ (List.mem_append_right _ (List.mem_append_right _ (List.mem_append_left _ (List.mem_of_getElem? (i := 3) rfl)))))))))))))))))) (List.mem_append_right _ (List.mem_append_right _ (List.mem_append_right _ (List.mem_append_right _ (List.mem_append_right _ (List.mem_append_right _ (List.mem_append_right _ (List.mem_append_right _ (List.mem_append_right _ (List.mem_append_right _ (List.mem_append_right _ (List.mem_append_right _ (List.mem_append_right _ (List.mem_append_right _ (List.mem_append_right _ (List.mem_append_right _ (List.mem_append_left _ (List.mem_of_getElem? (i := 4) rfl)))))))))))))))))) (List.mem_append_left _ (List.mem_of_getElem? (i := 27) rfl)) (List.mem_append_right _ (List.mem_append_left _ (List.mem_of_getElem? (i := 9) rfl))) (List.mem_append_right _ (List.mem_append_right _ (List.mem_append_right _ (List.mem_append_right _ (List.mem_append_right _ (List.mem_append_right _ (List.mem_append_right _ (List.mem_append_right _ (List.mem_append_right _ (List.mem_append_right _ (List.mem_append_right _ (List.mem_append_right _ (List.mem_append_right _ (List.mem_append_right _ (List.mem_append_right _ (List.mem_append_right _ (List.mem_append_left _ (List.mem_of_getElem? (i := 5) rfl))))))))))))))))))) rfl rfl rfl (by decide +kernel) ⟨Nat.le_of_ble_eq_true rfl, Nat.le_of_ble_eq_true rfl⟩) hK hP hD hS hA (va_recv hK hP (ci := 7) (q0 := 0) rfl (wl_atE (by decide) rfl)) rfl hl.1 rfl (Nat.le_of_ble_eq_true rfl) d_MO_broken_78 ⟨Nat.zero_le _, Nat.zero_le _⟩ (fun H locs hP hD hS => ?_)
              obtain ⟨M_2, eM_2⟩ : ∃ q_, q_ = rv.2 := ⟨_, rfl⟩
              have hP : va_P D vwCl (mo_w ad cs M_2) H := by rw [eM_2]; exact hP
              have hD : va_D A (mo_w ad cs M_2) := by rw [eM_2]; exact hD
              have hs5 : eqb 9 10 M_2 M := by rw [eM_2, erv]; exact eqb_tr (r_ms_eq _ _ _ _ _ _ _ _ _ _) hsm
              have heb5 : M_2 1 (q + 1) = ((eb : Nat) : Int) := by rw [hs5 1 (by omega)]; exact heb
              have hrr : r_room M_2 q = r_room M q := by unfold r_room; rw [hs5 0 (by omega), hs5 2 (by omega)]
              refine lv_aload_n hx hb d_MO_broken_81 rfl (lv_at hl 4 rfl) ?_
              refine lv_iload_n hx hb d_MO_broken_82 rfl (lv_at hl 5 rfl) ?_
              refine ro_V (As := [.int (iI (((q : Nat) : Int)))]) (rest := [.int (iI (rv.1))]) (z := r_room M q) ⟨hx, hb, hml, hown, hg⟩ (hrr ▸ r_roomc l q hq) (cwV 1 hg (gt_V (List.mem_append_right _ (List.mem_append_right _ (List.mem_append_right _ (List.mem_append_right _ (List.mem_append_right _ (List.mem_append_right _ (List.mem_append_right _ (List.mem_append_right _ (List.mem_append_right _ (List.mem_append_right _ (List.mem_append_right _ (List.mem_append_right _ (List.mem_append_right _ (List.mem_append_right _ (List.mem_append_right _ (List.mem_append_right _ (List.mem_append_left _ (List.mem_of_getElem? (i := 21) rfl)))))))))))))))))) (List.mem_append_right _ (List.mem_append_right _ (List.mem_append_right _ (List.mem_append_right _ (List.mem_append_right _ (List.mem_append_right _ (List.mem_append_right _ (List.mem_append_right _ (List.mem_append_right _ (List.mem_append_right _ (List.mem_append_right _ (List.mem_append_right _ (List.mem_append_right _ (List.mem_append_right _ (List.mem_append_right _ (List.mem_append_right _ (List.mem_append_left _ (List.mem_of_getElem? (i := 22) rfl)))))))))))))))))) (List.mem_append_left _ (List.mem_of_getElem? (i := 33) rfl)) (List.mem_append_right _ (List.mem_append_left _ (List.mem_of_getElem? (i := 9) rfl))) (List.mem_append_right _ (List.mem_append_right _ (List.mem_append_right _ (List.mem_append_right _ (List.mem_append_right _ (List.mem_append_right _ (List.mem_append_right _ (List.mem_append_right _ (List.mem_append_right _ (List.mem_append_right _ (List.mem_append_right _ (List.mem_append_right _ (List.mem_append_right _ (List.mem_append_right _ (List.mem_append_right _ (List.mem_append_right _ (List.mem_append_left _ (List.mem_of_getElem? (i := 23) rfl))))))))))))))))))) rfl rfl rfl (by decide +kernel) ⟨Nat.le_of_ble_eq_true rfl, Nat.le_of_ble_eq_true rfl⟩) hK hP (va_recv hK hP (ci := 7) (q0 := 0) rfl (wl_atE (by decide) rfl)) rfl hl.1 rfl (Nat.le_of_ble_eq_true rfl) d_MO_broken_83 ⟨Nat.zero_le _, Nat.zero_le _⟩ ?_
              refine z_icmp_gt hx hb (tgt := 93) d_MO_broken_86 (by decide) ⟨by omega, by omega⟩ ⟨by omega, by omega⟩ (fun c_86 => ?_) (fun c_86 => ?_)
              · refine z_iinc (v := ((b + 1 : Nat) : Int)) (lv' := [(6, .int (iI (((b + 1 : Nat) : Int)))), (3, .int (iI (((b : Nat) : Int)))), (5, .int (iI (0))), (4, .int (iI (fo))), (0, .ref (ad (0))), (1, .int (iI (((q : Nat) : Int)))), (2, .int (iI (((a : Nat) : Int))))]) hx hb d_MO_broken_93 hl (k := 2) rfl (by omega) (by decide) rfl (fun ls hl => ?_)
                refine lv_goto (tgt := 13) hx hb d_MO_broken_96 (by decide) ?_
                refine lv_iload hx hb d_MO_broken_13 (lv_at hl 0 rfl) ?_
                refine lv_aload_n hx hb d_MO_broken_15 rfl (lv_at hl 4 rfl) ?_
                refine z_get (ci := 7) (C := R_MO) (T := T_MO) (N := 32) (v := .ref (ad (1))) hx hb hg in_MO hown hK hP (0) (by decide) rfl rfl 5 (by decide) (hg _ (List.mem_append_right _ (List.mem_append_right _ (List.mem_append_right _ (List.mem_append_right _ (List.mem_append_right _ (List.mem_append_right _ (List.mem_append_right _ (List.mem_append_right _ (List.mem_append_right _ (List.mem_append_right _ (List.mem_append_right _ (List.mem_append_right _ (List.mem_append_right _ (List.mem_append_left _ (List.mem_of_getElem? (i := 8) rfl)))))))))))))))) (fun _ h9 => h9) rfl d_MO_broken_16 ?_
                refine lv_iload_n hx hb d_MO_broken_19 rfl (lv_at hl 5 rfl) ?_
                refine z_iconst hx hb (z := 1) d_MO_broken_20 ?_
                refine z_iadd hx hb d_MO_broken_21 (v := ((q + 1 : Nat) : Int)) (by omega) ?_
                refine z_iald hx hb hK hP (1) 0 (by decide) (fun _ => rfl) rfl (q + 1) rfl (by omega) (by decide) d_MO_broken_22 ?_
                refine z_icmp_gt hx hb (tgt := 99) d_MO_broken_23 (by decide) ⟨by omega, by omega⟩ ⟨by omega, by omega⟩ (fun c_23' => ?_) (fun c_23' => ?_)
                · have he2 : (((b : Nat) : Int), fo, M_2) = res := by rw [← he, eM_2]; unfold r_bk; rw [if_pos (hbr ▸ c_56), if_pos (hen ▸ c_39), ← erv, if_pos (by omega), if_neg (by omega)]
                  subst he2
                  exact kk H locs ls hP hD hS (lv_sub hl [3, 1] rfl)
                · refine lv_iload hx hb d_MO_broken_26 (lv_at hl 2 rfl) ?_
                  refine z_if_eq hx hb (tgt := 99) d_MO_broken_28 (by decide) ⟨by decide, by decide⟩ (fun c_28' => ?_) (fun c_28' => ?_)
                  · have he2 : (((b : Nat) : Int), fo, M_2) = res := by rw [← he, eM_2]; unfold r_bk; rw [if_pos (hbr ▸ c_56), if_pos (hen ▸ c_39), ← erv, if_pos (by omega), if_neg (by omega)]
                    subst he2
                    exact kk H locs ls hP hD hS (lv_sub hl [3, 1] rfl)
                  · exact absurd c_28' (by decide)
              · refine lv_iload hx hb d_MO_broken_89 (lv_at hl 2 rfl) ?_
                refine lv_istore (lv' := [(4, .int (iI (((b : Nat) : Int)))), (3, .int (iI (((b : Nat) : Int)))), (5, .int (iI (0))), (6, .int (iI (((b : Nat) : Int)))), (0, .ref (ad (0))), (1, .int (iI (((q : Nat) : Int)))), (2, .int (iI (((a : Nat) : Int))))]) hx hb d_MO_broken_91 hl (by decide) rfl (fun ls hl => ?_)
                refine z_iinc (v := ((b + 1 : Nat) : Int)) (lv' := [(6, .int (iI (((b + 1 : Nat) : Int)))), (4, .int (iI (((b : Nat) : Int)))), (3, .int (iI (((b : Nat) : Int)))), (5, .int (iI (0))), (0, .ref (ad (0))), (1, .int (iI (((q : Nat) : Int)))), (2, .int (iI (((a : Nat) : Int))))]) hx hb d_MO_broken_93 hl (k := 3) rfl (by omega) (by decide) rfl (fun ls hl => ?_)
                refine lv_goto (tgt := 13) hx hb d_MO_broken_96 (by decide) ?_
                refine lv_iload hx hb d_MO_broken_13 (lv_at hl 0 rfl) ?_
                refine lv_aload_n hx hb d_MO_broken_15 rfl (lv_at hl 4 rfl) ?_
                refine z_get (ci := 7) (C := R_MO) (T := T_MO) (N := 32) (v := .ref (ad (1))) hx hb hg in_MO hown hK hP (0) (by decide) rfl rfl 5 (by decide) (hg _ (List.mem_append_right _ (List.mem_append_right _ (List.mem_append_right _ (List.mem_append_right _ (List.mem_append_right _ (List.mem_append_right _ (List.mem_append_right _ (List.mem_append_right _ (List.mem_append_right _ (List.mem_append_right _ (List.mem_append_right _ (List.mem_append_right _ (List.mem_append_right _ (List.mem_append_left _ (List.mem_of_getElem? (i := 8) rfl)))))))))))))))) (fun _ h9 => h9) rfl d_MO_broken_16 ?_
                refine lv_iload_n hx hb d_MO_broken_19 rfl (lv_at hl 5 rfl) ?_
                refine z_iconst hx hb (z := 1) d_MO_broken_20 ?_
                refine z_iadd hx hb d_MO_broken_21 (v := ((q + 1 : Nat) : Int)) (by omega) ?_
                refine z_iald hx hb hK hP (1) 0 (by decide) (fun _ => rfl) rfl (q + 1) rfl (by omega) (by decide) d_MO_broken_22 ?_
                refine z_icmp_gt hx hb (tgt := 99) d_MO_broken_23 (by decide) ⟨by omega, by omega⟩ ⟨by omega, by omega⟩ (fun c_23' => ?_) (fun c_23' => ?_)
                · have he2 : (((b : Nat) : Int), ((b : Nat) : Int), M_2) = res := by rw [← he, eM_2]; unfold r_bk; rw [if_pos (hbr ▸ c_56), if_pos (hen ▸ c_39), ← erv, if_pos (by omega), if_pos (by omega)]
                  subst he2
                  exact kk H locs ls hP hD hS (lv_sub hl [1, 2] rfl)
                · refine lv_iload hx hb d_MO_broken_26 (lv_at hl 3 rfl) ?_
                  refine z_if_eq hx hb (tgt := 99) d_MO_broken_28 (by decide) ⟨by decide, by decide⟩ (fun c_28' => ?_) (fun c_28' => ?_)
                  · have he2 : (((b : Nat) : Int), ((b : Nat) : Int), M_2) = res := by rw [← he, eM_2]; unfold r_bk; rw [if_pos (hbr ▸ c_56), if_pos (hen ▸ c_39), ← erv, if_pos (by omega), if_pos (by omega)]
                    subst he2
                    exact kk H locs ls hP hD hS (lv_sub hl [1, 2] rfl)
                  · exact absurd c_28' (by decide)
          · refine lv_goto (tgt := 93) hx hb d_MO_broken_59 (by decide) ?_
            refine z_iinc (v := ((b + 1 : Nat) : Int)) (lv' := [(6, .int (iI (((b + 1 : Nat) : Int)))), (5, .int (iI (0))), (4, .int (iI (fo))), (3, .int (iI (fi))), (0, .ref (ad (0))), (1, .int (iI (((q : Nat) : Int)))), (2, .int (iI (((a : Nat) : Int))))]) hx hb d_MO_broken_93 hl (k := 1) rfl (by omega) (by decide) rfl (fun ls hl => ?_)
            refine lv_goto (tgt := 13) hx hb d_MO_broken_96 (by decide) ?_
            refine lv_iload hx hb d_MO_broken_13 (lv_at hl 0 rfl) ?_
            refine lv_aload_n hx hb d_MO_broken_15 rfl (lv_at hl 4 rfl) ?_
            refine z_get (ci := 7) (C := R_MO) (T := T_MO) (N := 32) (v := .ref (ad (1))) hx hb hg in_MO hown hK hP (0) (by decide) rfl rfl 5 (by decide) (hg _ (List.mem_append_right _ (List.mem_append_right _ (List.mem_append_right _ (List.mem_append_right _ (List.mem_append_right _ (List.mem_append_right _ (List.mem_append_right _ (List.mem_append_right _ (List.mem_append_right _ (List.mem_append_right _ (List.mem_append_right _ (List.mem_append_right _ (List.mem_append_right _ (List.mem_append_left _ (List.mem_of_getElem? (i := 8) rfl)))))))))))))))) (fun _ h9 => h9) rfl d_MO_broken_16 ?_
            refine lv_iload_n hx hb d_MO_broken_19 rfl (lv_at hl 5 rfl) ?_
            refine z_iconst hx hb (z := 1) d_MO_broken_20 ?_
            refine z_iadd hx hb d_MO_broken_21 (v := ((q + 1 : Nat) : Int)) (by omega) ?_
            refine z_iald hx hb hK hP (1) 0 (by decide) (fun _ => rfl) rfl (q + 1) rfl (by omega) (by decide) d_MO_broken_22 ?_
            refine z_icmp_gt hx hb (tgt := 99) d_MO_broken_23 (by decide) ⟨by omega, by omega⟩ ⟨by omega, by omega⟩ (fun c_23' => ?_) (fun c_23' => ?_)
            · have he2 : (fi, fo, Mc) = res := by rw [← he]; unfold r_bk; rw [if_neg (fun h => c_56 (hbr.symm ▸ h)), if_pos (hen ▸ c_39)]
              subst he2
              exact kk H locs ls hP hD hS (lv_sub hl [2, 3] rfl)
            · refine lv_iload hx hb d_MO_broken_26 (lv_at hl 1 rfl) ?_
              refine z_if_eq hx hb (tgt := 99) d_MO_broken_28 (by decide) ⟨by decide, by decide⟩ (fun c_28' => ?_) (fun c_28' => ?_)
              · have he2 : (fi, fo, Mc) = res := by rw [← he]; unfold r_bk; rw [if_neg (fun h => c_56 (hbr.symm ▸ h)), if_pos (hen ▸ c_39)]
                subst he2
                exact kk H locs ls hP hD hS (lv_sub hl [2, 3] rfl)
              · exact absurd c_28' (by decide)
        · refine z_iconst hx hb (z := 1) d_MO_broken_42 ?_
          refine lv_goto (tgt := 47) hx hb d_MO_broken_43 (by decide) ?_
          refine lv_istore (lv' := [(5, .int (iI (1))), (6, .int (iI (((b : Nat) : Int)))), (4, .int (iI (fo))), (3, .int (iI (fi))), (0, .ref (ad (0))), (1, .int (iI (((q : Nat) : Int)))), (2, .int (iI (((a : Nat) : Int))))]) hx hb d_MO_broken_47 hl (by decide) rfl (fun ls hl => ?_)
          refine lv_aload_n hx hb d_MO_broken_49 rfl (lv_at hl 4 rfl) ?_
          refine lv_iload_n hx hb d_MO_broken_50 rfl (lv_at hl 5 rfl) ?_
          refine lv_iload hx hb d_MO_broken_51 (lv_at hl 1 rfl) ?_
          refine ro_V (As := [.int (iI (((q : Nat) : Int))), .int (iI (((b : Nat) : Int)))]) (rest := []) (z := bz (r_brk (Mc 6) (Mc 1 (q + 1)) b) inferInstance) ⟨hx, hb, hml, hown, hg⟩ (r_breaks l q b hq (by omega) (by omega) (by omega) (zb_6 ht1)) (cwV 2 hg (gt_V (List.mem_append_right _ (List.mem_append_right _ (List.mem_append_right _ (List.mem_append_right _ (List.mem_append_right _ (List.mem_append_right _ (List.mem_append_right _ (List.mem_append_right _ (List.mem_append_right _ (List.mem_append_right _ (List.mem_append_right _ (List.mem_append_right _ (List.mem_append_right _ (List.mem_append_right _ (List.mem_append_right _ (List.mem_append_right _ (List.mem_append_left _ (List.mem_of_getElem? (i := 0) rfl)))))))))))))))))) (List.mem_append_right _ (List.mem_append_right _ (List.mem_append_right _ (List.mem_append_right _ (List.mem_append_right _ (List.mem_append_right _ (List.mem_append_right _ (List.mem_append_right _ (List.mem_append_right _ (List.mem_append_right _ (List.mem_append_right _ (List.mem_append_right _ (List.mem_append_right _ (List.mem_append_right _ (List.mem_append_right _ (List.mem_append_right _ (List.mem_append_left _ (List.mem_of_getElem? (i := 1) rfl)))))))))))))))))) (List.mem_append_left _ (List.mem_of_getElem? (i := 26) rfl)) (List.mem_append_right _ (List.mem_append_left _ (List.mem_of_getElem? (i := 9) rfl))) (List.mem_append_right _ (List.mem_append_right _ (List.mem_append_right _ (List.mem_append_right _ (List.mem_append_right _ (List.mem_append_right _ (List.mem_append_right _ (List.mem_append_right _ (List.mem_append_right _ (List.mem_append_right _ (List.mem_append_right _ (List.mem_append_right _ (List.mem_append_right _ (List.mem_append_right _ (List.mem_append_right _ (List.mem_append_right _ (List.mem_append_left _ (List.mem_of_getElem? (i := 2) rfl))))))))))))))))))) rfl rfl rfl (by decide +kernel) ⟨Nat.le_of_ble_eq_true rfl, Nat.le_of_ble_eq_true rfl⟩) hK hP (va_recv hK hP (ci := 7) (q0 := 0) rfl (wl_atE (by decide) rfl)) rfl hl.1 rfl (Nat.le_of_ble_eq_true rfl) d_MO_broken_53 ⟨Nat.zero_le _, Nat.zero_le _⟩ ?_
          refine z_ifb_ne hx hb (tgt := 62) d_MO_broken_56 (by decide) (fun c_56 => ?_) (fun c_56 => ?_)
          · refine lv_iload_n hx hb d_MO_broken_62 rfl (lv_at hl 3 rfl) ?_
            refine z_if_ge hx hb (tgt := 71) d_MO_broken_63 (by decide) ⟨by omega, by omega⟩ (fun c_63 => ?_) (fun c_63 => ?_)
            · refine lv_iload_n hx hb d_MO_broken_71 rfl (lv_at hl 3 rfl) ?_
              refine lv_istore_n (lv' := [(3, .int (iI (fi))), (5, .int (iI (1))), (6, .int (iI (((b : Nat) : Int)))), (4, .int (iI (fo))), (0, .ref (ad (0))), (1, .int (iI (((q : Nat) : Int)))), (2, .int (iI (((a : Nat) : Int))))]) hx hb d_MO_broken_72 rfl hl (by decide) rfl (fun ls hl => ?_)
              refine lv_aload_n hx hb d_MO_broken_73 rfl (lv_at hl 4 rfl) ?_
              refine lv_iload_n hx hb d_MO_broken_74 rfl (lv_at hl 5 rfl) ?_
              refine lv_iload_n hx hb d_MO_broken_75 rfl (lv_at hl 6 rfl) ?_
              refine lv_iload hx hb d_MO_broken_76 (lv_at hl 2 rfl) ?_
              have hrm : r_m Mc q n a b Mc = r_m M q n a b Mc := by unfold r_m r_tabs r_sp r_sk r_beg; rw [g6, hsm 7 (by omega), hsm 4 (by omega), hsm 5 (by omega), g0, g2, g1]
              obtain ⟨rv, erv⟩ : ∃ q_, q_ = r_m M q n a b Mc := ⟨_, rfl⟩
              have hrv : 0 ≤ rv.1 ∧ rv.1 ≤ 37000000 := by rw [erv]; exact r_mb hs hp ht (by omega)
              refine rw_Vi (As := [.int (iI (((q : Nat) : Int))), .int (iI (((a : Nat) : Int))), .int (iI (((b : Nat) : Int)))]) (rest := []) (w' := (mo_w ad cs (rv.2))) (z := rv.1) ⟨hx, hb, hml, hown, hg⟩ ((hrm.trans erv.symm) ▸ r_measure l _ q n a b (by omega) (by omega) hs1 (by rw [g1]; exact hb1) hp1 ht1) (cwV 3 hg (gt_V (List.mem_append_right _ (List.mem_append_right _ (List.mem_append_right _ (List.mem_append_right _ (List.mem_append_right _ (List.mem_append_right _ (List.mem_append_right _ (List.mem_append_right _ (List.mem_append_right _ (List.mem_append_right _ (List.mem_append_right _ (List.mem_append_right _ (List.mem_append_right _ (List.mem_append_right _ (List.mem_append_right _ (List.mem_append_right _ (List.mem_append_left _ (List.mem_of_getElem? (i := 3) rfl)))))))))))))))))) (List.mem_append_right _ (List.mem_append_right _ (List.mem_append_right _ (List.mem_append_right _ (List.mem_append_right _ (List.mem_append_right _ (List.mem_append_right _ (List.mem_append_right _ (List.mem_append_right _ (List.mem_append_right _ (List.mem_append_right _ (List.mem_append_right _ (List.mem_append_right _ (List.mem_append_right _ (List.mem_append_right _ (List.mem_append_right _ (List.mem_append_left _ (List.mem_of_getElem? (i := 4) rfl)))))))))))))))))) (List.mem_append_left _ (List.mem_of_getElem? (i := 27) rfl)) (List.mem_append_right _ (List.mem_append_left _ (List.mem_of_getElem? (i := 9) rfl))) (List.mem_append_right _ (List.mem_append_right _ (List.mem_append_right _ (List.mem_append_right _ (List.mem_append_right _ (List.mem_append_right _ (List.mem_append_right _ (List.mem_append_right _ (List.mem_append_right _ (List.mem_append_right _ (List.mem_append_right _ (List.mem_append_right _ (List.mem_append_right _ (List.mem_append_right _ (List.mem_append_right _ (List.mem_append_right _ (List.mem_append_left _ (List.mem_of_getElem? (i := 5) rfl))))))))))))))))))) rfl rfl rfl (by decide +kernel) ⟨Nat.le_of_ble_eq_true rfl, Nat.le_of_ble_eq_true rfl⟩) hK hP hD hS hA (va_recv hK hP (ci := 7) (q0 := 0) rfl (wl_atE (by decide) rfl)) rfl hl.1 rfl (Nat.le_of_ble_eq_true rfl) d_MO_broken_78 ⟨Nat.zero_le _, Nat.zero_le _⟩ (fun H locs hP hD hS => ?_)
              obtain ⟨M_3, eM_3⟩ : ∃ q_, q_ = rv.2 := ⟨_, rfl⟩
              have hP : va_P D vwCl (mo_w ad cs M_3) H := by rw [eM_3]; exact hP
              have hD : va_D A (mo_w ad cs M_3) := by rw [eM_3]; exact hD
              have hs5 : eqb 9 10 M_3 M := by rw [eM_3, erv]; exact eqb_tr (r_ms_eq _ _ _ _ _ _ _ _ _ _) hsm
              have heb5 : M_3 1 (q + 1) = ((eb : Nat) : Int) := by rw [hs5 1 (by omega)]; exact heb
              have hrr : r_room M_3 q = r_room M q := by unfold r_room; rw [hs5 0 (by omega), hs5 2 (by omega)]
              refine lv_aload_n hx hb d_MO_broken_81 rfl (lv_at hl 4 rfl) ?_
              refine lv_iload_n hx hb d_MO_broken_82 rfl (lv_at hl 5 rfl) ?_
              refine ro_V (As := [.int (iI (((q : Nat) : Int)))]) (rest := [.int (iI (rv.1))]) (z := r_room M q) ⟨hx, hb, hml, hown, hg⟩ (hrr ▸ r_roomc l q hq) (cwV 1 hg (gt_V (List.mem_append_right _ (List.mem_append_right _ (List.mem_append_right _ (List.mem_append_right _ (List.mem_append_right _ (List.mem_append_right _ (List.mem_append_right _ (List.mem_append_right _ (List.mem_append_right _ (List.mem_append_right _ (List.mem_append_right _ (List.mem_append_right _ (List.mem_append_right _ (List.mem_append_right _ (List.mem_append_right _ (List.mem_append_right _ (List.mem_append_left _ (List.mem_of_getElem? (i := 21) rfl)))))))))))))))))) (List.mem_append_right _ (List.mem_append_right _ (List.mem_append_right _ (List.mem_append_right _ (List.mem_append_right _ (List.mem_append_right _ (List.mem_append_right _ (List.mem_append_right _ (List.mem_append_right _ (List.mem_append_right _ (List.mem_append_right _ (List.mem_append_right _ (List.mem_append_right _ (List.mem_append_right _ (List.mem_append_right _ (List.mem_append_right _ (List.mem_append_left _ (List.mem_of_getElem? (i := 22) rfl)))))))))))))))))) (List.mem_append_left _ (List.mem_of_getElem? (i := 33) rfl)) (List.mem_append_right _ (List.mem_append_left _ (List.mem_of_getElem? (i := 9) rfl))) (List.mem_append_right _ (List.mem_append_right _ (List.mem_append_right _ (List.mem_append_right _ (List.mem_append_right _ (List.mem_append_right _ (List.mem_append_right _ (List.mem_append_right _ (List.mem_append_right _ (List.mem_append_right _ (List.mem_append_right _ (List.mem_append_right _ (List.mem_append_right _ (List.mem_append_right _ (List.mem_append_right _ (List.mem_append_right _ (List.mem_append_left _ (List.mem_of_getElem? (i := 23) rfl))))))))))))))))))) rfl rfl rfl (by decide +kernel) ⟨Nat.le_of_ble_eq_true rfl, Nat.le_of_ble_eq_true rfl⟩) hK hP (va_recv hK hP (ci := 7) (q0 := 0) rfl (wl_atE (by decide) rfl)) rfl hl.1 rfl (Nat.le_of_ble_eq_true rfl) d_MO_broken_83 ⟨Nat.zero_le _, Nat.zero_le _⟩ ?_
              refine z_icmp_gt hx hb (tgt := 93) d_MO_broken_86 (by decide) ⟨by omega, by omega⟩ ⟨by omega, by omega⟩ (fun c_86 => ?_) (fun c_86 => ?_)
              · refine z_iinc (v := ((b + 1 : Nat) : Int)) (lv' := [(6, .int (iI (((b + 1 : Nat) : Int)))), (3, .int (iI (fi))), (5, .int (iI (1))), (4, .int (iI (fo))), (0, .ref (ad (0))), (1, .int (iI (((q : Nat) : Int)))), (2, .int (iI (((a : Nat) : Int))))]) hx hb d_MO_broken_93 hl (k := 2) rfl (by omega) (by decide) rfl (fun ls hl => ?_)
                refine lv_goto (tgt := 13) hx hb d_MO_broken_96 (by decide) ?_
                have hF : r_bk M q n a f (b + 1) (fi) (fo) M_3 = res := by rw [← he, eM_3]; conv => rhs; unfold r_bk; rw [if_pos (hbr ▸ c_56), if_neg (fun h => c_39 (hen.symm ▸ h)), ← erv, if_neg (by omega), if_neg (by omega)]
                exact ih (b + 1) (fi) (fo) M_3 (by omega) (by omega) (by omega) (by omega) (by omega) hs5 hF H locs ls hP hD hS (lv_sub hl [0, 2, 3, 1, 4, 5, 6] rfl)
              · refine lv_iload hx hb d_MO_broken_89 (lv_at hl 2 rfl) ?_
                refine lv_istore (lv' := [(4, .int (iI (((b : Nat) : Int)))), (3, .int (iI (fi))), (5, .int (iI (1))), (6, .int (iI (((b : Nat) : Int)))), (0, .ref (ad (0))), (1, .int (iI (((q : Nat) : Int)))), (2, .int (iI (((a : Nat) : Int))))]) hx hb d_MO_broken_91 hl (by decide) rfl (fun ls hl => ?_)
                refine z_iinc (v := ((b + 1 : Nat) : Int)) (lv' := [(6, .int (iI (((b + 1 : Nat) : Int)))), (4, .int (iI (((b : Nat) : Int)))), (3, .int (iI (fi))), (5, .int (iI (1))), (0, .ref (ad (0))), (1, .int (iI (((q : Nat) : Int)))), (2, .int (iI (((a : Nat) : Int))))]) hx hb d_MO_broken_93 hl (k := 3) rfl (by omega) (by decide) rfl (fun ls hl => ?_)
                refine lv_goto (tgt := 13) hx hb d_MO_broken_96 (by decide) ?_
                have hF : r_bk M q n a f (b + 1) (fi) (((b : Nat) : Int)) M_3 = res := by rw [← he, eM_3]; conv => rhs; unfold r_bk; rw [if_pos (hbr ▸ c_56), if_neg (fun h => c_39 (hen.symm ▸ h)), ← erv, if_neg (by omega), if_pos (by omega)]
                exact ih (b + 1) (fi) (((b : Nat) : Int)) M_3 (by omega) (by omega) (by omega) (by omega) (by omega) hs5 hF H locs ls hP hD hS (lv_sub hl [0, 3, 1, 2, 4, 5, 6] rfl)
            · refine lv_iload hx hb d_MO_broken_66 (lv_at hl 1 rfl) ?_
              refine lv_goto (tgt := 72) hx hb d_MO_broken_68 (by decide) ?_
              refine lv_istore_n (lv' := [(3, .int (iI (((b : Nat) : Int)))), (5, .int (iI (1))), (6, .int (iI (((b : Nat) : Int)))), (4, .int (iI (fo))), (0, .ref (ad (0))), (1, .int (iI (((q : Nat) : Int)))), (2, .int (iI (((a : Nat) : Int))))]) hx hb d_MO_broken_72 rfl hl (by decide) rfl (fun ls hl => ?_)
              refine lv_aload_n hx hb d_MO_broken_73 rfl (lv_at hl 4 rfl) ?_
              refine lv_iload_n hx hb d_MO_broken_74 rfl (lv_at hl 5 rfl) ?_
              refine lv_iload_n hx hb d_MO_broken_75 rfl (lv_at hl 6 rfl) ?_
              refine lv_iload hx hb d_MO_broken_76 (lv_at hl 2 rfl) ?_
              have hrm : r_m Mc q n a b Mc = r_m M q n a b Mc := by unfold r_m r_tabs r_sp r_sk r_beg; rw [g6, hsm 7 (by omega), hsm 4 (by omega), hsm 5 (by omega), g0, g2, g1]
              obtain ⟨rv, erv⟩ : ∃ q_, q_ = r_m M q n a b Mc := ⟨_, rfl⟩
              have hrv : 0 ≤ rv.1 ∧ rv.1 ≤ 37000000 := by rw [erv]; exact r_mb hs hp ht (by omega)
              refine rw_Vi (As := [.int (iI (((q : Nat) : Int))), .int (iI (((a : Nat) : Int))), .int (iI (((b : Nat) : Int)))]) (rest := []) (w' := (mo_w ad cs (rv.2))) (z := rv.1) ⟨hx, hb, hml, hown, hg⟩ ((hrm.trans erv.symm) ▸ r_measure l _ q n a b (by omega) (by omega) hs1 (by rw [g1]; exact hb1) hp1 ht1) (cwV 3 hg (gt_V (List.mem_append_right _ (List.mem_append_right _ (List.mem_append_right _ (List.mem_append_right _ (List.mem_append_right _ (List.mem_append_right _ (List.mem_append_right _ (List.mem_append_right _ (List.mem_append_right _ (List.mem_append_right _ (List.mem_append_right _ (List.mem_append_right _ (List.mem_append_right _ (List.mem_append_right _ (List.mem_append_right _ (List.mem_append_right _ (List.mem_append_left _ (List.mem_of_getElem? (i := 3) rfl)))))))))))))))))) (List.mem_append_right _ (List.mem_append_right _ (List.mem_append_right _ (List.mem_append_right _ (List.mem_append_right _ (List.mem_append_right _ (List.mem_append_right _ (List.mem_append_right _ (List.mem_append_right _ (List.mem_append_right _ (List.mem_append_right _ (List.mem_append_right _ (List.mem_append_right _ (List.mem_append_right _ (List.mem_append_right _ (List.mem_append_right _ (List.mem_append_left _ (List.mem_of_getElem? (i := 4) rfl)))))))))))))))))) (List.mem_append_left _ (List.mem_of_getElem? (i := 27) rfl)) (List.mem_append_right _ (List.mem_append_left _ (List.mem_of_getElem? (i := 9) rfl))) (List.mem_append_right _ (List.mem_append_right _ (List.mem_append_right _ (List.mem_append_right _ (List.mem_append_right _ (List.mem_append_right _ (List.mem_append_right _ (List.mem_append_right _ (List.mem_append_right _ (List.mem_append_right _ (List.mem_append_right _ (List.mem_append_right _ (List.mem_append_right _ (List.mem_append_right _ (List.mem_append_right _ (List.mem_append_right _ (List.mem_append_left _ (List.mem_of_getElem? (i := 5) rfl))))))))))))))))))) rfl rfl rfl (by decide +kernel) ⟨Nat.le_of_ble_eq_true rfl, Nat.le_of_ble_eq_true rfl⟩) hK hP hD hS hA (va_recv hK hP (ci := 7) (q0 := 0) rfl (wl_atE (by decide) rfl)) rfl hl.1 rfl (Nat.le_of_ble_eq_true rfl) d_MO_broken_78 ⟨Nat.zero_le _, Nat.zero_le _⟩ (fun H locs hP hD hS => ?_)
              obtain ⟨M_4, eM_4⟩ : ∃ q_, q_ = rv.2 := ⟨_, rfl⟩
              have hP : va_P D vwCl (mo_w ad cs M_4) H := by rw [eM_4]; exact hP
              have hD : va_D A (mo_w ad cs M_4) := by rw [eM_4]; exact hD
              have hs5 : eqb 9 10 M_4 M := by rw [eM_4, erv]; exact eqb_tr (r_ms_eq _ _ _ _ _ _ _ _ _ _) hsm
              have heb5 : M_4 1 (q + 1) = ((eb : Nat) : Int) := by rw [hs5 1 (by omega)]; exact heb
              have hrr : r_room M_4 q = r_room M q := by unfold r_room; rw [hs5 0 (by omega), hs5 2 (by omega)]
              refine lv_aload_n hx hb d_MO_broken_81 rfl (lv_at hl 4 rfl) ?_
              refine lv_iload_n hx hb d_MO_broken_82 rfl (lv_at hl 5 rfl) ?_
              refine ro_V (As := [.int (iI (((q : Nat) : Int)))]) (rest := [.int (iI (rv.1))]) (z := r_room M q) ⟨hx, hb, hml, hown, hg⟩ (hrr ▸ r_roomc l q hq) (cwV 1 hg (gt_V (List.mem_append_right _ (List.mem_append_right _ (List.mem_append_right _ (List.mem_append_right _ (List.mem_append_right _ (List.mem_append_right _ (List.mem_append_right _ (List.mem_append_right _ (List.mem_append_right _ (List.mem_append_right _ (List.mem_append_right _ (List.mem_append_right _ (List.mem_append_right _ (List.mem_append_right _ (List.mem_append_right _ (List.mem_append_right _ (List.mem_append_left _ (List.mem_of_getElem? (i := 21) rfl)))))))))))))))))) (List.mem_append_right _ (List.mem_append_right _ (List.mem_append_right _ (List.mem_append_right _ (List.mem_append_right _ (List.mem_append_right _ (List.mem_append_right _ (List.mem_append_right _ (List.mem_append_right _ (List.mem_append_right _ (List.mem_append_right _ (List.mem_append_right _ (List.mem_append_right _ (List.mem_append_right _ (List.mem_append_right _ (List.mem_append_right _ (List.mem_append_left _ (List.mem_of_getElem? (i := 22) rfl)))))))))))))))))) (List.mem_append_left _ (List.mem_of_getElem? (i := 33) rfl)) (List.mem_append_right _ (List.mem_append_left _ (List.mem_of_getElem? (i := 9) rfl))) (List.mem_append_right _ (List.mem_append_right _ (List.mem_append_right _ (List.mem_append_right _ (List.mem_append_right _ (List.mem_append_right _ (List.mem_append_right _ (List.mem_append_right _ (List.mem_append_right _ (List.mem_append_right _ (List.mem_append_right _ (List.mem_append_right _ (List.mem_append_right _ (List.mem_append_right _ (List.mem_append_right _ (List.mem_append_right _ (List.mem_append_left _ (List.mem_of_getElem? (i := 23) rfl))))))))))))))))))) rfl rfl rfl (by decide +kernel) ⟨Nat.le_of_ble_eq_true rfl, Nat.le_of_ble_eq_true rfl⟩) hK hP (va_recv hK hP (ci := 7) (q0 := 0) rfl (wl_atE (by decide) rfl)) rfl hl.1 rfl (Nat.le_of_ble_eq_true rfl) d_MO_broken_83 ⟨Nat.zero_le _, Nat.zero_le _⟩ ?_
              refine z_icmp_gt hx hb (tgt := 93) d_MO_broken_86 (by decide) ⟨by omega, by omega⟩ ⟨by omega, by omega⟩ (fun c_86 => ?_) (fun c_86 => ?_)
              · refine z_iinc (v := ((b + 1 : Nat) : Int)) (lv' := [(6, .int (iI (((b + 1 : Nat) : Int)))), (3, .int (iI (((b : Nat) : Int)))), (5, .int (iI (1))), (4, .int (iI (fo))), (0, .ref (ad (0))), (1, .int (iI (((q : Nat) : Int)))), (2, .int (iI (((a : Nat) : Int))))]) hx hb d_MO_broken_93 hl (k := 2) rfl (by omega) (by decide) rfl (fun ls hl => ?_)
                refine lv_goto (tgt := 13) hx hb d_MO_broken_96 (by decide) ?_
                have hF : r_bk M q n a f (b + 1) (((b : Nat) : Int)) (fo) M_4 = res := by rw [← he, eM_4]; conv => rhs; unfold r_bk; rw [if_pos (hbr ▸ c_56), if_neg (fun h => c_39 (hen.symm ▸ h)), ← erv, if_pos (by omega), if_neg (by omega)]
                exact ih (b + 1) (((b : Nat) : Int)) (fo) M_4 (by omega) (by omega) (by omega) (by omega) (by omega) hs5 hF H locs ls hP hD hS (lv_sub hl [0, 2, 3, 1, 4, 5, 6] rfl)
              · refine lv_iload hx hb d_MO_broken_89 (lv_at hl 2 rfl) ?_
                refine lv_istore (lv' := [(4, .int (iI (((b : Nat) : Int)))), (3, .int (iI (((b : Nat) : Int)))), (5, .int (iI (1))), (6, .int (iI (((b : Nat) : Int)))), (0, .ref (ad (0))), (1, .int (iI (((q : Nat) : Int)))), (2, .int (iI (((a : Nat) : Int))))]) hx hb d_MO_broken_91 hl (by decide) rfl (fun ls hl => ?_)
                refine z_iinc (v := ((b + 1 : Nat) : Int)) (lv' := [(6, .int (iI (((b + 1 : Nat) : Int)))), (4, .int (iI (((b : Nat) : Int)))), (3, .int (iI (((b : Nat) : Int)))), (5, .int (iI (1))), (0, .ref (ad (0))), (1, .int (iI (((q : Nat) : Int)))), (2, .int (iI (((a : Nat) : Int))))]) hx hb d_MO_broken_93 hl (k := 3) rfl (by omega) (by decide) rfl (fun ls hl => ?_)
                refine lv_goto (tgt := 13) hx hb d_MO_broken_96 (by decide) ?_
                have hF : r_bk M q n a f (b + 1) (((b : Nat) : Int)) (((b : Nat) : Int)) M_4 = res := by rw [← he, eM_4]; conv => rhs; unfold r_bk; rw [if_pos (hbr ▸ c_56), if_neg (fun h => c_39 (hen.symm ▸ h)), ← erv, if_pos (by omega), if_pos (by omega)]
                exact ih (b + 1) (((b : Nat) : Int)) (((b : Nat) : Int)) M_4 (by omega) (by omega) (by omega) (by omega) (by omega) hs5 hF H locs ls hP hD hS (lv_sub hl [0, 3, 1, 2, 4, 5, 6] rfl)
          · refine lv_goto (tgt := 93) hx hb d_MO_broken_59 (by decide) ?_
            refine z_iinc (v := ((b + 1 : Nat) : Int)) (lv' := [(6, .int (iI (((b + 1 : Nat) : Int)))), (5, .int (iI (1))), (4, .int (iI (fo))), (3, .int (iI (fi))), (0, .ref (ad (0))), (1, .int (iI (((q : Nat) : Int)))), (2, .int (iI (((a : Nat) : Int))))]) hx hb d_MO_broken_93 hl (k := 1) rfl (by omega) (by decide) rfl (fun ls hl => ?_)
            refine lv_goto (tgt := 13) hx hb d_MO_broken_96 (by decide) ?_
            have hF : r_bk M q n a f (b + 1) (fi) (fo) Mc = res := by rw [← he]; conv => rhs; unfold r_bk; rw [if_neg (fun h => c_56 (hbr.symm ▸ h)), if_neg (fun h => c_39 (hen.symm ▸ h))]
            exact ih (b + 1) (fi) (fo) Mc (by omega) (by omega) (by omega) (by omega) (by omega) hsm hF H locs ls hP hD hS (lv_sub hl [0, 1, 2, 3, 4, 5, 6] rfl)
set_option maxHeartbeats 4000000 in
set_option maxRecDepth 100000 in
/-- broken -/
theorem r_broken (l : Launch) {D : va_G} {ad : Nat → Nat} {cs : ClassId} {M : Nat → Nat → Int} (sz : Nat) (q n a eb : Nat) (hae : a ≤ eb) (he6 : eb ≤ 600) (heb : M 1 (q + 1) = ((eb : Nat) : Int)) (hs : rS M q) (hb1 : 0 ≤ M 1 q ∧ M 1 q ≤ 600) (hp : rP M q n) (ht : rT M) : Met l y_MO_broken ws_MO_broken ({ frames := 4, cells := 0, slots := 0, locals := 101 } : Room) (va_Pc [.ref (ad (0)), .int (iI (((q : Nat) : Int))), .int (iI (((a : Nat) : Int)))] (rw_B D vwCl (mo_tys cs) (mo_w ad cs M) sz)) (va_Qi (fun (r : Int32) (_ : Unit) => r = iI (if (r_bk M q n a (eb - a) (a + 1) (-1) (-1) M).2.1 < 0 then (r_bk M q n a (eb - a) (a + 1) (-1) (-1) M).1 else (r_bk M q n a (eb - a) (a + 1) (-1) (-1) M).2.1)) (rw_E D vwCl (mo_tys cs) (mo_w ad cs M) (mo_w ad cs ((r_bk M q n a (eb - a) (a + 1) (-1) (-1) M).2.2)) sz) (va_A (mo_w ad cs M) sz)) 0 0 (va_A (mo_w ad cs M) sz) := by
  refine Met.ofW (cc := b_MO_broken) (maxL := 7) (ret := (some .int)) (by decide) rfl ?_
  intro p e s m args below meth c s₁ B hml hv
  obtain ⟨rfl, hsz, hP, hK, hD0⟩ := hv
  have hx := B.exec
  have hb := B.bytes
  have hr := B.returns
  have hts := atoms_spec (ws := ws_MO_broken) B.pre
  have hg : ∀ w ∈ gt, w.before _ s = true := fun w h => hts w (List.mem_cons_of_mem _ h)
  have hown : s.vm.findClass R_MO = some m.cls := findClass_of_methodNamed B.named
  have hlocks := B.notSynchronized
  subst hsz
  have hD := hD0.self (sz := s.heap.size)
  have hA : ∀ q : Nat, s.heap.size ≤ q → va_A (mo_w ad cs M) s.heap.size q := fun q h => Or.inr h
  have hS : va_S (va_A (mo_w ad cs M) s.heap.size) s.heap s.heap [] := va_S.rf
  have hl := lv_entry ([.ref (ad (0)), .int (iI (((q : Nat) : Int))), .int (iI (((a : Nat) : Int)))]) (n := 7) (Nat.le_of_ble_eq_true rfl)
  rw [lg_entry_eq]
  generalize (lg_sl ([.ref (ad (0)), .int (iI (((q : Nat) : Int))), .int (iI (((a : Nat) : Int)))]) ++ List.replicate (7 - (lg_sl ([.ref (ad (0)), .int (iI (((q : Nat) : Int))), .int (iI (((a : Nat) : Int)))])).length) Slot.unset).toArray = ls at hl ⊢
  have hl : lv_has ls 7 [(0, .ref (ad (0))), (1, .int (iI (((q : Nat) : Int)))), (2, .int (iI (((a : Nat) : Int))))] := hl
  have hbb := r_bkb (M0 := M) (q := q) (n := n) (a := a) (eb - a) (a + 1) (-1) (-1) M (by omega) (by omega) (by omega)
  refine z_iconst hx hb (z := (-1)) d_MO_broken_0 ?_
  refine lv_istore_n (lv' := [(3, .int (iI ((-1)))), (0, .ref (ad (0))), (1, .int (iI (((q : Nat) : Int)))), (2, .int (iI (((a : Nat) : Int))))]) hx hb d_MO_broken_1 rfl hl (by decide) rfl (fun ls hl => ?_)
  refine z_iconst hx hb (z := (-1)) d_MO_broken_2 ?_
  refine lv_istore (lv' := [(4, .int (iI ((-1)))), (3, .int (iI ((-1)))), (0, .ref (ad (0))), (1, .int (iI (((q : Nat) : Int)))), (2, .int (iI (((a : Nat) : Int))))]) hx hb d_MO_broken_3 hl (by decide) rfl (fun ls hl => ?_)
  refine z_iconst hx hb (z := 1) d_MO_broken_5 ?_
  refine lv_istore (lv' := [(5, .int (iI (1))), (4, .int (iI ((-1)))), (3, .int (iI ((-1)))), (0, .ref (ad (0))), (1, .int (iI (((q : Nat) : Int)))), (2, .int (iI (((a : Nat) : Int))))]) hx hb d_MO_broken_6 hl (by decide) rfl (fun ls hl => ?_)
  refine lv_iload_n hx hb d_MO_broken_8 rfl (lv_at hl 5 rfl) ?_
  refine z_iconst hx hb (z := 1) d_MO_broken_9 ?_
  refine z_iadd hx hb d_MO_broken_10 (v := ((a + 1 : Nat) : Int)) (by omega) ?_
  refine lv_istore (lv' := [(6, .int (iI (((a + 1 : Nat) : Int)))), (5, .int (iI (1))), (4, .int (iI ((-1)))), (3, .int (iI ((-1)))), (0, .ref (ad (0))), (1, .int (iI (((q : Nat) : Int)))), (2, .int (iI (((a : Nat) : Int))))]) hx hb d_MO_broken_11 hl (by decide) rfl (fun ls hl => ?_)
  refine lr_broken hx hb hml hg hown hK hA q n a eb hae he6 heb hs hb1 hp ht (r_bk M q n a (eb - a) (a + 1) (-1) (-1) M) (fun H locs ls hP hD hS hl => ?_) (eb - a) (a + 1) (-1) (-1) M (by omega) (by omega) (by omega) (by omega) (by omega) eqb_rf rfl s.heap [] ls hP hD hS (lv_sub hl [0, 1, 2, 3, 4, 5, 6] rfl)
  refine lv_iload hx hb d_MO_broken_99 (lv_at hl 0 rfl) ?_
  refine z_if_ge hx hb (tgt := 108) d_MO_broken_101 (by decide) ⟨by omega, by omega⟩ (fun c_101 => ?_) (fun c_101 => ?_)
  · refine lv_iload hx hb d_MO_broken_108 (lv_at hl 0 rfl) ?_
    have hM : (r_bk M q n a (eb - a) (a + 1) (-1) (-1) M).2.2 = (r_bk M q n a (eb - a) (a + 1) (-1) (-1) M).2.2 := rfl
    have eW : mo_w ad cs ((r_bk M q n a (eb - a) (a + 1) (-1) (-1) M).2.2) = mo_w ad cs ((r_bk M q n a (eb - a) (a + 1) (-1) (-1) M).2.2) := by rw [hM]
    have hP := Eq.mp (congrArg (fun q => va_P D vwCl q _) eW) hP
    have hD := Eq.mp (congrArg (va_D _) eW) hD
    exact W.iret (v := iI ((r_bk M q n a (eb - a) (a + 1) (-1) (-1) M).2.1)) hx hb hr (fun t ht hW => ⟨⟨_, (), rfl, by first | rw [if_pos (by omega)] | rw [if_neg (by omega)], by rw [ht]; exact hP, va_K.moved hW.alike hK, hD⟩, hS.F ht⟩) hS.2.2 d_MO_broken_110
  · refine lv_iload_n hx hb d_MO_broken_104 rfl (lv_at hl 1 rfl) ?_
    refine lv_goto (tgt := 110) hx hb d_MO_broken_105 (by decide) ?_
    have hM : (r_bk M q n a (eb - a) (a + 1) (-1) (-1) M).2.2 = (r_bk M q n a (eb - a) (a + 1) (-1) (-1) M).2.2 := rfl
    have eW : mo_w ad cs ((r_bk M q n a (eb - a) (a + 1) (-1) (-1) M).2.2) = mo_w ad cs ((r_bk M q n a (eb - a) (a + 1) (-1) (-1) M).2.2) := by rw [hM]
    have hP := Eq.mp (congrArg (fun q => va_P D vwCl q _) eW) hP
    have hD := Eq.mp (congrArg (va_D _) eW) hD
    exact W.iret (v := iI ((r_bk M q n a (eb - a) (a + 1) (-1) (-1) M).1)) hx hb hr (fun t ht hW => ⟨⟨_, (), rfl, by first | rw [if_pos (by omega)] | rw [if_neg (by omega)], by rw [ht]; exact hP, va_K.moved hW.alike hK, hD⟩, hS.F ht⟩) hS.2.2 d_MO_broken_110
