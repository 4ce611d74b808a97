set_option maxHeartbeats 4000000 in
set_option maxRecDepth 100000 in
/-- in -/
theorem r_in (l : Launch) {D : va_G} {ad : Nat → Nat} {cs : ClassId} {M : Nat → Nat → Int} (v lo hi : Int) (h1 : zb v) (h2 : zb lo) (h3 : zb hi) : Met l y_MO_in ws_MO_in ({ frames := 0, cells := 0, slots := 0, locals := 0 } : Room) (va_Pc [.int (iI (v)), .int (iI (lo)), .int (iI (hi))] (ro_B D vwCl (mo_tys cs) (mo_w ad cs M))) (vp_Si (fun r => r = iI (bz (lo ≤ v ∧ v ≤ hi) inferInstance))) 0 0 (fun _ => False) := by
  refine Met.ofW (cc := b_MO_in) (maxL := 3) (ret := (some .boolean)) (by decide) rfl ?_
  intro p e s m args below meth c s₁ B hml hv
  obtain ⟨rfl, hP, hK⟩ := hv
  have hx := B.exec
  have hb := B.bytes
  have hr := B.returns
  have hts := atoms_spec (ws := ws_MO_in) B.pre
  have hg : ∀ w ∈ gt, w.before _ s = true := fun w h => hts w (List.mem_cons_of_mem _ h)
  have hown : s.vm.findClass R_MO = some m.cls := findClass_of_methodNamed B.named
  have hlocks := B.notSynchronized
  have hl := lv_entry ([.int (iI (v)), .int (iI (lo)), .int (iI (hi))]) (n := 3) (Nat.le_of_ble_eq_true rfl)
  rw [lg_entry_eq]
  generalize (lg_sl ([.int (iI (v)), .int (iI (lo)), .int (iI (hi))]) ++ List.replicate (3 - (lg_sl ([.int (iI (v)), .int (iI (lo)), .int (iI (hi))])).length) Slot.unset).toArray = ls at hl ⊢
  have hl : lv_has ls 3 [(0, .int (iI (v))), (1, .int (iI (lo))), (2, .int (iI (hi)))] := hl
  refine lv_iload_n hx hb d_MO_in_0 rfl (lv_at hl 0 rfl) ?_
  refine lv_iload_n hx hb d_MO_in_1 rfl (lv_at hl 1 rfl) ?_
  refine z_icmp_lt hx hb (tgt := 14) d_MO_in_2 (by decide) h1 h2 (fun c_2 => ?_) (fun c_2 => ?_)
  · refine z_iconst hx hb (z := 0) d_MO_in_14 ?_
    exact W.zret (v := iI (0)) hx hb hr (by first | rfl | decide) (fun t ht hW => ⟨_, rfl, by first | (rw [bz_t (by omega)]; done) | (rw [bz_f (by omega)]; done), ht⟩) (fun q h => by cases h) d_MO_in_15
  · refine lv_iload_n hx hb d_MO_in_5 rfl (lv_at hl 0 rfl) ?_
    refine lv_iload_n hx hb d_MO_in_6 rfl (lv_at hl 2 rfl) ?_
    refine z_icmp_gt hx hb (tgt := 14) d_MO_in_7 (by decide) h1 h3 (fun c_7 => ?_) (fun c_7 => ?_)
    · refine z_iconst hx hb (z := 0) d_MO_in_14 ?_
      exact W.zret (v := iI (0)) hx hb hr (by first | rfl | decide) (fun t ht hW => ⟨_, rfl, by first | (rw [bz_t (by omega)]; done) | (rw [bz_f (by omega)]; done), ht⟩) (fun q h => by cases h) d_MO_in_15
    · refine z_iconst hx hb (z := 1) d_MO_in_10 ?_
      refine lv_goto (tgt := 15) hx hb d_MO_in_11 (by decide) ?_
      exact W.zret (v := iI (1)) hx hb hr (by first | rfl | decide) (fun t ht hW => ⟨_, rfl, by first | (rw [bz_t (by omega)]; done) | (rw [bz_f (by omega)]; done), ht⟩) (fun q h => by cases h) d_MO_in_15
set_option maxHeartbeats 4000000 in
set_option maxRecDepth 100000 in
/-- isEnd -/
theorem r_isEnd (l : Launch) {D : va_G} {ad : Nat → Nat} {cs : ClassId} {M : Nat → Nat → Int} (k : Nat) (hk : k < 600) (hz : ∀ j, zb (M 6 j)) : Met l y_MO_isEnd ws_MO_isEnd ({ frames := 0, cells := 0, slots := 0, locals := 0 } : Room) (va_Pc [.ref (ad (0)), .int (iI (((k : Nat) : Int)))] (ro_B D vwCl (mo_tys cs) (mo_w ad cs M))) (vp_Si (fun r => r = iI (bz (p_endl (M 6) k) inferInstance))) 0 0 (fun _ => False) := by
  refine Met.ofW (cc := b_MO_isEnd) (maxL := 2) (ret := (some .boolean)) (by decide) rfl ?_
  intro p e s m args below meth c s₁ B hml hv
  obtain ⟨rfl, hP, hK⟩ := hv
  have hx := B.exec
  have hb := B.bytes
  have hr := B.returns
  have hts := atoms_spec (ws := ws_MO_isEnd) B.pre
  have hg : ∀ w ∈ gt, w.before _ s = true := fun w h => hts w (List.mem_cons_of_mem _ h)
  have hown : s.vm.findClass R_MO = some m.cls := findClass_of_methodNamed B.named
  have hlocks := B.notSynchronized
  have hl := lv_entry ([.ref (ad (0)), .int (iI (((k : Nat) : Int)))]) (n := 2) (Nat.le_of_ble_eq_true rfl)
  rw [lg_entry_eq]
  generalize (lg_sl ([.ref (ad (0)), .int (iI (((k : Nat) : Int)))]) ++ List.replicate (2 - (lg_sl ([.ref (ad (0)), .int (iI (((k : Nat) : Int)))])).length) Slot.unset).toArray = ls at hl ⊢
  have hl : lv_has ls 2 [(0, .ref (ad (0))), (1, .int (iI (((k : Nat) : Int))))] := hl
  refine lv_aload_n hx hb d_MO_isEnd_0 rfl (lv_at hl 0 rfl) ?_
  refine z_get (ci := 7) (C := R_MO) (T := T_MO) (N := 32) (v := .ref (ad (6))) hx hb hg in_MO hown hK hP (0) (by decide) rfl rfl 10 (by decide) (hg _ (List.mem_append_right _ (List.mem_append_right _ (List.mem_append_right _ (List.mem_append_right _ (List.mem_append_right _ (List.mem_append_right _ (List.mem_append_right _ (List.mem_append_right _ (List.mem_append_right _ (List.mem_append_right _ (List.mem_append_right _ (List.mem_append_right _ (List.mem_append_right _ (List.mem_append_left _ (List.mem_of_getElem? (i := 13) rfl)))))))))))))))) (fun _ h9 => h9) rfl d_MO_isEnd_1 ?_
  refine lv_iload_n hx hb d_MO_isEnd_4 rfl (lv_at hl 1 rfl) ?_
  refine z_iald hx hb hK hP (6) 0 (by decide) (fun _ => rfl) rfl (k) rfl (by omega) (by decide) d_MO_isEnd_5 ?_
  refine z_iconst hx hb (z := 5) d_MO_isEnd_6 ?_
  refine z_icmp_eq hx hb (tgt := 21) d_MO_isEnd_7 (by decide) (hz _) ⟨by decide, by decide⟩ (fun c_7 => ?_) (fun c_7 => ?_)
  · refine z_iconst hx hb (z := 1) d_MO_isEnd_21 ?_
    refine lv_goto (tgt := 26) hx hb d_MO_isEnd_22 (by decide) ?_
    exact W.zret (v := iI (1)) hx hb hr (by first | rfl | decide) (fun t ht hW => ⟨_, rfl, by first | (rw [bz_t (by omega)]; done) | (rw [bz_f (by omega)]; done), ht⟩) (fun q h => by cases h) d_MO_isEnd_26
  · refine lv_aload_n hx hb d_MO_isEnd_10 rfl (lv_at hl 0 rfl) ?_
    refine z_get (ci := 7) (C := R_MO) (T := T_MO) (N := 32) (v := .ref (ad (6))) hx hb hg in_MO hown hK hP (0) (by decide) rfl rfl 10 (by decide) (hg _ (List.mem_append_right _ (List.mem_append_right _ (List.mem_append_right _ (List.mem_append_right _ (List.mem_append_right _ (List.mem_append_right _ (List.mem_append_right _ (List.mem_append_right _ (List.mem_append_right _ (List.mem_append_right _ (List.mem_append_right _ (List.mem_append_right _ (List.mem_append_right _ (List.mem_append_left _ (List.mem_of_getElem? (i := 13) rfl)))))))))))))))) (fun _ h9 => h9) rfl d_MO_isEnd_11 ?_
    refine lv_iload_n hx hb d_MO_isEnd_14 rfl (lv_at hl 1 rfl) ?_
    refine z_iald hx hb hK hP (6) 0 (by decide) (fun _ => rfl) rfl (k) rfl (by omega) (by decide) d_MO_isEnd_15 ?_
    refine z_bipush hx hb (z := 6) d_MO_isEnd_16 (by decide) ?_
    refine z_icmp_ne hx hb (tgt := 25) d_MO_isEnd_18 (by decide) (hz _) ⟨by decide, by decide⟩ (fun c_18 => ?_) (fun c_18 => ?_)
    · refine z_iconst hx hb (z := 0) d_MO_isEnd_25 ?_
      exact W.zret (v := iI (0)) hx hb hr (by first | rfl | decide) (fun t ht hW => ⟨_, rfl, by first | (rw [bz_t (by omega)]; done) | (rw [bz_f (by omega)]; done), ht⟩) (fun q h => by cases h) d_MO_isEnd_26
    · refine z_iconst hx hb (z := 1) d_MO_isEnd_21 ?_
      refine lv_goto (tgt := 26) hx hb d_MO_isEnd_22 (by decide) ?_
      exact W.zret (v := iI (1)) hx hb hr (by first | rfl | decide) (fun t ht hW => ⟨_, rfl, by first | (rw [bz_t (by omega)]; done) | (rw [bz_f (by omega)]; done), ht⟩) (fun q h => by cases h) d_MO_isEnd_26
set_option maxHeartbeats 4000000 in
set_option maxRecDepth 100000 in
theorem lr_trailing {p : Program} {l : Launch} {e : Env} {s : State} {m : MethodId} {args : Array Value} {below : List Frame} {meth : Method} {c : Code} {H : Heap} {locs : List Loc} {Q : State → Prop} {D : va_G} {ad : Nat → Nat} {cs : ClassId} {M : Nat → Nat → Int} (hx : p.tables.exec = Jvm.exec) (hb : c.code = b_MO_trailing) (hml : c.maxLocals = 4) (hg : ∀ w ∈ gt, w.before args s = true) (hown : s.vm.findClass R_MO = some m.cls) (hK : va_K D vwCl (mo_tys cs) s) (hP : va_P D vwCl (mo_w ad cs M) H) (a b t : Nat) (ha : a ≤ 600) (hz : ∀ j, zb (M 6 j)) (kk : ∀ ls : Array Slot, lv_has ls 4 [(3, .int (iI ((t : Nat) : Int)))] → W p l e ({ frames := 1, cells := 0, slots := 0, locals := 21 } : Room) s m args below meth c H locs 0 0 Q (F0 m 46 ls [])) : ∀ (f : Nat) (ls : Array Slot), f ≤ 600 → p_back (M 6) a f = t → lv_has ls 4 [(3, .int (iI (((f : Nat) : Int)))), (0, .ref (ad (0))), (1, .int (iI (((a : Nat) : Int)))), (2, .int (iI (((b : Nat) : Int))))] → W p l e ({ frames := 1, cells := 0, slots := 0, locals := 21 } : Room) s m args below meth c H locs 0 0 Q (F0 m 23 ls []) := by
  intro f
  induction f with
  | zero =>
    intro ls hf he hl
    refine lv_iload_n hx hb d_MO_trailing_23 rfl (lv_at hl 0 rfl) ?_
    refine lv_iload_n hx hb d_MO_trailing_24 rfl (lv_at hl 2 rfl) ?_
    refine z_icmp_le hx hb (tgt := 46) d_MO_trailing_25 (by decide) ⟨by omega, by omega⟩ ⟨by omega, by omega⟩ (fun c_25 => ?_) (fun c_25 => ?_)
    · have he : 0 = t := he
      subst he
      exact kk ls (lv_sub hl [0] rfl)
    · exact absurd c_25 (by omega)
  | succ f ih =>
    intro ls hf he hl
    refine lv_iload_n hx hb d_MO_trailing_23 rfl (lv_at hl 0 rfl) ?_
    refine lv_iload_n hx hb d_MO_trailing_24 rfl (lv_at hl 2 rfl) ?_
    refine z_icmp_le hx hb (tgt := 46) d_MO_trailing_25 (by decide) ⟨by omega, by omega⟩ ⟨by omega, by omega⟩ (fun c_25 => ?_) (fun c_25 => ?_)
    · have he : f + 1 = t := by rw [← he]; unfold p_back; rw [if_neg (by omega)]
      subst he
      exact kk ls (lv_sub hl [0] rfl)
    · refine lv_aload_n hx hb d_MO_trailing_28 rfl (lv_at hl 1 rfl) ?_
      refine z_get (ci := 7) (C := R_MO) (T := T_MO) (N := 32) (v := .ref (ad (6))) hx hb hg in_MO hown hK hP (0) (by decide) rfl rfl 10 (by decide) (hg _ (List.mem_append_right _ (List.mem_append_right _ (List.mem_append_right _ (List.mem_append_right _ (List.mem_append_right _ (List.mem_append_right _ (List.mem_append_right _ (List.mem_append_right _ (List.mem_append_right _ (List.mem_append_right _ (List.mem_append_right _ (List.mem_append_right _ (List.mem_append_right _ (List.mem_append_left _ (List.mem_of_getElem? (i := 13) rfl)))))))))))))))) (fun _ h9 => h9) rfl d_MO_trailing_29 ?_
      refine lv_iload_n hx hb d_MO_trailing_32 rfl (lv_at hl 0 rfl) ?_
      refine z_iconst hx hb (z := 1) d_MO_trailing_33 ?_
      refine z_isub hx hb d_MO_trailing_34 (v := ((f : Nat) : Int)) (by omega) ?_
      refine z_iald hx hb hK hP (6) 0 (by decide) (fun _ => rfl) rfl (f) rfl (by omega) (by decide) d_MO_trailing_35 ?_
      refine z_iconst hx hb (z := 1) d_MO_trailing_36 ?_
      refine z_icmp_ne hx hb (tgt := 46) d_MO_trailing_37 (by decide) (hz _) ⟨by decide, by decide⟩ (fun c_37 => ?_) (fun c_37 => ?_)
      · have he : f + 1 = t := by rw [← he]; unfold p_back; rw [if_neg (by omega)]
        subst he
        exact kk ls (lv_sub hl [0] rfl)
      · refine z_iinc (v := ((f : Nat) : Int)) (lv' := [(3, .int (iI (((f : Nat) : Int)))), (0, .ref (ad (0))), (1, .int (iI (((a : Nat) : Int)))), (2, .int (iI (((b : Nat) : Int))))]) hx hb d_MO_trailing_40 hl (k := 0) rfl (by omega) (by decide) rfl (fun ls hl => ?_)
        refine lv_goto (tgt := 23) hx hb d_MO_trailing_43 (by decide) ?_
        exact ih ls (by omega) (by rw [← he]; conv => rhs; unfold p_back; rw [if_pos ⟨by omega, by omega⟩]) hl
set_option maxHeartbeats 4000000 in
set_option maxRecDepth 100000 in
/-- trailing -/
theorem r_trailing (l : Launch) {D : va_G} {ad : Nat → Nat} {cs : ClassId} {M : Nat → Nat → Int} (a b : Nat) (ha : a ≤ 600) (hb6 : b ≤ 600) (hz : ∀ j, zb (M 6 j)) : Met l y_MO_trailing ws_MO_trailing ({ frames := 1, cells := 0, slots := 0, locals := 21 } : Room) (va_Pc [.ref (ad (0)), .int (iI (((a : Nat) : Int))), .int (iI (((b : Nat) : Int)))] (ro_B D vwCl (mo_tys cs) (mo_w ad cs M))) (vp_Si (fun r => r = iI (((p_solid (M 6) a b : Nat) : Int)))) 0 0 (fun _ => False) := by
  refine Met.ofW (cc := b_MO_trailing) (maxL := 4) (ret := (some .int)) (by decide) rfl ?_
  intro p e s m args below meth c s₁ B hml hv
  obtain ⟨rfl, hP, hK⟩ := hv
  have hx := B.exec
  have hb := B.bytes
  have hr := B.returns
  have hts := atoms_spec (ws := ws_MO_trailing) B.pre
  have hg : ∀ w ∈ gt, w.before _ s = true := fun w h => hts w (List.mem_cons_of_mem _ h)
  have hown : s.vm.findClass R_MO = some m.cls := findClass_of_methodNamed B.named
  have hlocks := B.notSynchronized
  have hl := lv_entry ([.ref (ad (0)), .int (iI (((a : Nat) : Int))), .int (iI (((b : Nat) : Int)))]) (n := 4) (Nat.le_of_ble_eq_true rfl)
  rw [lg_entry_eq]
  generalize (lg_sl ([.ref (ad (0)), .int (iI (((a : Nat) : Int))), .int (iI (((b : Nat) : Int)))]) ++ List.replicate (4 - (lg_sl ([.ref (ad (0)), .int (iI (((a : Nat) : Int))), .int (iI (((b : Nat) : Int)))])).length) Slot.unset).toArray = ls at hl ⊢
  have hl : lv_has ls 4 [(0, .ref (ad (0))), (1, .int (iI (((a : Nat) : Int)))), (2, .int (iI (((b : Nat) : Int))))] := hl
  refine lv_iload_n hx hb d_MO_trailing_0 rfl (lv_at hl 2 rfl) ?_
  refine lv_iload_n hx hb d_MO_trailing_1 rfl (lv_at hl 1 rfl) ?_
  refine z_icmp_le hx hb (tgt := 21) d_MO_trailing_2 (by decide) ⟨by omega, by omega⟩ ⟨by omega, by omega⟩ (fun c_2 => ?_) (fun c_2 => ?_)
  · refine lv_iload_n hx hb d_MO_trailing_21 rfl (lv_at hl 2 rfl) ?_
    refine lv_istore_n (lv' := [(3, .int (iI (((b : Nat) : Int)))), (0, .ref (ad (0))), (1, .int (iI (((a : Nat) : Int)))), (2, .int (iI (((b : Nat) : Int))))]) hx hb d_MO_trailing_22 rfl hl (by decide) rfl (fun ls hl => ?_)
    refine lr_trailing hx hb hml hg hown hK hP a b (p_solid (M 6) a b) ha hz (fun ls hl => ?_) (b) ls (by omega) (by unfold p_solid; first | rw [if_pos ⟨by omega, by omega⟩] | rw [if_neg (by omega)]) (lv_sub hl [0, 1, 2, 3] rfl)
    refine lv_iload_n hx hb d_MO_trailing_46 rfl (lv_at hl 0 rfl) ?_
    exact W.iret (v := iI (((p_solid (M 6) a b : Nat) : Int))) hx hb hr (fun t ht hW => ⟨_, rfl, rfl, ht⟩) (fun q h => by cases h) d_MO_trailing_47
  · refine lv_aload_n hx hb d_MO_trailing_5 rfl (lv_at hl 0 rfl) ?_
    refine lv_iload_n hx hb d_MO_trailing_6 rfl (lv_at hl 2 rfl) ?_
    refine z_iconst hx hb (z := 1) d_MO_trailing_7 ?_
    refine z_isub hx hb d_MO_trailing_8 (v := ((b - 1 : Nat) : Int)) (by omega) ?_
    refine ro_V (As := [.int (iI (((b - 1 : Nat) : Int)))]) (rest := []) (z := bz (p_endl (M 6) (b - 1)) inferInstance) ⟨hx, hb, hml, hown, hg⟩ (r_isEnd l (b - 1) (by omega) hz) (cwV 1 hg (gt_V (List.mem_append_right _ (List.mem_append_right _ (List.mem_append_right _ (List.mem_append_right _ (List.mem_append_right _ (List.mem_append_right _ (List.mem_append_right _ (List.mem_append_right _ (List.mem_append_right _ (List.mem_append_right _ (List.mem_append_right _ (List.mem_append_right _ (List.mem_append_right _ (List.mem_append_right _ (List.mem_append_right _ (List.mem_append_left _ (List.mem_of_getElem? (i := 37) rfl))))))))))))))))) (List.mem_append_right _ (List.mem_append_right _ (List.mem_append_right _ (List.mem_append_right _ (List.mem_append_right _ (List.mem_append_right _ (List.mem_append_right _ (List.mem_append_right _ (List.mem_append_right _ (List.mem_append_right _ (List.mem_append_right _ (List.mem_append_right _ (List.mem_append_right _ (List.mem_append_right _ (List.mem_append_right _ (List.mem_append_left _ (List.mem_of_getElem? (i := 38) rfl))))))))))))))))) (List.mem_append_left _ (List.mem_of_getElem? (i := 25) rfl)) (List.mem_append_right _ (List.mem_append_left _ (List.mem_of_getElem? (i := 9) rfl))) (List.mem_append_right _ (List.mem_append_right _ (List.mem_append_right _ (List.mem_append_right _ (List.mem_append_right _ (List.mem_append_right _ (List.mem_append_right _ (List.mem_append_right _ (List.mem_append_right _ (List.mem_append_right _ (List.mem_append_right _ (List.mem_append_right _ (List.mem_append_right _ (List.mem_append_right _ (List.mem_append_right _ (List.mem_append_left _ (List.mem_of_getElem? (i := 39) rfl)))))))))))))))))) rfl rfl rfl (by decide +kernel) ⟨Nat.le_of_ble_eq_true rfl, Nat.le_of_ble_eq_true rfl⟩) hK hP (va_recv hK hP (ci := 7) (q0 := 0) rfl (wl_atE (by decide) rfl)) rfl hl.1 rfl (Nat.le_of_ble_eq_true rfl) d_MO_trailing_9 ⟨Nat.zero_le _, Nat.zero_le _⟩ ?_
    refine z_ifb_eq hx hb (tgt := 21) d_MO_trailing_12 (by decide) (fun c_12 => ?_) (fun c_12 => ?_)
    · refine lv_iload_n hx hb d_MO_trailing_21 rfl (lv_at hl 2 rfl) ?_
      refine lv_istore_n (lv' := [(3, .int (iI (((b : Nat) : Int)))), (0, .ref (ad (0))), (1, .int (iI (((a : Nat) : Int)))), (2, .int (iI (((b : Nat) : Int))))]) hx hb d_MO_trailing_22 rfl hl (by decide) rfl (fun ls hl => ?_)
      refine lr_trailing hx hb hml hg hown hK hP a b (p_solid (M 6) a b) ha hz (fun ls hl => ?_) (b) ls (by omega) (by unfold p_solid; first | rw [if_pos ⟨by omega, by omega⟩] | rw [if_neg (by omega)]) (lv_sub hl [0, 1, 2, 3] rfl)
      refine lv_iload_n hx hb d_MO_trailing_46 rfl (lv_at hl 0 rfl) ?_
      exact W.iret (v := iI (((p_solid (M 6) a b : Nat) : Int))) hx hb hr (fun t ht hW => ⟨_, rfl, rfl, ht⟩) (fun q h => by cases h) d_MO_trailing_47
    · refine lv_iload_n hx hb d_MO_trailing_15 rfl (lv_at hl 2 rfl) ?_
      refine z_iconst hx hb (z := 1) d_MO_trailing_16 ?_
      refine z_isub hx hb d_MO_trailing_17 (v := ((b - 1 : Nat) : Int)) (by omega) ?_
      refine lv_goto (tgt := 22) hx hb d_MO_trailing_18 (by decide) ?_
      refine lv_istore_n (lv' := [(3, .int (iI (((b - 1 : Nat) : Int)))), (0, .ref (ad (0))), (1, .int (iI (((a : Nat) : Int)))), (2, .int (iI (((b : Nat) : Int))))]) hx hb d_MO_trailing_22 rfl hl (by decide) rfl (fun ls hl => ?_)
      refine lr_trailing hx hb hml hg hown hK hP a b (p_solid (M 6) a b) ha hz (fun ls hl => ?_) (b - 1) ls (by omega) (by unfold p_solid; first | rw [if_pos ⟨by omega, by omega⟩] | rw [if_neg (by omega)]) (lv_sub hl [0, 1, 2, 3] rfl)
      refine lv_iload_n hx hb d_MO_trailing_46 rfl (lv_at hl 0 rfl) ?_
      exact W.iret (v := iI (((p_solid (M 6) a b : Nat) : Int))) hx hb hr (fun t ht hW => ⟨_, rfl, rfl, ht⟩) (fun q h => by cases h) d_MO_trailing_47
set_option maxHeartbeats 4000000 in
set_option maxRecDepth 100000 in
/-- plain -/
theorem r_plain (l : Launch) {D : va_G} {ad : Nat → Nat} {cs : ClassId} {M : Nat → Nat → Int} (k b : Nat) (hk : k < 600) (hb6 : b ≤ 600) (hz : ∀ j, zb (M 6 j)) : Met l y_MO_plain ws_MO_plain ({ frames := 1, cells := 0, slots := 0, locals := 21 } : Room) (va_Pc [.ref (ad (0)), .int (iI (((k : Nat) : Int))), .int (iI (((b : Nat) : Int)))] (ro_B D vwCl (mo_tys cs) (mo_w ad cs M))) (vp_Si (fun r => r = iI (p_wid (M 6) (M 7) k (decide (k + 1 = b))))) 0 0 (fun _ => False) := by
  refine Met.ofW (cc := b_MO_plain) (maxL := 3) (ret := (some .int)) (by decide) rfl ?_
  intro p e s m args below meth c s₁ B hml hv
  obtain ⟨rfl, hP, hK⟩ := hv
  have hx := B.exec
  have hb := B.bytes
  have hr := B.returns
  have hts := atoms_spec (ws := ws_MO_plain) B.pre
  have hg : ∀ w ∈ gt, w.before _ s = true := fun w h => hts w (List.mem_cons_of_mem _ h)
  have hown : s.vm.findClass R_MO = some m.cls := findClass_of_methodNamed B.named
  have hlocks := B.notSynchronized
  have hl := lv_entry ([.ref (ad (0)), .int (iI (((k : Nat) : Int))), .int (iI (((b : Nat) : Int)))]) (n := 3) (Nat.le_of_ble_eq_true rfl)
  rw [lg_entry_eq]
  generalize (lg_sl ([.ref (ad (0)), .int (iI (((k : Nat) : Int))), .int (iI (((b : Nat) : Int)))]) ++ List.replicate (3 - (lg_sl ([.ref (ad (0)), .int (iI (((k : Nat) : Int))), .int (iI (((b : Nat) : Int)))])).length) Slot.unset).toArray = ls at hl ⊢
  have hl : lv_has ls 3 [(0, .ref (ad (0))), (1, .int (iI (((k : Nat) : Int)))), (2, .int (iI (((b : Nat) : Int))))] := hl
  refine lv_aload_n hx hb d_MO_plain_0 rfl (lv_at hl 0 rfl) ?_
  refine lv_iload_n hx hb d_MO_plain_1 rfl (lv_at hl 1 rfl) ?_
  refine ro_V (As := [.int (iI (((k : Nat) : Int)))]) (rest := []) (z := bz (p_endl (M 6) (k)) inferInstance) ⟨hx, hb, hml, hown, hg⟩ (r_isEnd l (k) (by omega) hz) (cwV 1 hg (gt_V (List.mem_append_right _ (List.mem_append_right _ (List.mem_append_right _ (List.mem_append_right _ (List.mem_append_right _ (List.mem_append_right _ (List.mem_append_right _ (List.mem_append_right _ (List.mem_append_right _ (List.mem_append_right _ (List.mem_append_right _ (List.mem_append_right _ (List.mem_append_right _ (List.mem_append_right _ (List.mem_append_right _ (List.mem_append_left _ (List.mem_of_getElem? (i := 37) rfl))))))))))))))))) (List.mem_append_right _ (List.mem_append_right _ (List.mem_append_right _ (List.mem_append_right _ (List.mem_append_right _ (List.mem_append_right _ (List.mem_append_right _ (List.mem_append_right _ (List.mem_append_right _ (List.mem_append_right _ (List.mem_append_right _ (List.mem_append_right _ (List.mem_append_right _ (List.mem_append_right _ (List.mem_append_right _ (List.mem_append_left _ (List.mem_of_getElem? (i := 38) rfl))))))))))))))))) (List.mem_append_left _ (List.mem_of_getElem? (i := 25) rfl)) (List.mem_append_right _ (List.mem_append_left _ (List.mem_of_getElem? (i := 9) rfl))) (List.mem_append_right _ (List.mem_append_right _ (List.mem_append_right _ (List.mem_append_right _ (List.mem_append_right _ (List.mem_append_right _ (List.mem_append_right _ (List.mem_append_right _ (List.mem_append_right _ (List.mem_append_right _ (List.mem_append_right _ (List.mem_append_right _ (List.mem_append_right _ (List.mem_append_right _ (List.mem_append_right _ (List.mem_append_left _ (List.mem_of_getElem? (i := 39) rfl)))))))))))))))))) rfl rfl rfl (by decide +kernel) ⟨Nat.le_of_ble_eq_true rfl, Nat.le_of_ble_eq_true rfl⟩) hK hP (va_recv hK hP (ci := 7) (q0 := 0) rfl (wl_atE (by decide) rfl)) rfl hl.1 rfl (Nat.le_of_ble_eq_true rfl) d_MO_plain_2 ⟨Nat.zero_le _, Nat.zero_le _⟩ ?_
  refine z_ifb_ne hx hb (tgt := 25) d_MO_plain_5 (by decide) (fun c_5 => ?_) (fun c_5 => ?_)
  · refine z_iconst hx hb (z := 0) d_MO_plain_25 ?_
    refine lv_goto (tgt := 35) hx hb d_MO_plain_26 (by decide) ?_
    exact W.iret (v := iI (0)) hx hb hr (fun t ht hW => ⟨_, rfl, by unfold p_wid; by_cases hkb : k + 1 = b <;> simp only [hkb, decide_true, decide_false, reduceCtorEq, and_false, and_true, or_false, Bool.true_eq_false, if_true, if_false] <;> first | rfl | (exfalso; omega) | (rw [if_pos (by omega)]; done) | (rw [if_neg (by omega)]; done), ht⟩) (fun q h => by cases h) d_MO_plain_35
  · refine lv_aload_n hx hb d_MO_plain_8 rfl (lv_at hl 0 rfl) ?_
    refine z_get (ci := 7) (C := R_MO) (T := T_MO) (N := 32) (v := .ref (ad (6))) hx hb hg in_MO hown hK hP (0) (by decide) rfl rfl 10 (by decide) (hg _ (List.mem_append_right _ (List.mem_append_right _ (List.mem_append_right _ (List.mem_append_right _ (List.mem_append_right _ (List.mem_append_right _ (List.mem_append_right _ (List.mem_append_right _ (List.mem_append_right _ (List.mem_append_right _ (List.mem_append_right _ (List.mem_append_right _ (List.mem_append_right _ (List.mem_append_left _ (List.mem_of_getElem? (i := 13) rfl)))))))))))))))) (fun _ h9 => h9) rfl d_MO_plain_9 ?_
    refine lv_iload_n hx hb d_MO_plain_12 rfl (lv_at hl 1 rfl) ?_
    refine z_iald hx hb hK hP (6) 0 (by decide) (fun _ => rfl) rfl (k) rfl (by omega) (by decide) d_MO_plain_13 ?_
    refine z_iconst hx hb (z := 4) d_MO_plain_14 ?_
    refine z_icmp_ne hx hb (tgt := 29) d_MO_plain_15 (by decide) (hz _) ⟨by decide, by decide⟩ (fun c_15 => ?_) (fun c_15 => ?_)
    · refine lv_aload_n hx hb d_MO_plain_29 rfl (lv_at hl 0 rfl) ?_
      refine z_get (ci := 7) (C := R_MO) (T := T_MO) (N := 32) (v := .ref (ad (7))) hx hb hg in_MO hown hK hP (0) (by decide) rfl rfl 11 (by decide) (hg _ (List.mem_append_right _ (List.mem_append_right _ (List.mem_append_right _ (List.mem_append_right _ (List.mem_append_right _ (List.mem_append_right _ (List.mem_append_right _ (List.mem_append_right _ (List.mem_append_right _ (List.mem_append_right _ (List.mem_append_right _ (List.mem_append_right _ (List.mem_append_right _ (List.mem_append_left _ (List.mem_of_getElem? (i := 14) rfl)))))))))))))))) (fun _ h9 => h9) rfl d_MO_plain_30 ?_
      refine lv_iload_n hx hb d_MO_plain_33 rfl (lv_at hl 1 rfl) ?_
      refine z_iald hx hb hK hP (7) 0 (by decide) (fun _ => rfl) rfl (k) rfl (by omega) (by decide) d_MO_plain_34 ?_
      exact W.iret (v := iI (M (7) (k))) hx hb hr (fun t ht hW => ⟨_, rfl, by unfold p_wid; by_cases hkb : k + 1 = b <;> simp only [hkb, decide_true, decide_false, reduceCtorEq, and_false, and_true, or_false, Bool.true_eq_false, if_true, if_false] <;> first | rfl | (exfalso; omega) | (rw [if_pos (by omega)]; done) | (rw [if_neg (by omega)]; done), ht⟩) (fun q h => by cases h) d_MO_plain_35
    · refine lv_iload_n hx hb d_MO_plain_18 rfl (lv_at hl 1 rfl) ?_
      refine lv_iload_n hx hb d_MO_plain_19 rfl (lv_at hl 2 rfl) ?_
      refine z_iconst hx hb (z := 1) d_MO_plain_20 ?_
      refine z_isub hx hb d_MO_plain_21 (v := (((b : Nat) : Int) - 1)) rfl ?_
      refine z_icmp_eq hx hb (tgt := 29) d_MO_plain_22 (by decide) ⟨by omega, by omega⟩ ⟨by omega, by omega⟩ (fun c_22 => ?_) (fun c_22 => ?_)
      · refine lv_aload_n hx hb d_MO_plain_29 rfl (lv_at hl 0 rfl) ?_
        refine z_get (ci := 7) (C := R_MO) (T := T_MO) (N := 32) (v := .ref (ad (7))) hx hb hg in_MO hown hK hP (0) (by decide) rfl rfl 11 (by decide) (hg _ (List.mem_append_right _ (List.mem_append_right _ (List.mem_append_right _ (List.mem_append_right _ (List.mem_append_right _ (List.mem_append_right _ (List.mem_append_right _ (List.mem_append_right _ (List.mem_append_right _ (List.mem_append_right _ (List.mem_append_right _ (List.mem_append_right _ (List.mem_append_right _ (List.mem_append_left _ (List.mem_of_getElem? (i := 14) rfl)))))))))))))))) (fun _ h9 => h9) rfl d_MO_plain_30 ?_
        refine lv_iload_n hx hb d_MO_plain_33 rfl (lv_at hl 1 rfl) ?_
        refine z_iald hx hb hK hP (7) 0 (by decide) (fun _ => rfl) rfl (k) rfl (by omega) (by decide) d_MO_plain_34 ?_
        exact W.iret (v := iI (M (7) (k))) hx hb hr (fun t ht hW => ⟨_, rfl, by unfold p_wid; by_cases hkb : k + 1 = b <;> simp only [hkb, decide_true, decide_false, reduceCtorEq, and_false, and_true, or_false, Bool.true_eq_false, if_true, if_false] <;> first | rfl | (exfalso; omega) | (rw [if_pos (by omega)]; done) | (rw [if_neg (by omega)]; done), ht⟩) (fun q h => by cases h) d_MO_plain_35
      · refine z_iconst hx hb (z := 0) d_MO_plain_25 ?_
        refine lv_goto (tgt := 35) hx hb d_MO_plain_26 (by decide) ?_
        exact W.iret (v := iI (0)) hx hb hr (fun t ht hW => ⟨_, rfl, by unfold p_wid; by_cases hkb : k + 1 = b <;> simp only [hkb, decide_true, decide_false, reduceCtorEq, and_false, and_true, or_false, Bool.true_eq_false, if_true, if_false] <;> first | rfl | (exfalso; omega) | (rw [if_pos (by omega)]; done) | (rw [if_neg (by omega)]; done), ht⟩) (fun q h => by cases h) d_MO_plain_35
set_option maxHeartbeats 4000000 in
set_option maxRecDepth 100000 in
theorem lr_stopAbove {p : Program} {l : Launch} {e : Env} {s : State} {m : MethodId} {args : Array Value} {below : List Frame} {meth : Method} {c : Code} {H : Heap} {locs : List Loc} {Q : State → Prop} {D : va_G} {ad : Nat → Nat} {cs : ClassId} {M : Nat → Nat → Int} (hx : p.tables.exec = Jvm.exec) (hb : c.code = b_MO_stopAbove) (hml : c.maxLocals = 4) (hg : ∀ w ∈ gt, w.before args s = true) (hown : s.vm.findClass R_MO = some m.cls) (hK : va_K D vwCl (mo_tys cs) s) (hP : va_P D vwCl (mo_w ad cs M) H) (q n t : Nat) (x : Int) (hxb : zb x) (hp : rP M q n) (kk : ∀ (ls : Array Slot), t < n → W p l e ({ frames := 0, cells := 0, slots := 0, locals := 0 } : Room) s m args below meth c H locs 0 0 Q (F0 m 33 ls [.int (iI ((8 * q + t : Nat) : Int))])) (kk2 : ∀ (ls : Array Slot), t = n → W p l e ({ frames := 0, cells := 0, slots := 0, locals := 0 } : Room) s m args below meth c H locs 0 0 Q (F0 m 40 ls [])) : ∀ (f o : Nat) (ls : Array Slot), o + f = n → p_own (r_sp M q) x f o = t → lv_has ls 4 [(3, .int (iI (((o : Nat) : Int)))), (0, .ref (ad (0))), (1, .int (iI (((q : Nat) : Int)))), (2, .int (iI (x)))] → W p l e ({ frames := 0, cells := 0, slots := 0, locals := 0 } : Room) s m args below meth c H locs 0 0 Q (F0 m 2 ls []) := by
  obtain ⟨hq, hn, hs, hz, hz2⟩ := hp
  intro f
  induction f with
  | zero =>
    intro o ls ho he hl
    have hzo := hz (8 * q + o)
    refine lv_iload_n hx hb d_MO_stopAbove_2 rfl (lv_at hl 0 rfl) ?_
    refine lv_aload_n hx hb d_MO_stopAbove_3 rfl (lv_at hl 1 rfl) ?_
    refine z_get (ci := 7) (C := R_MO) (T := T_MO) (N := 32) (v := .ref (ad (3))) hx hb hg in_MO hown hK hP (0) (by decide) rfl rfl 7 (by decide) (hg _ (List.mem_append_right _ (List.mem_append_right _ (List.mem_append_right _ (List.mem_append_right _ (List.mem_append_right _ (List.mem_append_right _ (List.mem_append_right _ (List.mem_append_right _ (List.mem_append_right _ (List.mem_append_right _ (List.mem_append_right _ (List.mem_append_right _ (List.mem_append_right _ (List.mem_append_left _ (List.mem_of_getElem? (i := 10) rfl)))))))))))))))) (fun _ h9 => h9) rfl d_MO_stopAbove_4 ?_
    refine lv_iload_n hx hb d_MO_stopAbove_7 rfl (lv_at hl 2 rfl) ?_
    refine z_iald hx hb hK hP (3) 0 (by decide) (fun _ => rfl) rfl (q) rfl (by omega) (by decide) d_MO_stopAbove_8 ?_
    refine z_icmp_ge hx hb (tgt := 40) d_MO_stopAbove_9 (by decide) ⟨by omega, by omega⟩ ⟨by omega, by omega⟩ (fun c_9 => ?_) (fun c_9 => ?_)
    · have he : o = t := he
      exact kk2 ls (by omega)
    · exact absurd c_9 (by omega)
  | succ f ih =>
    intro o ls ho he hl
    have hzo := hz (8 * q + o)
    refine lv_iload_n hx hb d_MO_stopAbove_2 rfl (lv_at hl 0 rfl) ?_
    refine lv_aload_n hx hb d_MO_stopAbove_3 rfl (lv_at hl 1 rfl) ?_
    refine z_get (ci := 7) (C := R_MO) (T := T_MO) (N := 32) (v := .ref (ad (3))) hx hb hg in_MO hown hK hP (0) (by decide) rfl rfl 7 (by decide) (hg _ (List.mem_append_right _ (List.mem_append_right _ (List.mem_append_right _ (List.mem_append_right _ (List.mem_append_right _ (List.mem_append_right _ (List.mem_append_right _ (List.mem_append_right _ (List.mem_append_right _ (List.mem_append_right _ (List.mem_append_right _ (List.mem_append_right _ (List.mem_append_right _ (List.mem_append_left _ (List.mem_of_getElem? (i := 10) rfl)))))))))))))))) (fun _ h9 => h9) rfl d_MO_stopAbove_4 ?_
    refine lv_iload_n hx hb d_MO_stopAbove_7 rfl (lv_at hl 2 rfl) ?_
    refine z_iald hx hb hK hP (3) 0 (by decide) (fun _ => rfl) rfl (q) rfl (by omega) (by decide) d_MO_stopAbove_8 ?_
    refine z_icmp_ge hx hb (tgt := 40) d_MO_stopAbove_9 (by decide) ⟨by omega, by omega⟩ ⟨by omega, by omega⟩ (fun c_9 => ?_) (fun c_9 => ?_)
    · exact absurd c_9 (by omega)
    · refine lv_aload_n hx hb d_MO_stopAbove_12 rfl (lv_at hl 1 rfl) ?_
      refine z_get (ci := 7) (C := R_MO) (T := T_MO) (N := 32) (v := .ref (ad (4))) hx hb hg in_MO hown hK hP (0) (by decide) rfl rfl 8 (by decide) (hg _ (List.mem_append_right _ (List.mem_append_right _ (List.mem_append_right _ (List.mem_append_right _ (List.mem_append_right _ (List.mem_append_right _ (List.mem_append_right _ (List.mem_append_right _ (List.mem_append_right _ (List.mem_append_right _ (List.mem_append_right _ (List.mem_append_right _ (List.mem_append_right _ (List.mem_append_left _ (List.mem_of_getElem? (i := 11) rfl)))))))))))))))) (fun _ h9 => h9) rfl d_MO_stopAbove_13 ?_
      refine z_bipush hx hb (z := 8) d_MO_stopAbove_16 (by decide) ?_
      refine lv_iload_n hx hb d_MO_stopAbove_18 rfl (lv_at hl 2 rfl) ?_
      refine z_imul hx hb d_MO_stopAbove_19 (v := ((8 * q : Nat) : Int)) (by omega) ?_
      refine lv_iload_n hx hb d_MO_stopAbove_20 rfl (lv_at hl 0 rfl) ?_
      refine z_iadd hx hb d_MO_stopAbove_21 (v := ((8 * q + o : Nat) : Int)) (by omega) ?_
      refine z_iald hx hb hK hP (4) 0 (by decide) (fun _ => rfl) rfl (8 * q + o) rfl (by omega) (by decide) d_MO_stopAbove_22 ?_
      refine lv_iload_n hx hb d_MO_stopAbove_23 rfl (lv_at hl 3 rfl) ?_
      refine z_icmp_le hx hb (tgt := 34) d_MO_stopAbove_24 (by decide) ⟨by omega, by omega⟩ hxb (fun c_24 => ?_) (fun c_24 => ?_)
      · refine z_iinc (v := ((o + 1 : Nat) : Int)) (lv' := [(3, .int (iI (((o + 1 : Nat) : Int)))), (0, .ref (ad (0))), (1, .int (iI (((q : Nat) : Int)))), (2, .int (iI (x)))]) hx hb d_MO_stopAbove_34 hl (k := 0) rfl (by omega) (by decide) rfl (fun ls hl => ?_)
        refine lv_goto (tgt := 2) hx hb d_MO_stopAbove_37 (by decide) ?_
        exact ih (o + 1) ls (by omega) (by rw [← he]; conv => rhs; unfold p_own; rw [if_pos (show r_sp M q o ≤ x by unfold r_sp; omega)]) hl
      · refine z_bipush hx hb (z := 8) d_MO_stopAbove_27 (by decide) ?_
        refine lv_iload_n hx hb d_MO_stopAbove_29 rfl (lv_at hl 2 rfl) ?_
        refine z_imul hx hb d_MO_stopAbove_30 (v := ((8 * q : Nat) : Int)) (by omega) ?_
        refine lv_iload_n hx hb d_MO_stopAbove_31 rfl (lv_at hl 0 rfl) ?_
        refine z_iadd hx hb d_MO_stopAbove_32 (v := ((8 * q + o : Nat) : Int)) (by omega) ?_
        have he : o = t := by rw [← he]; unfold p_own; rw [if_neg (show ¬ r_sp M q o ≤ x by unfold r_sp; omega)]
        subst he
        exact kk ls (by omega)
set_option maxHeartbeats 4000000 in
set_option maxRecDepth 100000 in
/-- stopAbove -/
theorem r_stopAbove (l : Launch) {D : va_G} {ad : Nat → Nat} {cs : ClassId} {M : Nat → Nat → Int} (q n : Nat) (x : Int) (hxb : zb x) (hp : rP M q n) : Met l y_MO_stopAbove ws_MO_stopAbove ({ frames := 0, cells := 0, slots := 0, locals := 0 } : Room) (va_Pc [.ref (ad (0)), .int (iI (((q : Nat) : Int))), .int (iI (x))] (ro_B D vwCl (mo_tys cs) (mo_w ad cs M))) (vp_Si (fun r => r = iI (if p_own (r_sp M q) x n 0 < n then ((8 * q + p_own (r_sp M q) x n 0 : Nat) : Int) else -1))) 0 0 (fun _ => False) := by
  refine Met.ofW (cc := b_MO_stopAbove) (maxL := 4) (ret := (some .int)) (by decide) rfl ?_
  intro p e s m args below meth c s₁ B hml hv
  obtain ⟨rfl, hP, hK⟩ := hv
  have hx := B.exec
  have hb := B.bytes
  have hr := B.returns
  have hts := atoms_spec (ws := ws_MO_stopAbove) B.pre
  have hg : ∀ w ∈ gt, w.before _ s = true := fun w h => hts w (List.mem_cons_of_mem _ h)
  have hown : s.vm.findClass R_MO = some m.cls := findClass_of_methodNamed B.named
  have hlocks := B.notSynchronized
  have hl := lv_entry ([.ref (ad (0)), .int (iI (((q : Nat) : Int))), .int (iI (x))]) (n := 4) (Nat.le_of_ble_eq_true rfl)
  rw [lg_entry_eq]
  generalize (lg_sl ([.ref (ad (0)), .int (iI (((q : Nat) : Int))), .int (iI (x))]) ++ List.replicate (4 - (lg_sl ([.ref (ad (0)), .int (iI (((q : Nat) : Int))), .int (iI (x))])).length) Slot.unset).toArray = ls at hl ⊢
  have hl : lv_has ls 4 [(0, .ref (ad (0))), (1, .int (iI (((q : Nat) : Int)))), (2, .int (iI (x)))] := hl
  refine z_iconst hx hb (z := 0) d_MO_stopAbove_0 ?_
  refine lv_istore_n (lv' := [(3, .int (iI (0))), (0, .ref (ad (0))), (1, .int (iI (((q : Nat) : Int)))), (2, .int (iI (x)))]) hx hb d_MO_stopAbove_1 rfl hl (by decide) rfl (fun ls hl => ?_)
  refine lr_stopAbove hx hb hml hg hown hK hP q n _ x hxb hp (fun ls htn => ?_) (fun ls htn => ?_) n 0 ls (by omega) rfl hl
  · exact W.iret (v := iI (((8 * q + p_own (r_sp M q) x n 0 : Nat) : Int))) hx hb hr (fun t ht hW => ⟨_, rfl, by rw [if_pos htn], ht⟩) (fun q h => by cases h) d_MO_stopAbove_33
  · refine z_iconst hx hb (z := (-1)) d_MO_stopAbove_40 ?_
    exact W.iret (v := iI ((-1))) hx hb hr (fun t ht hW => ⟨_, rfl, by rw [if_neg (by omega)], ht⟩) (fun q h => by cases h) d_MO_stopAbove_41
set_option maxHeartbeats 4000000 in
set_option maxRecDepth 100000 in
theorem lr_tab {p : Program} {l : Launch} {e : Env} {s : State} {m : MethodId} {args : Array Value} {below : List Frame} {meth : Method} {c : Code} {H : Heap} {locs : List Loc} {Q : State → Prop} {D : va_G} {ad : Nat → Nat} {cs : ClassId} {M : Nat → Nat → Int} (hx : p.tables.exec = Jvm.exec) (hb : c.code = b_MO_tab) (hml : c.maxLocals = 12) (hg : ∀ w ∈ gt, w.before args s = true) (hown : s.vm.findClass R_MO = some m.cls) (hK : va_K D vwCl (mo_tys cs) s) (hP : va_P D vwCl (mo_w ad cs M) H) (b so : Nat) (at_ sv x t : Int) (hso : so ≤ 600) (hb6 : b ≤ 600) (hz : ∀ j, zb (M 6 j)) (kk : ∀ ls : Array Slot, lv_has ls 12 [(10, .int (iI (t))), (9, .int (iI (at_))), (6, .int (iI (sv))), (0, .ref (ad (0))), (5, .int (iI (x)))] → W p l e ({ frames := 2, cells := 0, slots := 0, locals := 43 } : Room) s m args below meth c H locs 0 0 Q (F0 m 133 ls [])) : ∀ (f i : Nat) (su : Int) (ls : Array Slot), so ≤ i + f → i ≤ 601 → p_wbt (M 6) (M 7) so b f i su = t → lv_has ls 12 [(11, .int (iI (((i : Nat) : Int)))), (10, .int (iI (su))), (9, .int (iI (at_))), (6, .int (iI (sv))), (0, .ref (ad (0))), (3, .int (iI (((b : Nat) : Int)))), (4, .int (iI (((so : Nat) : Int)))), (5, .int (iI (x)))] → W p l e ({ frames := 2, cells := 0, slots := 0, locals := 43 } : Room) s m args below meth c H locs 0 0 Q (F0 m 97 ls []) := by
  intro f
  induction f with
  | zero =>
    intro i su ls hf hi6 he hl
    refine lv_iload hx hb d_MO_tab_97 (lv_at hl 0 rfl) ?_
    refine lv_iload hx hb d_MO_tab_99 (lv_at hl 6 rfl) ?_
    refine z_icmp_ge hx hb (tgt := 133) d_MO_tab_101 (by decide) ⟨by omega, by omega⟩ ⟨by omega, by omega⟩ (fun c_101 => ?_) (fun c_101 => ?_)
    · have he : su = t := he
      subst he
      exact kk ls (lv_sub hl [1, 2, 3, 4, 7] rfl)
    · exact absurd c_101 (by omega)
  | succ f ih =>
    intro i su ls hf hi6 he hl
    refine lv_iload hx hb d_MO_tab_97 (lv_at hl 0 rfl) ?_
    refine lv_iload hx hb d_MO_tab_99 (lv_at hl 6 rfl) ?_
    refine z_icmp_ge hx hb (tgt := 133) d_MO_tab_101 (by decide) ⟨by omega, by omega⟩ ⟨by omega, by omega⟩ (fun c_101 => ?_) (fun c_101 => ?_)
    · have he : su = t := by rw [← he]; unfold p_wbt; rw [if_neg (by omega)]
      subst he
      exact kk ls (lv_sub hl [1, 2, 3, 4, 7] rfl)
    · refine lv_aload_n hx hb d_MO_tab_104 rfl (lv_at hl 4 rfl) ?_
      refine z_get (ci := 7) (C := R_MO) (T := T_MO) (N := 32) (v := .ref (ad (6))) hx hb hg in_MO hown hK hP (0) (by decide) rfl rfl 10 (by decide) (hg _ (List.mem_append_right _ (List.mem_append_right _ (List.mem_append_right _ (List.mem_append_right _ (List.mem_append_right _ (List.mem_append_right _ (List.mem_append_right _ (List.mem_append_right _ (List.mem_append_right _ (List.mem_append_right _ (List.mem_append_right _ (List.mem_append_right _ (List.mem_append_right _ (List.mem_append_left _ (List.mem_of_getElem? (i := 13) rfl)))))))))))))))) (fun _ h9 => h9) rfl d_MO_tab_105 ?_
      refine lv_iload hx hb d_MO_tab_108 (lv_at hl 0 rfl) ?_
      refine z_iald hx hb hK hP (6) 0 (by decide) (fun _ => rfl) rfl (i) rfl (by omega) (by decide) d_MO_tab_110 ?_
      refine z_iconst hx hb (z := 2) d_MO_tab_111 ?_
      refine z_icmp_eq hx hb (tgt := 133) d_MO_tab_112 (by decide) (hz _) ⟨by decide, by decide⟩ (fun c_112 => ?_) (fun c_112 => ?_)
      · have he : su = t := by rw [← he]; unfold p_wbt; rw [if_neg (by omega)]
        subst he
        exact kk ls (lv_sub hl [1, 2, 3, 4, 7] rfl)
      · refine lv_iload hx hb d_MO_tab_115 (lv_at hl 1 rfl) ?_
        refine lv_aload_n hx hb d_MO_tab_117 rfl (lv_at hl 4 rfl) ?_
        refine lv_iload hx hb d_MO_tab_118 (lv_at hl 0 rfl) ?_
        refine lv_iload_n hx hb d_MO_tab_120 rfl (lv_at hl 5 rfl) ?_
        refine ro_V (As := [.int (iI (((i : Nat) : Int))), .int (iI (((b : Nat) : Int)))]) (rest := [.int (iI (su))]) (z := p_wid (M 6) (M 7) i (decide (i + 1 = b))) ⟨hx, hb, hml, hown, hg⟩ (r_plain l i b (by omega) hb6 hz) (cwV 2 hg (gt_V (List.mem_append_right _ (List.mem_append_right _ (List.mem_append_right _ (List.mem_append_right _ (List.mem_append_right _ (List.mem_append_right _ (List.mem_append_right _ (List.mem_append_right _ (List.mem_append_right _ (List.mem_append_right _ (List.mem_append_right _ (List.mem_append_right _ (List.mem_append_right _ (List.mem_append_right _ (List.mem_append_right _ (List.mem_append_right _ (List.mem_append_left _ (List.mem_of_getElem? (i := 18) rfl)))))))))))))))))) (List.mem_append_right _ (List.mem_append_right _ (List.mem_append_right _ (List.mem_append_right _ (List.mem_append_right _ (List.mem_append_right _ (List.mem_append_right _ (List.mem_append_right _ (List.mem_append_right _ (List.mem_append_right _ (List.mem_append_right _ (List.mem_append_right _ (List.mem_append_right _ (List.mem_append_right _ (List.mem_append_right _ (List.mem_append_right _ (List.mem_append_left _ (List.mem_of_getElem? (i := 19) rfl)))))))))))))))))) (List.mem_append_left _ (List.mem_of_getElem? (i := 32) rfl)) (List.mem_append_right _ (List.mem_append_left _ (List.mem_of_getElem? (i := 9) rfl))) (List.mem_append_right _ (List.mem_append_right _ (List.mem_append_right _ (List.mem_append_right _ (List.mem_append_right _ (List.mem_append_right _ (List.mem_append_right _ (List.mem_append_right _ (List.mem_append_right _ (List.mem_append_right _ (List.mem_append_right _ (List.mem_append_right _ (List.mem_append_right _ (List.mem_append_right _ (List.mem_append_right _ (List.mem_append_right _ (List.mem_append_left _ (List.mem_of_getElem? (i := 20) rfl))))))))))))))))))) rfl rfl rfl (by decide +kernel) ⟨Nat.le_of_ble_eq_true rfl, Nat.le_of_ble_eq_true rfl⟩) hK hP (va_recv hK hP (ci := 7) (q0 := 0) rfl (wl_atE (by decide) rfl)) rfl hl.1 rfl (Nat.le_of_ble_eq_true rfl) d_MO_tab_121 ⟨Nat.zero_le _, Nat.zero_le _⟩ ?_
        refine z_iadd hx hb d_MO_tab_124 (v := (su + p_wid (M 6) (M 7) i (decide (i + 1 = b)))) rfl ?_
        refine lv_istore (lv' := [(10, .int (iI ((su + p_wid (M 6) (M 7) i (decide (i + 1 = b)))))), (11, .int (iI (((i : Nat) : Int)))), (9, .int (iI (at_))), (6, .int (iI (sv))), (0, .ref (ad (0))), (3, .int (iI (((b : Nat) : Int)))), (4, .int (iI (((so : Nat) : Int)))), (5, .int (iI (x)))]) hx hb d_MO_tab_125 hl (by decide) rfl (fun ls hl => ?_)
        refine z_iinc (v := ((i + 1 : Nat) : Int)) (lv' := [(11, .int (iI (((i + 1 : Nat) : Int)))), (10, .int (iI ((su + p_wid (M 6) (M 7) i (decide (i + 1 = b)))))), (9, .int (iI (at_))), (6, .int (iI (sv))), (0, .ref (ad (0))), (3, .int (iI (((b : Nat) : Int)))), (4, .int (iI (((so : Nat) : Int)))), (5, .int (iI (x)))]) hx hb d_MO_tab_127 hl (k := 1) rfl (by omega) (by decide) rfl (fun ls hl => ?_)
        refine lv_goto (tgt := 97) hx hb d_MO_tab_130 (by decide) ?_
        exact ih (i + 1) ((su + p_wid (M 6) (M 7) i (decide (i + 1 = b)))) ls (by omega) (by omega) (by rw [← he]; conv => rhs; unfold p_wbt; rw [if_pos ⟨by omega, by omega⟩]) (lv_sub hl [0, 1, 2, 3, 4, 5, 6, 7] rfl)
set_option maxHeartbeats 4000000 in
set_option maxRecDepth 100000 in
theorem r_tab2 {p : Program} {l : Launch} {e : Env} {s : State} {m : MethodId} {args : Array Value} {below : List Frame} {meth : Method} {c : Code} {H : Heap} {locs : List Loc} {Q : State → Prop} {D : va_G} {ad : Nat → Nat} {cs : ClassId} {M : Nat → Nat → Int} (hx : p.tables.exec = Jvm.exec) (hb : c.code = b_MO_tab) (hml : c.maxLocals = 12) (hg : ∀ w ∈ gt, w.before args s = true) (hown : s.vm.findClass R_MO = some m.cls) (hK : va_K D vwCl (mo_tys cs) s) (hP : va_P D vwCl (mo_w ad cs M) H) (q n k b so : Nat) (x sv : Int) (hk : k < 600) (hso : so ≤ 600) (hb6 : b ≤ 600) (hx0 : 0 ≤ x ∧ x ≤ 100000000) (hp : rP M q n) (ht : rT M) (hsv : (sv = -1 ∧ p_own (r_sp M q) x n 0 = n) ∨ (sv = ((8 * q + p_own (r_sp M q) x n 0 : Nat) : Int) ∧ p_own (r_sp M q) x n 0 < n)) (kk : ∀ ls : Array Slot, W p l e ({ frames := 2, cells := 0, slots := 0, locals := 43 } : Room) s m args below meth c H locs 0 0 Q (F0 m 199 ls [.int (iI (p_tab n (r_sp M q) (r_sk M q) x (p_wbt (M 6) (M 7) so b (so - (k + 1)) (k + 1) 0) (M 0 3)))])) (ls : Array Slot) (hl : lv_has ls 12 [(6, .int (iI (sv))), (0, .ref (ad (0))), (2, .int (iI (((k : Nat) : Int)))), (3, .int (iI (((b : Nat) : Int)))), (4, .int (iI (((so : Nat) : Int)))), (5, .int (iI (x)))]) : W p l e ({ frames := 2, cells := 0, slots := 0, locals := 43 } : Room) s m args below meth c H locs 0 0 Q (F0 m 87 ls [.int (iI (p_at n (r_sp M q) x (M 0 3)))]) := by
  obtain ⟨hq, hn, hs, hz4, hz5⟩ := id hp
  obtain ⟨ow, how⟩ : ∃ q_, q_ = p_own (r_sp M q) x n 0 := ⟨_, rfl⟩
  rw [← how] at hsv
  have hko := hz5 (8 * q + ow)
  obtain ⟨wv, hwv⟩ : ∃ q_, q_ = p_wbt (M 6) (M 7) so b (so - (k + 1)) (k + 1) 0 := ⟨_, rfl⟩
  have hwb := p_wbtb (kd := M 6) (wd := M 7) (so := so) (b := b) ht.2.1 (so - (k + 1)) (k + 1) 0
  rw [← hwv] at hwb
  obtain ⟨at_, hat⟩ : ∃ q_, q_ = p_at n (r_sp M q) x (M 0 3) := ⟨_, rfl⟩
  rw [← hat]
  have hw2 : 0 ≤ wv.tdiv 2 ∧ wv.tdiv 2 ≤ wv := by rw [Int.tdiv_eq_ediv_of_nonneg (by omega)]; omega
  have hatb : 0 ≤ at_ ∧ at_ ≤ 100100000 := by rw [hat]; exact r_atb hx0 ht.2.2.2.2.2 (fun j => hz4 _)
  refine lv_istore (lv' := [(9, .int (iI (at_))), (6, .int (iI (sv))), (0, .ref (ad (0))), (2, .int (iI (((k : Nat) : Int)))), (3, .int (iI (((b : Nat) : Int)))), (4, .int (iI (((so : Nat) : Int)))), (5, .int (iI (x)))]) hx hb d_MO_tab_87 hl (by decide) rfl (fun ls hl => ?_)
  refine z_iconst hx hb (z := 0) d_MO_tab_89 ?_
  refine lv_istore (lv' := [(10, .int (iI (0))), (9, .int (iI (at_))), (6, .int (iI (sv))), (0, .ref (ad (0))), (2, .int (iI (((k : Nat) : Int)))), (3, .int (iI (((b : Nat) : Int)))), (4, .int (iI (((so : Nat) : Int)))), (5, .int (iI (x)))]) hx hb d_MO_tab_90 hl (by decide) rfl (fun ls hl => ?_)
  refine lv_iload_n hx hb d_MO_tab_92 rfl (lv_at hl 4 rfl) ?_
  refine z_iconst hx hb (z := 1) d_MO_tab_93 ?_
  refine z_iadd hx hb d_MO_tab_94 (v := ((k + 1 : Nat) : Int)) (by omega) ?_
  refine lv_istore (lv' := [(11, .int (iI (((k + 1 : Nat) : Int)))), (10, .int (iI (0))), (9, .int (iI (at_))), (6, .int (iI (sv))), (0, .ref (ad (0))), (2, .int (iI (((k : Nat) : Int)))), (3, .int (iI (((b : Nat) : Int)))), (4, .int (iI (((so : Nat) : Int)))), (5, .int (iI (x)))]) hx hb d_MO_tab_95 hl (by decide) rfl (fun ls hl => ?_)
  refine lr_tab hx hb hml hg hown hK hP b so at_ sv x wv hso hb6 (zb_6 ht) (fun ls hl => ?_) (so - (k + 1)) (k + 1) 0 ls (by omega) (by omega) hwv.symm (lv_sub hl [0, 1, 2, 3, 4, 6, 7, 8] rfl)
  refine lv_iload hx hb d_MO_tab_133 (lv_at hl 1 rfl) ?_
  refine lv_iload hx hb d_MO_tab_135 (lv_at hl 4 rfl) ?_
  refine z_isub hx hb d_MO_tab_137 (v := (at_ - x)) rfl ?_
  refine lv_istore (lv' := [(11, .int (iI ((at_ - x)))), (10, .int (iI (wv))), (9, .int (iI (at_))), (6, .int (iI (sv))), (0, .ref (ad (0))), (5, .int (iI (x)))]) hx hb d_MO_tab_138 hl (by decide) rfl (fun ls hl => ?_)
  refine lv_iload hx hb d_MO_tab_140 (lv_at hl 3 rfl) ?_
  refine z_if_lt hx hb (tgt := 163) d_MO_tab_142 (by decide) ⟨by omega, by omega⟩ (fun c_142 => ?_) (fun c_142 => ?_)
  · refine lv_iload hx hb d_MO_tab_163 (lv_at hl 3 rfl) ?_
    refine z_if_lt hx hb (tgt := 188) d_MO_tab_165 (by decide) ⟨by omega, by omega⟩ (fun c_165 => ?_) (fun c_165 => ?_)
    · refine lv_iload hx hb d_MO_tab_188 (lv_at hl 0 rfl) ?_
      refine z_if_ge hx hb (tgt := 197) d_MO_tab_190 (by decide) ⟨by omega, by omega⟩ (fun c_190 => ?_) (fun c_190 => ?_)
      · refine lv_iload hx hb d_MO_tab_197 (lv_at hl 0 rfl) ?_
        have hv : (at_ - x) = p_tab n (r_sp M q) (r_sk M q) x (p_wbt (M 6) (M 7) so b (so - (k + 1)) (k + 1) 0) (M 0 3) := by rw [← hwv]; unfold p_tab p_knd; rw [← how, ← hat]; unfold r_sk; repeat' (first | (exfalso; omega) | omega | split)
        have h9 := kk ls
        rw [← hv] at h9
        exact h9
      · refine z_iconst hx hb (z := 0) d_MO_tab_193 ?_
        refine lv_goto (tgt := 199) hx hb d_MO_tab_194 (by decide) ?_
        have hv : 0 = p_tab n (r_sp M q) (r_sk M q) x (p_wbt (M 6) (M 7) so b (so - (k + 1)) (k + 1) 0) (M 0 3) := by rw [← hwv]; unfold p_tab p_knd; rw [← how, ← hat]; unfold r_sk; repeat' (first | (exfalso; omega) | omega | split)
        have h9 := kk ls
        rw [← hv] at h9
        exact h9
    · refine lv_aload_n hx hb d_MO_tab_168 rfl (lv_at hl 4 rfl) ?_
      refine z_get (ci := 7) (C := R_MO) (T := T_MO) (N := 32) (v := .ref (ad (5))) hx hb hg in_MO hown hK hP (0) (by decide) rfl rfl 9 (by decide) (hg _ (List.mem_append_right _ (List.mem_append_right _ (List.mem_append_right _ (List.mem_append_right _ (List.mem_append_right _ (List.mem_append_right _ (List.mem_append_right _ (List.mem_append_right _ (List.mem_append_right _ (List.mem_append_right _ (List.mem_append_right _ (List.mem_append_right _ (List.mem_append_right _ (List.mem_append_left _ (List.mem_of_getElem? (i := 12) rfl)))))))))))))))) (fun _ h9 => h9) rfl d_MO_tab_169 ?_
      refine lv_iload hx hb d_MO_tab_172 (lv_at hl 3 rfl) ?_
      refine z_iald hx hb hK hP (5) 0 (by decide) (fun _ => rfl) rfl (8 * q + ow) (by omega) (by omega) (by decide) d_MO_tab_174 ?_
      refine z_iconst hx hb (z := 2) d_MO_tab_175 ?_
      refine z_icmp_ne hx hb (tgt := 188) d_MO_tab_176 (by decide) ⟨by omega, by omega⟩ ⟨by decide, by decide⟩ (fun c_176 => ?_) (fun c_176 => ?_)
      · refine lv_iload hx hb d_MO_tab_188 (lv_at hl 0 rfl) ?_
        refine z_if_ge hx hb (tgt := 197) d_MO_tab_190 (by decide) ⟨by omega, by omega⟩ (fun c_190 => ?_) (fun c_190 => ?_)
        · refine lv_iload hx hb d_MO_tab_197 (lv_at hl 0 rfl) ?_
          have hv : (at_ - x) = p_tab n (r_sp M q) (r_sk M q) x (p_wbt (M 6) (M 7) so b (so - (k + 1)) (k + 1) 0) (M 0 3) := by rw [← hwv]; unfold p_tab p_knd; rw [← how, ← hat]; unfold r_sk; repeat' (first | (exfalso; omega) | omega | split)
          have h9 := kk ls
          rw [← hv] at h9
          exact h9
        · refine z_iconst hx hb (z := 0) d_MO_tab_193 ?_
          refine lv_goto (tgt := 199) hx hb d_MO_tab_194 (by decide) ?_
          have hv : 0 = p_tab n (r_sp M q) (r_sk M q) x (p_wbt (M 6) (M 7) so b (so - (k + 1)) (k + 1) 0) (M 0 3) := by rw [← hwv]; unfold p_tab p_knd; rw [← how, ← hat]; unfold r_sk; repeat' (first | (exfalso; omega) | omega | split)
          have h9 := kk ls
          rw [← hv] at h9
          exact h9
      · refine lv_iload hx hb d_MO_tab_179 (lv_at hl 0 rfl) ?_
        refine lv_iload hx hb d_MO_tab_181 (lv_at hl 1 rfl) ?_
        refine z_iconst hx hb (z := 2) d_MO_tab_183 ?_
        refine z_idiv hx hb d_MO_tab_184 ⟨by omega, by omega⟩ ⟨by decide, by decide⟩ (by omega) (v := ((wv).tdiv (2))) rfl ?_
        refine z_isub hx hb d_MO_tab_185 (v := ((at_ - x) - ((wv).tdiv (2)))) rfl ?_
        refine lv_istore (lv' := [(11, .int (iI (((at_ - x) - ((wv).tdiv (2)))))), (10, .int (iI (wv))), (9, .int (iI (at_))), (6, .int (iI (sv))), (0, .ref (ad (0))), (5, .int (iI (x)))]) hx hb d_MO_tab_186 hl (by decide) rfl (fun ls hl => ?_)
        refine lv_iload hx hb d_MO_tab_188 (lv_at hl 0 rfl) ?_
        refine z_if_ge hx hb (tgt := 197) d_MO_tab_190 (by decide) ⟨by omega, by omega⟩ (fun c_190 => ?_) (fun c_190 => ?_)
        · refine lv_iload hx hb d_MO_tab_197 (lv_at hl 0 rfl) ?_
          have hv : ((at_ - x) - ((wv).tdiv (2))) = p_tab n (r_sp M q) (r_sk M q) x (p_wbt (M 6) (M 7) so b (so - (k + 1)) (k + 1) 0) (M 0 3) := by rw [← hwv]; unfold p_tab p_knd; rw [← how, ← hat]; unfold r_sk; repeat' (first | (exfalso; omega) | omega | split)
          have h9 := kk ls
          rw [← hv] at h9
          exact h9
        · refine z_iconst hx hb (z := 0) d_MO_tab_193 ?_
          refine lv_goto (tgt := 199) hx hb d_MO_tab_194 (by decide) ?_
          have hv : 0 = p_tab n (r_sp M q) (r_sk M q) x (p_wbt (M 6) (M 7) so b (so - (k + 1)) (k + 1) 0) (M 0 3) := by rw [← hwv]; unfold p_tab p_knd; rw [← how, ← hat]; unfold r_sk; repeat' (first | (exfalso; omega) | omega | split)
          have h9 := kk ls
          rw [← hv] at h9
          exact h9
  · refine lv_aload_n hx hb d_MO_tab_145 rfl (lv_at hl 4 rfl) ?_
    refine z_get (ci := 7) (C := R_MO) (T := T_MO) (N := 32) (v := .ref (ad (5))) hx hb hg in_MO hown hK hP (0) (by decide) rfl rfl 9 (by decide) (hg _ (List.mem_append_right _ (List.mem_append_right _ (List.mem_append_right _ (List.mem_append_right _ (List.mem_append_right _ (List.mem_append_right _ (List.mem_append_right _ (List.mem_append_right _ (List.mem_append_right _ (List.mem_append_right _ (List.mem_append_right _ (List.mem_append_right _ (List.mem_append_right _ (List.mem_append_left _ (List.mem_of_getElem? (i := 12) rfl)))))))))))))))) (fun _ h9 => h9) rfl d_MO_tab_146 ?_
    refine lv_iload hx hb d_MO_tab_149 (lv_at hl 3 rfl) ?_
    refine z_iald hx hb hK hP (5) 0 (by decide) (fun _ => rfl) rfl (8 * q + ow) (by omega) (by omega) (by decide) d_MO_tab_151 ?_
    refine z_iconst hx hb (z := 1) d_MO_tab_152 ?_
    refine z_icmp_ne hx hb (tgt := 163) d_MO_tab_153 (by decide) ⟨by omega, by omega⟩ ⟨by decide, by decide⟩ (fun c_153 => ?_) (fun c_153 => ?_)
    · refine lv_iload hx hb d_MO_tab_163 (lv_at hl 3 rfl) ?_
      refine z_if_lt hx hb (tgt := 188) d_MO_tab_165 (by decide) ⟨by omega, by omega⟩ (fun c_165 => ?_) (fun c_165 => ?_)
      · refine lv_iload hx hb d_MO_tab_188 (lv_at hl 0 rfl) ?_
        refine z_if_ge hx hb (tgt := 197) d_MO_tab_190 (by decide) ⟨by omega, by omega⟩ (fun c_190 => ?_) (fun c_190 => ?_)
        · refine lv_iload hx hb d_MO_tab_197 (lv_at hl 0 rfl) ?_
          have hv : (at_ - x) = p_tab n (r_sp M q) (r_sk M q) x (p_wbt (M 6) (M 7) so b (so - (k + 1)) (k + 1) 0) (M 0 3) := by rw [← hwv]; unfold p_tab p_knd; rw [← how, ← hat]; unfold r_sk; repeat' (first | (exfalso; omega) | omega | split)
          have h9 := kk ls
          rw [← hv] at h9
          exact h9
        · refine z_iconst hx hb (z := 0) d_MO_tab_193 ?_
          refine lv_goto (tgt := 199) hx hb d_MO_tab_194 (by decide) ?_
          have hv : 0 = p_tab n (r_sp M q) (r_sk M q) x (p_wbt (M 6) (M 7) so b (so - (k + 1)) (k + 1) 0) (M 0 3) := by rw [← hwv]; unfold p_tab p_knd; rw [← how, ← hat]; unfold r_sk; repeat' (first | (exfalso; omega) | omega | split)
          have h9 := kk ls
          rw [← hv] at h9
          exact h9
      · refine lv_aload_n hx hb d_MO_tab_168 rfl (lv_at hl 4 rfl) ?_
        refine z_get (ci := 7) (C := R_MO) (T := T_MO) (N := 32) (v := .ref (ad (5))) hx hb hg in_MO hown hK hP (0) (by decide) rfl rfl 9 (by decide) (hg _ (List.mem_append_right _ (List.mem_append_right _ (List.mem_append_right _ (List.mem_append_right _ (List.mem_append_right _ (List.mem_append_right _ (List.mem_append_right _ (List.mem_append_right _ (List.mem_append_right _ (List.mem_append_right _ (List.mem_append_right _ (List.mem_append_right _ (List.mem_append_right _ (List.mem_append_left _ (List.mem_of_getElem? (i := 12) rfl)))))))))))))))) (fun _ h9 => h9) rfl d_MO_tab_169 ?_
        refine lv_iload hx hb d_MO_tab_172 (lv_at hl 3 rfl) ?_
        refine z_iald hx hb hK hP (5) 0 (by decide) (fun _ => rfl) rfl (8 * q + ow) (by omega) (by omega) (by decide) d_MO_tab_174 ?_
        refine z_iconst hx hb (z := 2) d_MO_tab_175 ?_
        refine z_icmp_ne hx hb (tgt := 188) d_MO_tab_176 (by decide) ⟨by omega, by omega⟩ ⟨by decide, by decide⟩ (fun c_176 => ?_) (fun c_176 => ?_)
        · refine lv_iload hx hb d_MO_tab_188 (lv_at hl 0 rfl) ?_
          refine z_if_ge hx hb (tgt := 197) d_MO_tab_190 (by decide) ⟨by omega, by omega⟩ (fun c_190 => ?_) (fun c_190 => ?_)
          · refine lv_iload hx hb d_MO_tab_197 (lv_at hl 0 rfl) ?_
            have hv : (at_ - x) = p_tab n (r_sp M q) (r_sk M q) x (p_wbt (M 6) (M 7) so b (so - (k + 1)) (k + 1) 0) (M 0 3) := by rw [← hwv]; unfold p_tab p_knd; rw [← how, ← hat]; unfold r_sk; repeat' (first | (exfalso; omega) | omega | split)
            have h9 := kk ls
            rw [← hv] at h9
            exact h9
          · refine z_iconst hx hb (z := 0) d_MO_tab_193 ?_
            refine lv_goto (tgt := 199) hx hb d_MO_tab_194 (by decide) ?_
            have hv : 0 = p_tab n (r_sp M q) (r_sk M q) x (p_wbt (M 6) (M 7) so b (so - (k + 1)) (k + 1) 0) (M 0 3) := by rw [← hwv]; unfold p_tab p_knd; rw [← how, ← hat]; unfold r_sk; repeat' (first | (exfalso; omega) | omega | split)
            have h9 := kk ls
            rw [← hv] at h9
            exact h9
        · refine lv_iload hx hb d_MO_tab_179 (lv_at hl 0 rfl) ?_
          refine lv_iload hx hb d_MO_tab_181 (lv_at hl 1 rfl) ?_
          refine z_iconst hx hb (z := 2) d_MO_tab_183 ?_
          refine z_idiv hx hb d_MO_tab_184 ⟨by omega, by omega⟩ ⟨by decide, by decide⟩ (by omega) (v := ((wv).tdiv (2))) rfl ?_
          refine z_isub hx hb d_MO_tab_185 (v := ((at_ - x) - ((wv).tdiv (2)))) rfl ?_
          refine lv_istore (lv' := [(11, .int (iI (((at_ - x) - ((wv).tdiv (2)))))), (10, .int (iI (wv))), (9, .int (iI (at_))), (6, .int (iI (sv))), (0, .ref (ad (0))), (5, .int (iI (x)))]) hx hb d_MO_tab_186 hl (by decide) rfl (fun ls hl => ?_)
          refine lv_iload hx hb d_MO_tab_188 (lv_at hl 0 rfl) ?_
          refine z_if_ge hx hb (tgt := 197) d_MO_tab_190 (by decide) ⟨by omega, by omega⟩ (fun c_190 => ?_) (fun c_190 => ?_)
          · refine lv_iload hx hb d_MO_tab_197 (lv_at hl 0 rfl) ?_
            have hv : ((at_ - x) - ((wv).tdiv (2))) = p_tab n (r_sp M q) (r_sk M q) x (p_wbt (M 6) (M 7) so b (so - (k + 1)) (k + 1) 0) (M 0 3) := by rw [← hwv]; unfold p_tab p_knd; rw [← how, ← hat]; unfold r_sk; repeat' (first | (exfalso; omega) | omega | split)
            have h9 := kk ls
            rw [← hv] at h9
            exact h9
          · refine z_iconst hx hb (z := 0) d_MO_tab_193 ?_
            refine lv_goto (tgt := 199) hx hb d_MO_tab_194 (by decide) ?_
            have hv : 0 = p_tab n (r_sp M q) (r_sk M q) x (p_wbt (M 6) (M 7) so b (so - (k + 1)) (k + 1) 0) (M 0 3) := by rw [← hwv]; unfold p_tab p_knd; rw [← how, ← hat]; unfold r_sk; repeat' (first | (exfalso; omega) | omega | split)
            have h9 := kk ls
            rw [← hv] at h9
            exact h9
    · refine lv_iload hx hb d_MO_tab_156 (lv_at hl 0 rfl) ?_
      refine lv_iload hx hb d_MO_tab_158 (lv_at hl 1 rfl) ?_
      refine z_isub hx hb d_MO_tab_160 (v := ((at_ - x) - wv)) rfl ?_
      refine lv_istore (lv' := [(11, .int (iI (((at_ - x) - wv)))), (10, .int (iI (wv))), (9, .int (iI (at_))), (6, .int (iI (sv))), (0, .ref (ad (0))), (5, .int (iI (x)))]) hx hb d_MO_tab_161 hl (by decide) rfl (fun ls hl => ?_)
      refine lv_iload hx hb d_MO_tab_163 (lv_at hl 3 rfl) ?_
      refine z_if_lt hx hb (tgt := 188) d_MO_tab_165 (by decide) ⟨by omega, by omega⟩ (fun c_165 => ?_) (fun c_165 => ?_)
      · refine lv_iload hx hb d_MO_tab_188 (lv_at hl 0 rfl) ?_
        refine z_if_ge hx hb (tgt := 197) d_MO_tab_190 (by decide) ⟨by omega, by omega⟩ (fun c_190 => ?_) (fun c_190 => ?_)
        · refine lv_iload hx hb d_MO_tab_197 (lv_at hl 0 rfl) ?_
          have hv : ((at_ - x) - wv) = p_tab n (r_sp M q) (r_sk M q) x (p_wbt (M 6) (M 7) so b (so - (k + 1)) (k + 1) 0) (M 0 3) := by rw [← hwv]; unfold p_tab p_knd; rw [← how, ← hat]; unfold r_sk; repeat' (first | (exfalso; omega) | omega | split)
          have h9 := kk ls
          rw [← hv] at h9
          exact h9
        · refine z_iconst hx hb (z := 0) d_MO_tab_193 ?_
          refine lv_goto (tgt := 199) hx hb d_MO_tab_194 (by decide) ?_
          have hv : 0 = p_tab n (r_sp M q) (r_sk M q) x (p_wbt (M 6) (M 7) so b (so - (k + 1)) (k + 1) 0) (M 0 3) := by rw [← hwv]; unfold p_tab p_knd; rw [← how, ← hat]; unfold r_sk; repeat' (first | (exfalso; omega) | omega | split)
          have h9 := kk ls
          rw [← hv] at h9
          exact h9
      · refine lv_aload_n hx hb d_MO_tab_168 rfl (lv_at hl 4 rfl) ?_
        refine z_get (ci := 7) (C := R_MO) (T := T_MO) (N := 32) (v := .ref (ad (5))) hx hb hg in_MO hown hK hP (0) (by decide) rfl rfl 9 (by decide) (hg _ (List.mem_append_right _ (List.mem_append_right _ (List.mem_append_right _ (List.mem_append_right _ (List.mem_append_right _ (List.mem_append_right _ (List.mem_append_right _ (List.mem_append_right _ (List.mem_append_right _ (List.mem_append_right _ (List.mem_append_right _ (List.mem_append_right _ (List.mem_append_right _ (List.mem_append_left _ (List.mem_of_getElem? (i := 12) rfl)))))))))))))))) (fun _ h9 => h9) rfl d_MO_tab_169 ?_
        refine lv_iload hx hb d_MO_tab_172 (lv_at hl 3 rfl) ?_
        refine z_iald hx hb hK hP (5) 0 (by decide) (fun _ => rfl) rfl (8 * q + ow) (by omega) (by omega) (by decide) d_MO_tab_174 ?_
        refine z_iconst hx hb (z := 2) d_MO_tab_175 ?_
        refine z_icmp_ne hx hb (tgt := 188) d_MO_tab_176 (by decide) ⟨by omega, by omega⟩ ⟨by decide, by decide⟩ (fun c_176 => ?_) (fun c_176 => ?_)
        · refine lv_iload hx hb d_MO_tab_188 (lv_at hl 0 rfl) ?_
          refine z_if_ge hx hb (tgt := 197) d_MO_tab_190 (by decide) ⟨by omega, by omega⟩ (fun c_190 => ?_) (fun c_190 => ?_)
          · refine lv_iload hx hb d_MO_tab_197 (lv_at hl 0 rfl) ?_
            have hv : ((at_ - x) - wv) = p_tab n (r_sp M q) (r_sk M q) x (p_wbt (M 6) (M 7) so b (so - (k + 1)) (k + 1) 0) (M 0 3) := by rw [← hwv]; unfold p_tab p_knd; rw [← how, ← hat]; unfold r_sk; repeat' (first | (exfalso; omega) | omega | split)
            have h9 := kk ls
            rw [← hv] at h9
            exact h9
          · refine z_iconst hx hb (z := 0) d_MO_tab_193 ?_
            refine lv_goto (tgt := 199) hx hb d_MO_tab_194 (by decide) ?_
            have hv : 0 = p_tab n (r_sp M q) (r_sk M q) x (p_wbt (M 6) (M 7) so b (so - (k + 1)) (k + 1) 0) (M 0 3) := by rw [← hwv]; unfold p_tab p_knd; rw [← how, ← hat]; unfold r_sk; repeat' (first | (exfalso; omega) | omega | split)
            have h9 := kk ls
            rw [← hv] at h9
            exact h9
        · refine lv_iload hx hb d_MO_tab_179 (lv_at hl 0 rfl) ?_
          refine lv_iload hx hb d_MO_tab_181 (lv_at hl 1 rfl) ?_
          refine z_iconst hx hb (z := 2) d_MO_tab_183 ?_
          refine z_idiv hx hb d_MO_tab_184 ⟨by omega, by omega⟩ ⟨by decide, by decide⟩ (by omega) (v := ((wv).tdiv (2))) rfl ?_
          refine z_isub hx hb d_MO_tab_185 (v := (((at_ - x) - wv) - ((wv).tdiv (2)))) rfl ?_
          refine lv_istore (lv' := [(11, .int (iI ((((at_ - x) - wv) - ((wv).tdiv (2)))))), (10, .int (iI (wv))), (9, .int (iI (at_))), (6, .int (iI (sv))), (0, .ref (ad (0))), (5, .int (iI (x)))]) hx hb d_MO_tab_186 hl (by decide) rfl (fun ls hl => ?_)
          refine lv_iload hx hb d_MO_tab_188 (lv_at hl 0 rfl) ?_
          refine z_if_ge hx hb (tgt := 197) d_MO_tab_190 (by decide) ⟨by omega, by omega⟩ (fun c_190 => ?_) (fun c_190 => ?_)
          · refine lv_iload hx hb d_MO_tab_197 (lv_at hl 0 rfl) ?_
            have hv : (((at_ - x) - wv) - ((wv).tdiv (2))) = p_tab n (r_sp M q) (r_sk M q) x (p_wbt (M 6) (M 7) so b (so - (k + 1)) (k + 1) 0) (M 0 3) := by rw [← hwv]; unfold p_tab p_knd; rw [← how, ← hat]; unfold r_sk; repeat' (first | (exfalso; omega) | omega | split)
            have h9 := kk ls
            rw [← hv] at h9
            exact h9
          · refine z_iconst hx hb (z := 0) d_MO_tab_193 ?_
            refine lv_goto (tgt := 199) hx hb d_MO_tab_194 (by decide) ?_
            have hv : 0 = p_tab n (r_sp M q) (r_sk M q) x (p_wbt (M 6) (M 7) so b (so - (k + 1)) (k + 1) 0) (M 0 3) := by rw [← hwv]; unfold p_tab p_knd; rw [← how, ← hat]; unfold r_sk; repeat' (first | (exfalso; omega) | omega | split)
            have h9 := kk ls
            rw [← hv] at h9
            exact h9
set_option maxHeartbeats 4000000 in
set_option maxRecDepth 100000 in
/-- tab -/
theorem r_tab (l : Launch) {D : va_G} {ad : Nat → Nat} {cs : ClassId} {M : Nat → Nat → Int} (q n k b so : Nat) (x : Int) (hk : k < 600) (hso : so ≤ 600) (hb6 : b ≤ 600) (hx0 : 0 ≤ x ∧ x ≤ 100000000) (hp : rP M q n) (ht : rT M) : Met l y_MO_tab ws_MO_tab ({ frames := 2, cells := 0, slots := 0, locals := 43 } : Room) (va_Pc [.ref (ad (0)), .int (iI (((q : Nat) : Int))), .int (iI (((k : Nat) : Int))), .int (iI (((b : Nat) : Int))), .int (iI (((so : Nat) : Int))), .int (iI (x))] (ro_B D vwCl (mo_tys cs) (mo_w ad cs M))) (vp_Si (fun r => r = iI (p_tab n (r_sp M q) (r_sk M q) x (p_wbt (M 6) (M 7) so b (so - (k + 1)) (k + 1) 0) (M 0 3)))) 0 0 (fun _ => False) := by
  refine Met.ofW (cc := b_MO_tab) (maxL := 12) (ret := (some .int)) (by decide) rfl ?_
  intro p e s m args below meth c s₁ B hml hv
  obtain ⟨rfl, hP, hK⟩ := hv
  have hx := B.exec
  have hb := B.bytes
  have hr := B.returns
  have hts := atoms_spec (ws := ws_MO_tab) B.pre
  have hg : ∀ w ∈ gt, w.before _ s = true := fun w h => hts w (List.mem_cons_of_mem _ h)
  have hown : s.vm.findClass R_MO = some m.cls := findClass_of_methodNamed B.named
  have hlocks := B.notSynchronized
  have hl := lv_entry ([.ref (ad (0)), .int (iI (((q : Nat) : Int))), .int (iI (((k : Nat) : Int))), .int (iI (((b : Nat) : Int))), .int (iI (((so : Nat) : Int))), .int (iI (x))]) (n := 12) (Nat.le_of_ble_eq_true rfl)
  rw [lg_entry_eq]
  generalize (lg_sl ([.ref (ad (0)), .int (iI (((q : Nat) : Int))), .int (iI (((k : Nat) : Int))), .int (iI (((b : Nat) : Int))), .int (iI (((so : Nat) : Int))), .int (iI (x))]) ++ List.replicate (12 - (lg_sl ([.ref (ad (0)), .int (iI (((q : Nat) : Int))), .int (iI (((k : Nat) : Int))), .int (iI (((b : Nat) : Int))), .int (iI (((so : Nat) : Int))), .int (iI (x))])).length) Slot.unset).toArray = ls at hl ⊢
  have hl : lv_has ls 12 [(0, .ref (ad (0))), (1, .int (iI (((q : Nat) : Int)))), (2, .int (iI (((k : Nat) : Int)))), (3, .int (iI (((b : Nat) : Int)))), (4, .int (iI (((so : Nat) : Int)))), (5, .int (iI (x)))] := hl
  obtain ⟨hq, hn, hs, hz4, hz5⟩ := id hp
  obtain ⟨ow, how⟩ : ∃ q_, q_ = p_own (r_sp M q) x n 0 := ⟨_, rfl⟩
  have hol : ow ≤ n := by have := p_own_le (r_sp M q) x n 0; omega
  obtain ⟨sv, hsv⟩ : ∃ q_ : Int, q_ = if ow < n then ((8 * q + ow : Nat) : Int) else -1 := ⟨_, rfl⟩
  have hsv2 : (sv = -1 ∧ ow = n) ∨ (sv = ((8 * q + ow : Nat) : Int) ∧ ow < n) := by rw [hsv]; split <;> omega
  have hst := ht.2.2.2.2.2
  have hzl := hz4 (8 * q + n - 1)
  refine lv_aload_n hx hb d_MO_tab_0 rfl (lv_at hl 0 rfl) ?_
  refine lv_iload_n hx hb d_MO_tab_1 rfl (lv_at hl 1 rfl) ?_
  refine lv_iload hx hb d_MO_tab_2 (lv_at hl 5 rfl) ?_
  refine ro_V (As := [.int (iI (((q : Nat) : Int))), .int (iI (x))]) (rest := []) (z := sv) ⟨hx, hb, hml, hown, hg⟩ ((show (if p_own (r_sp M q) x n 0 < n then ((8 * q + p_own (r_sp M q) x n 0 : Nat) : Int) else -1) = sv by rw [hsv, how]) ▸ r_stopAbove l q n x ⟨by omega, by omega⟩ hp) (cwV 2 hg (gt_V (List.mem_append_right _ (List.mem_append_right _ (List.mem_append_right _ (List.mem_append_right _ (List.mem_append_right _ (List.mem_append_right _ (List.mem_append_right _ (List.mem_append_right _ (List.mem_append_right _ (List.mem_append_right _ (List.mem_append_right _ (List.mem_append_right _ (List.mem_append_right _ (List.mem_append_right _ (List.mem_append_right _ (List.mem_append_right _ (List.mem_append_left _ (List.mem_of_getElem? (i := 15) rfl)))))))))))))))))) (List.mem_append_right _ (List.mem_append_right _ (List.mem_append_right _ (List.mem_append_right _ (List.mem_append_right _ (List.mem_append_right _ (List.mem_append_right _ (List.mem_append_right _ (List.mem_append_right _ (List.mem_append_right _ (List.mem_append_right _ (List.mem_append_right _ (List.mem_append_right _ (List.mem_append_right _ (List.mem_append_right _ (List.mem_append_right _ (List.mem_append_left _ (List.mem_of_getElem? (i := 16) rfl)))))))))))))))))) (List.mem_append_left _ (List.mem_of_getElem? (i := 31) rfl)) (List.mem_append_right _ (List.mem_append_left _ (List.mem_of_getElem? (i := 9) rfl))) (List.mem_append_right _ (List.mem_append_right _ (List.mem_append_right _ (List.mem_append_right _ (List.mem_append_right _ (List.mem_append_right _ (List.mem_append_right _ (List.mem_append_right _ (List.mem_append_right _ (List.mem_append_right _ (List.mem_append_right _ (List.mem_append_right _ (List.mem_append_right _ (List.mem_append_right _ (List.mem_append_right _ (List.mem_append_right _ (List.mem_append_left _ (List.mem_of_getElem? (i := 17) rfl))))))))))))))))))) rfl rfl rfl (by decide +kernel) ⟨Nat.le_of_ble_eq_true rfl, Nat.le_of_ble_eq_true rfl⟩) hK hP (va_recv hK hP (ci := 7) (q0 := 0) rfl (wl_atE (by decide) rfl)) rfl hl.1 rfl (Nat.le_of_ble_eq_true rfl) d_MO_tab_4 ⟨Nat.zero_le _, Nat.zero_le _⟩ ?_
  refine lv_istore (lv' := [(6, .int (iI (sv))), (0, .ref (ad (0))), (1, .int (iI (((q : Nat) : Int)))), (2, .int (iI (((k : Nat) : Int)))), (3, .int (iI (((b : Nat) : Int)))), (4, .int (iI (((so : Nat) : Int)))), (5, .int (iI (x)))]) hx hb d_MO_tab_7 hl (by decide) rfl (fun ls hl => ?_)
  refine lv_aload_n hx hb d_MO_tab_9 rfl (lv_at hl 1 rfl) ?_
  refine z_get (ci := 7) (C := R_MO) (T := T_MO) (N := 32) (v := .ref (ad (3))) hx hb hg in_MO hown hK hP (0) (by decide) rfl rfl 7 (by decide) (hg _ (List.mem_append_right _ (List.mem_append_right _ (List.mem_append_right _ (List.mem_append_right _ (List.mem_append_right _ (List.mem_append_right _ (List.mem_append_right _ (List.mem_append_right _ (List.mem_append_right _ (List.mem_append_right _ (List.mem_append_right _ (List.mem_append_right _ (List.mem_append_right _ (List.mem_append_left _ (List.mem_of_getElem? (i := 10) rfl)))))))))))))))) (fun _ h9 => h9) rfl d_MO_tab_10 ?_
  refine lv_iload_n hx hb d_MO_tab_13 rfl (lv_at hl 2 rfl) ?_
  refine z_iald hx hb hK hP (3) 0 (by decide) (fun _ => rfl) rfl (q) rfl (by omega) (by decide) d_MO_tab_14 ?_
  refine z_if_ne hx hb (tgt := 22) d_MO_tab_15 (by decide) ⟨by omega, by omega⟩ (fun c_15 => ?_) (fun c_15 => ?_)
  · refine lv_aload_n hx hb d_MO_tab_22 rfl (lv_at hl 1 rfl) ?_
    refine z_get (ci := 7) (C := R_MO) (T := T_MO) (N := 32) (v := .ref (ad (4))) hx hb hg in_MO hown hK hP (0) (by decide) rfl rfl 8 (by decide) (hg _ (List.mem_append_right _ (List.mem_append_right _ (List.mem_append_right _ (List.mem_append_right _ (List.mem_append_right _ (List.mem_append_right _ (List.mem_append_right _ (List.mem_append_right _ (List.mem_append_right _ (List.mem_append_right _ (List.mem_append_right _ (List.mem_append_right _ (List.mem_append_right _ (List.mem_append_left _ (List.mem_of_getElem? (i := 11) rfl)))))))))))))))) (fun _ h9 => h9) rfl d_MO_tab_23 ?_
    refine z_bipush hx hb (z := 8) d_MO_tab_26 (by decide) ?_
    refine lv_iload_n hx hb d_MO_tab_28 rfl (lv_at hl 2 rfl) ?_
    refine z_imul hx hb d_MO_tab_29 (v := ((8 * q : Nat) : Int)) (by omega) ?_
    refine lv_aload_n hx hb d_MO_tab_30 rfl (lv_at hl 1 rfl) ?_
    refine z_get (ci := 7) (C := R_MO) (T := T_MO) (N := 32) (v := .ref (ad (3))) hx hb hg in_MO hown hK hP (0) (by decide) rfl rfl 7 (by decide) (hg _ (List.mem_append_right _ (List.mem_append_right _ (List.mem_append_right _ (List.mem_append_right _ (List.mem_append_right _ (List.mem_append_right _ (List.mem_append_right _ (List.mem_append_right _ (List.mem_append_right _ (List.mem_append_right _ (List.mem_append_right _ (List.mem_append_right _ (List.mem_append_right _ (List.mem_append_left _ (List.mem_of_getElem? (i := 10) rfl)))))))))))))))) (fun _ h9 => h9) rfl d_MO_tab_31 ?_
    refine lv_iload_n hx hb d_MO_tab_34 rfl (lv_at hl 2 rfl) ?_
    refine z_iald hx hb hK hP (3) 0 (by decide) (fun _ => rfl) rfl (q) rfl (by omega) (by decide) d_MO_tab_35 ?_
    refine z_iadd hx hb d_MO_tab_36 (v := (((8 * q : Nat) : Int) + M (3) (q))) rfl ?_
    refine z_iconst hx hb (z := 1) d_MO_tab_37 ?_
    refine z_isub hx hb d_MO_tab_38 (v := ((((8 * q : Nat) : Int) + M (3) (q)) - 1)) rfl ?_
    refine z_iald hx hb hK hP (4) 0 (by decide) (fun _ => rfl) rfl (8 * q + n - 1) (by omega) (by omega) (by decide) d_MO_tab_39 ?_
    refine lv_istore (lv' := [(7, .int (iI (M (4) (8 * q + n - 1)))), (6, .int (iI (sv))), (0, .ref (ad (0))), (1, .int (iI (((q : Nat) : Int)))), (2, .int (iI (((k : Nat) : Int)))), (3, .int (iI (((b : Nat) : Int)))), (4, .int (iI (((so : Nat) : Int)))), (5, .int (iI (x)))]) hx hb d_MO_tab_40 hl (by decide) rfl (fun ls hl => ?_)
    refine lv_iload hx hb d_MO_tab_42 (lv_at hl 7 rfl) ?_
    refine lv_iload hx hb d_MO_tab_44 (lv_at hl 0 rfl) ?_
    refine z_icmp_le hx hb (tgt := 54) d_MO_tab_46 (by decide) ⟨by omega, by omega⟩ ⟨by omega, by omega⟩ (fun c_46 => ?_) (fun c_46 => ?_)
    · refine lv_iload hx hb d_MO_tab_54 (lv_at hl 0 rfl) ?_
      refine lv_istore (lv' := [(8, .int (iI (M (4) (8 * q + n - 1)))), (7, .int (iI (M (4) (8 * q + n - 1)))), (6, .int (iI (sv))), (0, .ref (ad (0))), (1, .int (iI (((q : Nat) : Int)))), (2, .int (iI (((k : Nat) : Int)))), (3, .int (iI (((b : Nat) : Int)))), (4, .int (iI (((so : Nat) : Int)))), (5, .int (iI (x)))]) hx hb d_MO_tab_56 hl (by decide) rfl (fun ls hl => ?_)
      refine lv_iload hx hb d_MO_tab_58 (lv_at hl 2 rfl) ?_
      refine z_if_lt hx hb (tgt := 73) d_MO_tab_60 (by decide) ⟨by omega, by omega⟩ (fun c_60 => ?_) (fun c_60 => ?_)
      · refine lv_iload hx hb d_MO_tab_73 (lv_at hl 0 rfl) ?_
        refine lv_aload_n hx hb d_MO_tab_75 rfl (lv_at hl 3 rfl) ?_
        refine z_get (ci := 7) (C := R_MO) (T := T_MO) (N := 32) (v := .int (iI (M (0) 3))) hx hb hg in_MO hown hK hP (0) (by decide) rfl rfl 3 (by decide) (hg _ (List.mem_append_right _ (List.mem_append_right _ (List.mem_append_right _ (List.mem_append_right _ (List.mem_append_right _ (List.mem_append_right _ (List.mem_append_right _ (List.mem_append_right _ (List.mem_append_right _ (List.mem_append_right _ (List.mem_append_right _ (List.mem_append_right _ (List.mem_append_right _ (List.mem_append_left _ (List.mem_of_getElem? (i := 6) rfl)))))))))))))))) (fun _ h9 => h9) rfl d_MO_tab_76 ?_
        refine z_idiv hx hb d_MO_tab_79 ⟨by omega, by omega⟩ ⟨by omega, by omega⟩ (by omega) (v := ((M (4) (8 * q + n - 1)).tdiv (M (0) 3))) rfl ?_
        refine z_iconst hx hb (z := 1) d_MO_tab_80 ?_
        refine z_iadd hx hb d_MO_tab_81 (v := (((M (4) (8 * q + n - 1)).tdiv (M (0) 3)) + 1)) rfl ?_
        refine lv_aload_n hx hb d_MO_tab_82 rfl (lv_at hl 3 rfl) ?_
        refine z_get (ci := 7) (C := R_MO) (T := T_MO) (N := 32) (v := .int (iI (M (0) 3))) hx hb hg in_MO hown hK hP (0) (by decide) rfl rfl 3 (by decide) (hg _ (List.mem_append_right _ (List.mem_append_right _ (List.mem_append_right _ (List.mem_append_right _ (List.mem_append_right _ (List.mem_append_right _ (List.mem_append_right _ (List.mem_append_right _ (List.mem_append_right _ (List.mem_append_right _ (List.mem_append_right _ (List.mem_append_right _ (List.mem_append_right _ (List.mem_append_left _ (List.mem_of_getElem? (i := 6) rfl)))))))))))))))) (fun _ h9 => h9) rfl d_MO_tab_83 ?_
        refine z_imul hx hb d_MO_tab_86 (v := ((((M (4) (8 * q + n - 1)).tdiv (M (0) 3)) + 1) * M (0) 3)) rfl ?_
        have hla : p_last n (r_sp M q) = M (4) (8 * q + n - 1) := by unfold p_last; rw [if_pos (by omega)]; unfold r_sp; rw [show 8 * q + (n - 1) = 8 * q + n - 1 by omega]
        have hmx : max x (p_last n (r_sp M q)) = M (4) (8 * q + n - 1) := by rw [hla]; omega
        have hv : ((((M (4) (8 * q + n - 1)).tdiv (M (0) 3)) + 1) * M (0) 3) = p_at n (r_sp M q) x (M 0 3) := by unfold p_at; rw [← how, if_neg (by omega), hmx]; unfold p_step; rw [if_pos (by omega)]
        refine lv_topi (fun y_ ey => ?_)
        have ey := ey.trans (congrArg iI hv)
        subst ey
        refine r_tab2 hx hb hml hg hown hK hP q n k b so x sv hk hso hb6 hx0 hp ht (by rw [← how]; exact hsv2) (fun ls => ?_) ls (lv_sub hl [2, 3, 5, 6, 7, 8] rfl)
        exact W.iret (v := iI (p_tab n (r_sp M q) (r_sk M q) x (p_wbt (M 6) (M 7) so b (so - (k + 1)) (k + 1) 0) (M 0 3))) hx hb hr (fun t ht hW => ⟨_, rfl, rfl, ht⟩) (fun q h => by cases h) d_MO_tab_199
      · refine lv_aload_n hx hb d_MO_tab_63 rfl (lv_at hl 3 rfl) ?_
        refine z_get (ci := 7) (C := R_MO) (T := T_MO) (N := 32) (v := .ref (ad (4))) hx hb hg in_MO hown hK hP (0) (by decide) rfl rfl 8 (by decide) (hg _ (List.mem_append_right _ (List.mem_append_right _ (List.mem_append_right _ (List.mem_append_right _ (List.mem_append_right _ (List.mem_append_right _ (List.mem_append_right _ (List.mem_append_right _ (List.mem_append_right _ (List.mem_append_right _ (List.mem_append_right _ (List.mem_append_right _ (List.mem_append_right _ (List.mem_append_left _ (List.mem_of_getElem? (i := 11) rfl)))))))))))))))) (fun _ h9 => h9) rfl d_MO_tab_64 ?_
        refine lv_iload hx hb d_MO_tab_67 (lv_at hl 2 rfl) ?_
        refine z_iald hx hb hK hP (4) 0 (by decide) (fun _ => rfl) rfl (8 * q + ow) (by omega) (by omega) (by decide) d_MO_tab_69 ?_
        refine lv_goto (tgt := 87) hx hb d_MO_tab_70 (by decide) ?_
        have hv : M (4) (8 * q + ow) = p_at n (r_sp M q) x (M 0 3) := by unfold p_at; rw [← how, if_pos (by omega)]; rfl
        refine lv_topi (fun y_ ey => ?_)
        have ey := ey.trans (congrArg iI hv)
        subst ey
        refine r_tab2 hx hb hml hg hown hK hP q n k b so x sv hk hso hb6 hx0 hp ht (by rw [← how]; exact hsv2) (fun ls => ?_) ls (lv_sub hl [2, 3, 5, 6, 7, 8] rfl)
        exact W.iret (v := iI (p_tab n (r_sp M q) (r_sk M q) x (p_wbt (M 6) (M 7) so b (so - (k + 1)) (k + 1) 0) (M 0 3))) hx hb hr (fun t ht hW => ⟨_, rfl, rfl, ht⟩) (fun q h => by cases h) d_MO_tab_199
    · refine lv_iload hx hb d_MO_tab_49 (lv_at hl 7 rfl) ?_
      refine lv_goto (tgt := 56) hx hb d_MO_tab_51 (by decide) ?_
      refine lv_istore (lv' := [(8, .int (iI (x))), (7, .int (iI (M (4) (8 * q + n - 1)))), (6, .int (iI (sv))), (0, .ref (ad (0))), (1, .int (iI (((q : Nat) : Int)))), (2, .int (iI (((k : Nat) : Int)))), (3, .int (iI (((b : Nat) : Int)))), (4, .int (iI (((so : Nat) : Int)))), (5, .int (iI (x)))]) hx hb d_MO_tab_56 hl (by decide) rfl (fun ls hl => ?_)
      refine lv_iload hx hb d_MO_tab_58 (lv_at hl 2 rfl) ?_
      refine z_if_lt hx hb (tgt := 73) d_MO_tab_60 (by decide) ⟨by omega, by omega⟩ (fun c_60 => ?_) (fun c_60 => ?_)
      · refine lv_iload hx hb d_MO_tab_73 (lv_at hl 0 rfl) ?_
        refine lv_aload_n hx hb d_MO_tab_75 rfl (lv_at hl 3 rfl) ?_
        refine z_get (ci := 7) (C := R_MO) (T := T_MO) (N := 32) (v := .int (iI (M (0) 3))) hx hb hg in_MO hown hK hP (0) (by decide) rfl rfl 3 (by decide) (hg _ (List.mem_append_right _ (List.mem_append_right _ (List.mem_append_right _ (List.mem_append_right _ (List.mem_append_right _ (List.mem_append_right _ (List.mem_append_right _ (List.mem_append_right _ (List.mem_append_right _ (List.mem_append_right _ (List.mem_append_right _ (List.mem_append_right _ (List.mem_append_right _ (List.mem_append_left _ (List.mem_of_getElem? (i := 6) rfl)))))))))))))))) (fun _ h9 => h9) rfl d_MO_tab_76 ?_
        refine z_idiv hx hb d_MO_tab_79 ⟨by omega, by omega⟩ ⟨by omega, by omega⟩ (by omega) (v := ((x).tdiv (M (0) 3))) rfl ?_
        refine z_iconst hx hb (z := 1) d_MO_tab_80 ?_
        refine z_iadd hx hb d_MO_tab_81 (v := (((x).tdiv (M (0) 3)) + 1)) rfl ?_
        refine lv_aload_n hx hb d_MO_tab_82 rfl (lv_at hl 3 rfl) ?_
        refine z_get (ci := 7) (C := R_MO) (T := T_MO) (N := 32) (v := .int (iI (M (0) 3))) hx hb hg in_MO hown hK hP (0) (by decide) rfl rfl 3 (by decide) (hg _ (List.mem_append_right _ (List.mem_append_right _ (List.mem_append_right _ (List.mem_append_right _ (List.mem_append_right _ (List.mem_append_right _ (List.mem_append_right _ (List.mem_append_right _ (List.mem_append_right _ (List.mem_append_right _ (List.mem_append_right _ (List.mem_append_right _ (List.mem_append_right _ (List.mem_append_left _ (List.mem_of_getElem? (i := 6) rfl)))))))))))))))) (fun _ h9 => h9) rfl d_MO_tab_83 ?_
        refine z_imul hx hb d_MO_tab_86 (v := ((((x).tdiv (M (0) 3)) + 1) * M (0) 3)) rfl ?_
        have hla : p_last n (r_sp M q) = M (4) (8 * q + n - 1) := by unfold p_last; rw [if_pos (by omega)]; unfold r_sp; rw [show 8 * q + (n - 1) = 8 * q + n - 1 by omega]
        have hmx : max x (p_last n (r_sp M q)) = x := by rw [hla]; omega
        have hv : ((((x).tdiv (M (0) 3)) + 1) * M (0) 3) = p_at n (r_sp M q) x (M 0 3) := by unfold p_at; rw [← how, if_neg (by omega), hmx]; unfold p_step; rw [if_pos (by omega)]
        refine lv_topi (fun y_ ey => ?_)
        have ey := ey.trans (congrArg iI hv)
        subst ey
        refine r_tab2 hx hb hml hg hown hK hP q n k b so x sv hk hso hb6 hx0 hp ht (by rw [← how]; exact hsv2) (fun ls => ?_) ls (lv_sub hl [2, 3, 5, 6, 7, 8] rfl)
        exact W.iret (v := iI (p_tab n (r_sp M q) (r_sk M q) x (p_wbt (M 6) (M 7) so b (so - (k + 1)) (k + 1) 0) (M 0 3))) hx hb hr (fun t ht hW => ⟨_, rfl, rfl, ht⟩) (fun q h => by cases h) d_MO_tab_199
      · refine lv_aload_n hx hb d_MO_tab_63 rfl (lv_at hl 3 rfl) ?_
        refine z_get (ci := 7) (C := R_MO) (T := T_MO) (N := 32) (v := .ref (ad (4))) hx hb hg in_MO hown hK hP (0) (by decide) rfl rfl 8 (by decide) (hg _ (List.mem_append_right _ (List.mem_append_right _ (List.mem_append_right _ (List.mem_append_right _ (List.mem_append_right _ (List.mem_append_right _ (List.mem_append_right _ (List.mem_append_right _ (List.mem_append_right _ (List.mem_append_right _ (List.mem_append_right _ (List.mem_append_right _ (List.mem_append_right _ (List.mem_append_left _ (List.mem_of_getElem? (i := 11) rfl)))))))))))))))) (fun _ h9 => h9) rfl d_MO_tab_64 ?_
        refine lv_iload hx hb d_MO_tab_67 (lv_at hl 2 rfl) ?_
        refine z_iald hx hb hK hP (4) 0 (by decide) (fun _ => rfl) rfl (8 * q + ow) (by omega) (by omega) (by decide) d_MO_tab_69 ?_
        refine lv_goto (tgt := 87) hx hb d_MO_tab_70 (by decide) ?_
        have hv : M (4) (8 * q + ow) = p_at n (r_sp M q) x (M 0 3) := by unfold p_at; rw [← how, if_pos (by omega)]; rfl
        refine lv_topi (fun y_ ey => ?_)
        have ey := ey.trans (congrArg iI hv)
        subst ey
        refine r_tab2 hx hb hml hg hown hK hP q n k b so x sv hk hso hb6 hx0 hp ht (by rw [← how]; exact hsv2) (fun ls => ?_) ls (lv_sub hl [2, 3, 5, 6, 7, 8] rfl)
        exact W.iret (v := iI (p_tab n (r_sp M q) (r_sk M q) x (p_wbt (M 6) (M 7) so b (so - (k + 1)) (k + 1) 0) (M 0 3))) hx hb hr (fun t ht hW => ⟨_, rfl, rfl, ht⟩) (fun q h => by cases h) d_MO_tab_199
  · refine z_iconst hx hb (z := 0) d_MO_tab_18 ?_
    refine lv_goto (tgt := 40) hx hb d_MO_tab_19 (by decide) ?_
    refine lv_istore (lv' := [(7, .int (iI (0))), (6, .int (iI (sv))), (0, .ref (ad (0))), (1, .int (iI (((q : Nat) : Int)))), (2, .int (iI (((k : Nat) : Int)))), (3, .int (iI (((b : Nat) : Int)))), (4, .int (iI (((so : Nat) : Int)))), (5, .int (iI (x)))]) hx hb d_MO_tab_40 hl (by decide) rfl (fun ls hl => ?_)
    refine lv_iload hx hb d_MO_tab_42 (lv_at hl 7 rfl) ?_
    refine lv_iload hx hb d_MO_tab_44 (lv_at hl 0 rfl) ?_
    refine z_icmp_le hx hb (tgt := 54) d_MO_tab_46 (by decide) ⟨by omega, by omega⟩ ⟨by decide, by decide⟩ (fun c_46 => ?_) (fun c_46 => ?_)
    · refine lv_iload hx hb d_MO_tab_54 (lv_at hl 0 rfl) ?_
      refine lv_istore (lv' := [(8, .int (iI (0))), (7, .int (iI (0))), (6, .int (iI (sv))), (0, .ref (ad (0))), (1, .int (iI (((q : Nat) : Int)))), (2, .int (iI (((k : Nat) : Int)))), (3, .int (iI (((b : Nat) : Int)))), (4, .int (iI (((so : Nat) : Int)))), (5, .int (iI (x)))]) hx hb d_MO_tab_56 hl (by decide) rfl (fun ls hl => ?_)
      refine lv_iload hx hb d_MO_tab_58 (lv_at hl 2 rfl) ?_
      refine z_if_lt hx hb (tgt := 73) d_MO_tab_60 (by decide) ⟨by omega, by omega⟩ (fun c_60 => ?_) (fun c_60 => ?_)
      · refine lv_iload hx hb d_MO_tab_73 (lv_at hl 0 rfl) ?_
        refine lv_aload_n hx hb d_MO_tab_75 rfl (lv_at hl 3 rfl) ?_
        refine z_get (ci := 7) (C := R_MO) (T := T_MO) (N := 32) (v := .int (iI (M (0) 3))) hx hb hg in_MO hown hK hP (0) (by decide) rfl rfl 3 (by decide) (hg _ (List.mem_append_right _ (List.mem_append_right _ (List.mem_append_right _ (List.mem_append_right _ (List.mem_append_right _ (List.mem_append_right _ (List.mem_append_right _ (List.mem_append_right _ (List.mem_append_right _ (List.mem_append_right _ (List.mem_append_right _ (List.mem_append_right _ (List.mem_append_right _ (List.mem_append_left _ (List.mem_of_getElem? (i := 6) rfl)))))))))))))))) (fun _ h9 => h9) rfl d_MO_tab_76 ?_
        refine z_idiv hx hb d_MO_tab_79 ⟨by decide, by decide⟩ ⟨by omega, by omega⟩ (by omega) (v := ((0 : Int).tdiv (M (0) 3))) rfl ?_
        refine z_iconst hx hb (z := 1) d_MO_tab_80 ?_
        refine z_iadd hx hb d_MO_tab_81 (v := (((0 : Int).tdiv (M (0) 3)) + 1)) rfl ?_
        refine lv_aload_n hx hb d_MO_tab_82 rfl (lv_at hl 3 rfl) ?_
        refine z_get (ci := 7) (C := R_MO) (T := T_MO) (N := 32) (v := .int (iI (M (0) 3))) hx hb hg in_MO hown hK hP (0) (by decide) rfl rfl 3 (by decide) (hg _ (List.mem_append_right _ (List.mem_append_right _ (List.mem_append_right _ (List.mem_append_right _ (List.mem_append_right _ (List.mem_append_right _ (List.mem_append_right _ (List.mem_append_right _ (List.mem_append_right _ (List.mem_append_right _ (List.mem_append_right _ (List.mem_append_right _ (List.mem_append_right _ (List.mem_append_left _ (List.mem_of_getElem? (i := 6) rfl)))))))))))))))) (fun _ h9 => h9) rfl d_MO_tab_83 ?_
        refine z_imul hx hb d_MO_tab_86 (v := ((((0 : Int).tdiv (M (0) 3)) + 1) * M (0) 3)) rfl ?_
        have hla : p_last n (r_sp M q) = 0 := by unfold p_last; rw [if_neg (by omega)]
        have hmx : max x (p_last n (r_sp M q)) = 0 := by rw [hla]; omega
        have hv : ((((0 : Int).tdiv (M (0) 3)) + 1) * M (0) 3) = p_at n (r_sp M q) x (M 0 3) := by unfold p_at; rw [← how, if_neg (by omega), hmx]; unfold p_step; rw [if_pos (by omega)]
        refine lv_topi (fun y_ ey => ?_)
        have ey := ey.trans (congrArg iI hv)
        subst ey
        refine r_tab2 hx hb hml hg hown hK hP q n k b so x sv hk hso hb6 hx0 hp ht (by rw [← how]; exact hsv2) (fun ls => ?_) ls (lv_sub hl [2, 3, 5, 6, 7, 8] rfl)
        exact W.iret (v := iI (p_tab n (r_sp M q) (r_sk M q) x (p_wbt (M 6) (M 7) so b (so - (k + 1)) (k + 1) 0) (M 0 3))) hx hb hr (fun t ht hW => ⟨_, rfl, rfl, ht⟩) (fun q h => by cases h) d_MO_tab_199
      · refine lv_aload_n hx hb d_MO_tab_63 rfl (lv_at hl 3 rfl) ?_
        refine z_get (ci := 7) (C := R_MO) (T := T_MO) (N := 32) (v := .ref (ad (4))) hx hb hg in_MO hown hK hP (0) (by decide) rfl rfl 8 (by decide) (hg _ (List.mem_append_right _ (List.mem_append_right _ (List.mem_append_right _ (List.mem_append_right _ (List.mem_append_right _ (List.mem_append_right _ (List.mem_append_right _ (List.mem_append_right _ (List.mem_append_right _ (List.mem_append_right _ (List.mem_append_right _ (List.mem_append_right _ (List.mem_append_right _ (List.mem_append_left _ (List.mem_of_getElem? (i := 11) rfl)))))))))))))))) (fun _ h9 => h9) rfl d_MO_tab_64 ?_
        refine lv_iload hx hb d_MO_tab_67 (lv_at hl 2 rfl) ?_
        refine z_iald hx hb hK hP (4) 0 (by decide) (fun _ => rfl) rfl (8 * q + ow) (by omega) (by omega) (by decide) d_MO_tab_69 ?_
        refine lv_goto (tgt := 87) hx hb d_MO_tab_70 (by decide) ?_
        have hv : M (4) (8 * q + ow) = p_at n (r_sp M q) x (M 0 3) := by unfold p_at; rw [← how, if_pos (by omega)]; rfl
        refine lv_topi (fun y_ ey => ?_)
        have ey := ey.trans (congrArg iI hv)
        subst ey
        refine r_tab2 hx hb hml hg hown hK hP q n k b so x sv hk hso hb6 hx0 hp ht (by rw [← how]; exact hsv2) (fun ls => ?_) ls (lv_sub hl [2, 3, 5, 6, 7, 8] rfl)
        exact W.iret (v := iI (p_tab n (r_sp M q) (r_sk M q) x (p_wbt (M 6) (M 7) so b (so - (k + 1)) (k + 1) 0) (M 0 3))) hx hb hr (fun t ht hW => ⟨_, rfl, rfl, ht⟩) (fun q h => by cases h) d_MO_tab_199
    · refine lv_iload hx hb d_MO_tab_49 (lv_at hl 7 rfl) ?_
      refine lv_goto (tgt := 56) hx hb d_MO_tab_51 (by decide) ?_
      refine lv_istore (lv' := [(8, .int (iI (x))), (7, .int (iI (0))), (6, .int (iI (sv))), (0, .ref (ad (0))), (1, .int (iI (((q : Nat) : Int)))), (2, .int (iI (((k : Nat) : Int)))), (3, .int (iI (((b : Nat) : Int)))), (4, .int (iI (((so : Nat) : Int)))), (5, .int (iI (x)))]) hx hb d_MO_tab_56 hl (by decide) rfl (fun ls hl => ?_)
      refine lv_iload hx hb d_MO_tab_58 (lv_at hl 2 rfl) ?_
      refine z_if_lt hx hb (tgt := 73) d_MO_tab_60 (by decide) ⟨by omega, by omega⟩ (fun c_60 => ?_) (fun c_60 => ?_)
      · refine lv_iload hx hb d_MO_tab_73 (lv_at hl 0 rfl) ?_
        refine lv_aload_n hx hb d_MO_tab_75 rfl (lv_at hl 3 rfl) ?_
        refine z_get (ci := 7) (C := R_MO) (T := T_MO) (N := 32) (v := .int (iI (M (0) 3))) hx hb hg in_MO hown hK hP (0) (by decide) rfl rfl 3 (by decide) (hg _ (List.mem_append_right _ (List.mem_append_right _ (List.mem_append_right _ (List.mem_append_right _ (List.mem_append_right _ (List.mem_append_right _ (List.mem_append_right _ (List.mem_append_right _ (List.mem_append_right _ (List.mem_append_right _ (List.mem_append_right _ (List.mem_append_right _ (List.mem_append_right _ (List.mem_append_left _ (List.mem_of_getElem? (i := 6) rfl)))))))))))))))) (fun _ h9 => h9) rfl d_MO_tab_76 ?_
        refine z_idiv hx hb d_MO_tab_79 ⟨by omega, by omega⟩ ⟨by omega, by omega⟩ (by omega) (v := ((x).tdiv (M (0) 3))) rfl ?_
        refine z_iconst hx hb (z := 1) d_MO_tab_80 ?_
        refine z_iadd hx hb d_MO_tab_81 (v := (((x).tdiv (M (0) 3)) + 1)) rfl ?_
        refine lv_aload_n hx hb d_MO_tab_82 rfl (lv_at hl 3 rfl) ?_
        refine z_get (ci := 7) (C := R_MO) (T := T_MO) (N := 32) (v := .int (iI (M (0) 3))) hx hb hg in_MO hown hK hP (0) (by decide) rfl rfl 3 (by decide) (hg _ (List.mem_append_right _ (List.mem_append_right _ (List.mem_append_right _ (List.mem_append_right _ (List.mem_append_right _ (List.mem_append_right _ (List.mem_append_right _ (List.mem_append_right _ (List.mem_append_right _ (List.mem_append_right _ (List.mem_append_right _ (List.mem_append_right _ (List.mem_append_right _ (List.mem_append_left _ (List.mem_of_getElem? (i := 6) rfl)))))))))))))))) (fun _ h9 => h9) rfl d_MO_tab_83 ?_
        refine z_imul hx hb d_MO_tab_86 (v := ((((x).tdiv (M (0) 3)) + 1) * M (0) 3)) rfl ?_
        have hla : p_last n (r_sp M q) = 0 := by unfold p_last; rw [if_neg (by omega)]
        have hmx : max x (p_last n (r_sp M q)) = x := by rw [hla]; omega
        have hv : ((((x).tdiv (M (0) 3)) + 1) * M (0) 3) = p_at n (r_sp M q) x (M 0 3) := by unfold p_at; rw [← how, if_neg (by omega), hmx]; unfold p_step; rw [if_pos (by omega)]
        refine lv_topi (fun y_ ey => ?_)
        have ey := ey.trans (congrArg iI hv)
        subst ey
        refine r_tab2 hx hb hml hg hown hK hP q n k b so x sv hk hso hb6 hx0 hp ht (by rw [← how]; exact hsv2) (fun ls => ?_) ls (lv_sub hl [2, 3, 5, 6, 7, 8] rfl)
        exact W.iret (v := iI (p_tab n (r_sp M q) (r_sk M q) x (p_wbt (M 6) (M 7) so b (so - (k + 1)) (k + 1) 0) (M 0 3))) hx hb hr (fun t ht hW => ⟨_, rfl, rfl, ht⟩) (fun q h => by cases h) d_MO_tab_199
      · refine lv_aload_n hx hb d_MO_tab_63 rfl (lv_at hl 3 rfl) ?_
        refine z_get (ci := 7) (C := R_MO) (T := T_MO) (N := 32) (v := .ref (ad (4))) hx hb hg in_MO hown hK hP (0) (by decide) rfl rfl 8 (by decide) (hg _ (List.mem_append_right _ (List.mem_append_right _ (List.mem_append_right _ (List.mem_append_right _ (List.mem_append_right _ (List.mem_append_right _ (List.mem_append_right _ (List.mem_append_right _ (List.mem_append_right _ (List.mem_append_right _ (List.mem_append_right _ (List.mem_append_right _ (List.mem_append_right _ (List.mem_append_left _ (List.mem_of_getElem? (i := 11) rfl)))))))))))))))) (fun _ h9 => h9) rfl d_MO_tab_64 ?_
        refine lv_iload hx hb d_MO_tab_67 (lv_at hl 2 rfl) ?_
        refine z_iald hx hb hK hP (4) 0 (by decide) (fun _ => rfl) rfl (8 * q + ow) (by omega) (by omega) (by decide) d_MO_tab_69 ?_
        refine lv_goto (tgt := 87) hx hb d_MO_tab_70 (by decide) ?_
        have hv : M (4) (8 * q + ow) = p_at n (r_sp M q) x (M 0 3) := by unfold p_at; rw [← how, if_pos (by omega)]; rfl
        refine lv_topi (fun y_ ey => ?_)
        have ey := ey.trans (congrArg iI hv)
        subst ey
        refine r_tab2 hx hb hml hg hown hK hP q n k b so x sv hk hso hb6 hx0 hp ht (by rw [← how]; exact hsv2) (fun ls => ?_) ls (lv_sub hl [2, 3, 5, 6, 7, 8] rfl)
        exact W.iret (v := iI (p_tab n (r_sp M q) (r_sk M q) x (p_wbt (M 6) (M 7) so b (so - (k + 1)) (k + 1) 0) (M 0 3))) hx hb hr (fun t ht hW => ⟨_, rfl, rfl, ht⟩) (fun q h => by cases h) d_MO_tab_199
