set_option maxHeartbeats 4000000 in
set_option maxRecDepth 100000 in
/-- Ruler.endWith -/
theorem c_endWith (l : Launch) {D : va_G} {ad : Nat → Nat} {cs : pg_C} {M : Nat → Nat → Int} (i n : Nat) (w : Int) (hp : wfP M i n) (ht : wfT M) (hr0 : wfR M) (hw : 0 ≤ w ∧ w ≤ 50000000) : Met l y_RU_endWith ws_RU_endWith ({ frames := 2, cells := 0, slots := 0, locals := 51 } : Room) (va_Pc [.ref (ad (4)), .int (iI (w))] (ro_B D vwCl (pg_tys cs) (pg_w ad cs (some i) M))) (vp_Si (fun r => r = iI (p_ew (p_tabs M i n) (p_rul M) w))) 0 0 (fun _ => False) := by
  refine Met.ofW (cc := b_RU_endWith) (maxL := 3) (ret := (some .int)) (by decide) rfl ?_
  intro p e s m args below meth c s₁ B hml hv
  obtain ⟨rfl, hP, hK⟩ := hv
  have hx := B.exec
  have hb := B.bytes
  have hr := B.returns
  have hts := atoms_spec (ws := ws_RU_endWith) B.pre
  have hg : ∀ w ∈ gt, w.before _ s = true := fun w h => hts w (List.mem_cons_of_mem _ h)
  have hown : s.vm.findClass R_RU = some m.cls := findClass_of_methodNamed B.named
  have hlocks := B.notSynchronized
  have hl := lv_entry ([.ref (ad (4)), .int (iI (w))]) (n := 3) (Nat.le_of_ble_eq_true rfl)
  rw [lg_entry_eq]
  generalize (lg_sl ([.ref (ad (4)), .int (iI (w))]) ++ List.replicate (3 - (lg_sl ([.ref (ad (4)), .int (iI (w))])).length) Slot.unset).toArray = ls at hl ⊢
  have hl : lv_has ls 3 [(0, .ref (ad (4))), (1, .int (iI (w)))] := hl
  obtain ⟨hi, hn, hs, hz, hz2⟩ := hp
  obtain ⟨h43, h44, h45, h46⟩ := hr0
  obtain ⟨-, -, -, -, -, hst⟩ := ht
  have hz3 : ∀ j, zb (M (32 + 4 * i) j) := fun j => ⟨by have := hz2 j; omega, by have := hz2 j; omega⟩
  refine lv_aload_n hx hb d_RU_endWith_0 rfl (lv_at hl 0 rfl) ?_
  refine z_get (ci := 4) (C := R_RU) (T := T_RU) (N := 7) (v := .int (iI (M (4) 3))) hx hb hg in_RU hown hK hP (4) (by decide) rfl rfl 3 (by decide) (hg _ (List.mem_append_right _ (List.mem_append_right _ (List.mem_append_right _ (List.mem_append_left _ (List.mem_of_getElem? (i := 32) rfl)))))) (fun _ h9 => h9) rfl d_RU_endWith_1 ?_
  refine z_if_eq hx hb (tgt := 36) d_RU_endWith_4 (by decide) ⟨by omega, by omega⟩ (fun c_4 => ?_) (fun c_4 => ?_)
  · refine z_iconst hx hb (z := 0) d_RU_endWith_36 ?_
    refine lv_istore_n (lv' := [(2, .int (iI (0))), (0, .ref (ad (4))), (1, .int (iI (w)))]) hx hb d_RU_endWith_37 rfl hl (by decide) rfl (fun ls hl => ?_)
    refine lv_aload_n hx hb d_RU_endWith_38 rfl (lv_at hl 1 rfl) ?_
    refine z_get (ci := 4) (C := R_RU) (T := T_RU) (N := 7) (v := .int (iI (M (4) 4))) hx hb hg in_RU hown hK hP (4) (by decide) rfl rfl 4 (by decide) (hg _ (List.mem_append_right _ (List.mem_append_right _ (List.mem_append_right _ (List.mem_append_left _ (List.mem_of_getElem? (i := 33) rfl)))))) (fun _ h9 => h9) rfl d_RU_endWith_39 ?_
    refine lv_iload_n hx hb d_RU_endWith_42 rfl (lv_at hl 0 rfl) ?_
    refine z_iadd hx hb d_RU_endWith_43 (v := (M (4) 4 + 0)) rfl ?_
    refine lv_iload_n hx hb d_RU_endWith_44 rfl (lv_at hl 2 rfl) ?_
    refine z_iadd hx hb d_RU_endWith_45 (v := ((M (4) 4 + 0) + w)) rfl ?_
    exact W.iret (v := iI (((M (4) 4 + 0) + w))) hx hb hr (fun t ht hW => ⟨_, rfl, by show _ = iI (M 4 4 + (if M 4 3 = 0 then 0 else p_tab n (M (31 + 4 * i)) (M (32 + 4 * i)) (M 4 4) w (M 2 2)) + w); first | rw [if_pos c_4] | rw [if_neg c_4], ht⟩) (fun q h => by cases h) d_RU_endWith_46
  · refine lv_aload_n hx hb d_RU_endWith_7 rfl (lv_at hl 0 rfl) ?_
    refine z_get (ci := 4) (C := R_RU) (T := T_RU) (N := 7) (v := .ref (ad (29 + 4 * i))) hx hb hg in_RU hown hK hP (4) (by decide) rfl rfl 2 (by decide) (hg _ (List.mem_append_right _ (List.mem_append_right _ (List.mem_append_right _ (List.mem_append_left _ (List.mem_of_getElem? (i := 31) rfl)))))) (fun _ h9 => h9) rfl d_RU_endWith_8 ?_
    refine lv_ifnull hx hb d_RU_endWith_11 ?_
    refine lv_aload_n hx hb d_RU_endWith_14 rfl (lv_at hl 0 rfl) ?_
    refine z_get (ci := 4) (C := R_RU) (T := T_RU) (N := 7) (v := .ref (ad (29 + 4 * i))) hx hb hg in_RU hown hK hP (4) (by decide) rfl rfl 2 (by decide) (hg _ (List.mem_append_right _ (List.mem_append_right _ (List.mem_append_right _ (List.mem_append_left _ (List.mem_of_getElem? (i := 31) rfl)))))) (fun _ h9 => h9) rfl d_RU_endWith_15 ?_
    refine lv_aload_n hx hb d_RU_endWith_18 rfl (lv_at hl 0 rfl) ?_
    refine z_get (ci := 4) (C := R_RU) (T := T_RU) (N := 7) (v := .int (iI (M (4) 4))) hx hb hg in_RU hown hK hP (4) (by decide) rfl rfl 4 (by decide) (hg _ (List.mem_append_right _ (List.mem_append_right _ (List.mem_append_right _ (List.mem_append_left _ (List.mem_of_getElem? (i := 33) rfl)))))) (fun _ h9 => h9) rfl d_RU_endWith_19 ?_
    refine lv_iload_n hx hb d_RU_endWith_22 rfl (lv_at hl 1 rfl) ?_
    refine lv_aload_n hx hb d_RU_endWith_23 rfl (lv_at hl 0 rfl) ?_
    refine z_get (ci := 4) (C := R_RU) (T := T_RU) (N := 7) (v := .ref (ad (2))) hx hb hg in_RU hown hK hP (4) (by decide) rfl rfl 1 (by decide) (hg _ (List.mem_append_right _ (List.mem_append_right _ (List.mem_append_right _ (List.mem_append_left _ (List.mem_of_getElem? (i := 30) rfl)))))) (fun _ h9 => h9) rfl d_RU_endWith_24 ?_
    refine z_get (ci := 2) (C := R_SH) (T := T_SH) (N := 3) (v := .int (iI (M (2) 2))) hx hb hg in_SH hown hK hP (2) (by decide) rfl rfl 2 (by decide) (hg _ (List.mem_append_right _ (List.mem_append_right _ (List.mem_append_right _ (List.mem_append_left _ (List.mem_of_getElem? (i := 11) rfl)))))) (fun _ h9 => h9) rfl d_RU_endWith_27 ?_
    refine ro_V (As := [.int (iI (M (4) 4)), .int (iI (w)), .int (iI (M (2) 2))]) (rest := []) (z := p_tab n (M (31 + 4 * i)) (M (32 + 4 * i)) (M 4 4) w (M 2 2)) ⟨hx, hb, hml, hown, hg⟩ (c_tabWidth l i n (M 4 4) w (M 2 2) (by omega) (by omega) hst hi hn hs hz hz3) (cwV 3 hg (gt_V (List.mem_append_right _ (List.mem_append_right _ (List.mem_append_right _ (List.mem_append_right _ (List.mem_append_right _ (List.mem_append_right _ (List.mem_append_right _ (List.mem_append_left _ (List.mem_of_getElem? (i := 16) rfl))))))))) (List.mem_append_right _ (List.mem_append_right _ (List.mem_append_right _ (List.mem_append_right _ (List.mem_append_right _ (List.mem_append_right _ (List.mem_append_left _ (List.mem_of_getElem? (i := 12) rfl)))))))) (List.mem_append_right _ (List.mem_append_right _ (List.mem_append_right _ (List.mem_append_right _ (List.mem_append_right _ (List.mem_append_right _ (List.mem_append_left _ (List.mem_of_getElem? (i := 13) rfl)))))))) (List.mem_append_right _ (List.mem_append_left _ (List.mem_of_getElem? (i := 4) rfl))) (List.mem_append_right _ (List.mem_append_right _ (List.mem_append_right _ (List.mem_append_right _ (List.mem_append_right _ (List.mem_append_right _ (List.mem_append_left _ (List.mem_of_getElem? (i := 14) rfl))))))))) rfl rfl rfl (by decide +kernel) ⟨Nat.le_of_ble_eq_true rfl, Nat.le_of_ble_eq_true rfl⟩) hK hP (va_recv hK hP (ci := 6) (q0 := 29 + 4 * i) rfl (wl_atE (by omega) (pg_par _ _ _ _ _))) rfl hl.1 rfl (Nat.le_of_ble_eq_true rfl) d_RU_endWith_30 ⟨Nat.zero_le _, Nat.zero_le _⟩ ?_
    refine lv_goto (tgt := 37) hx hb d_RU_endWith_33 (by decide) ?_
    refine lv_istore_n (lv' := [(2, .int (iI (p_tab n (M (31 + 4 * i)) (M (32 + 4 * i)) (M 4 4) w (M 2 2)))), (0, .ref (ad (4))), (1, .int (iI (w)))]) hx hb d_RU_endWith_37 rfl hl (by decide) rfl (fun ls hl => ?_)
    refine lv_aload_n hx hb d_RU_endWith_38 rfl (lv_at hl 1 rfl) ?_
    refine z_get (ci := 4) (C := R_RU) (T := T_RU) (N := 7) (v := .int (iI (M (4) 4))) hx hb hg in_RU hown hK hP (4) (by decide) rfl rfl 4 (by decide) (hg _ (List.mem_append_right _ (List.mem_append_right _ (List.mem_append_right _ (List.mem_append_left _ (List.mem_of_getElem? (i := 33) rfl)))))) (fun _ h9 => h9) rfl d_RU_endWith_39 ?_
    refine lv_iload_n hx hb d_RU_endWith_42 rfl (lv_at hl 0 rfl) ?_
    refine z_iadd hx hb d_RU_endWith_43 (v := (M (4) 4 + p_tab n (M (31 + 4 * i)) (M (32 + 4 * i)) (M 4 4) w (M 2 2))) rfl ?_
    refine lv_iload_n hx hb d_RU_endWith_44 rfl (lv_at hl 2 rfl) ?_
    refine z_iadd hx hb d_RU_endWith_45 (v := ((M (4) 4 + p_tab n (M (31 + 4 * i)) (M (32 + 4 * i)) (M 4 4) w (M 2 2)) + w)) rfl ?_
    exact W.iret (v := iI (((M (4) 4 + p_tab n (M (31 + 4 * i)) (M (32 + 4 * i)) (M 4 4) w (M 2 2)) + w))) hx hb hr (fun t ht hW => ⟨_, rfl, by show _ = iI (M 4 4 + (if M 4 3 = 0 then 0 else p_tab n (M (31 + 4 * i)) (M (32 + 4 * i)) (M 4 4) w (M 2 2)) + w); first | rw [if_pos c_4] | rw [if_neg c_4], ht⟩) (fun q h => by cases h) d_RU_endWith_46
set_option maxHeartbeats 4000000 in
set_option maxRecDepth 100000 in
/-- Ruler.leastEnd -/
theorem c_leastEnd (l : Launch) {D : va_G} {ad : Nat → Nat} {cs : pg_C} {M : Nat → Nat → Int} (i n : Nat) (hp : wfP M i n) (ht : wfT M) (hr0 : wfR M) : Met l y_RU_leastEnd ws_RU_leastEnd ({ frames := 3, cells := 0, slots := 0, locals := 73 } : Room) (va_Pc [.ref (ad (4))] (ro_B D vwCl (pg_tys cs) (pg_w ad cs (some i) M))) (vp_Si (fun r => r = iI (p_least (p_tabs M i n) (p_rul M)))) 0 0 (fun _ => False) := by
  refine Met.ofW (cc := b_RU_leastEnd) (maxL := 1) (ret := (some .int)) (by decide) rfl ?_
  intro p e s m args below meth c s₁ B hml hv
  obtain ⟨rfl, hP, hK⟩ := hv
  have hx := B.exec
  have hb := B.bytes
  have hr := B.returns
  have hts := atoms_spec (ws := ws_RU_leastEnd) B.pre
  have hg : ∀ w ∈ gt, w.before _ s = true := fun w h => hts w (List.mem_cons_of_mem _ h)
  have hown : s.vm.findClass R_RU = some m.cls := findClass_of_methodNamed B.named
  have hlocks := B.notSynchronized
  have hl := lv_entry ([.ref (ad (4))]) (n := 1) (Nat.le_of_ble_eq_true rfl)
  rw [lg_entry_eq]
  generalize (lg_sl ([.ref (ad (4))]) ++ List.replicate (1 - (lg_sl ([.ref (ad (4))])).length) Slot.unset).toArray = ls at hl ⊢
  have hl : lv_has ls 1 [(0, .ref (ad (4)))] := hl
  refine lv_aload_n hx hb d_RU_leastEnd_0 rfl (lv_at hl 0 rfl) ?_
  refine lv_aload_n hx hb d_RU_leastEnd_1 rfl (lv_at hl 0 rfl) ?_
  refine z_get (ci := 4) (C := R_RU) (T := T_RU) (N := 7) (v := .int (iI (M (4) 6))) hx hb hg in_RU hown hK hP (4) (by decide) rfl rfl 6 (by decide) (hg _ (List.mem_append_right _ (List.mem_append_right _ (List.mem_append_right _ (List.mem_append_left _ (List.mem_of_getElem? (i := 35) rfl)))))) (fun _ h9 => h9) rfl d_RU_leastEnd_2 ?_
  refine ro_V (As := [.int (iI (M (4) 6))]) (rest := []) (z := p_ew (p_tabs M i n) (p_rul M) (M 4 6)) ⟨hx, hb, hml, hown, hg⟩ (c_endWith l i n (M 4 6) hp ht hr0 (by have := hr0.2.2.2; omega)) (cwV 1 hg (gt_V (List.mem_append_right _ (List.mem_append_right _ (List.mem_append_right _ (List.mem_append_right _ (List.mem_append_right _ (List.mem_append_right _ (List.mem_append_right _ (List.mem_append_left _ (List.mem_of_getElem? (i := 13) rfl))))))))) (List.mem_append_right _ (List.mem_append_right _ (List.mem_append_right _ (List.mem_append_right _ (List.mem_append_right _ (List.mem_append_right _ (List.mem_append_right _ (List.mem_append_left _ (List.mem_of_getElem? (i := 14) rfl))))))))) (List.mem_append_left _ (List.mem_of_getElem? (i := 12) rfl)) (List.mem_append_right _ (List.mem_append_left _ (List.mem_of_getElem? (i := 7) rfl))) (List.mem_append_right _ (List.mem_append_right _ (List.mem_append_right _ (List.mem_append_right _ (List.mem_append_right _ (List.mem_append_right _ (List.mem_append_right _ (List.mem_append_left _ (List.mem_of_getElem? (i := 15) rfl)))))))))) rfl rfl rfl (by decide +kernel) ⟨Nat.le_of_ble_eq_true rfl, Nat.le_of_ble_eq_true rfl⟩) hK hP (va_recv hK hP (ci := 4) (q0 := 4) rfl (wl_atE (by decide) rfl)) rfl hl.1 rfl (Nat.le_of_ble_eq_true rfl) d_RU_leastEnd_5 ⟨Nat.zero_le _, Nat.zero_le _⟩ ?_
  exact W.iret (v := iI (p_ew (p_tabs M i n) (p_rul M) (M 4 6))) hx hb hr (fun t ht hW => ⟨_, rfl, rfl, ht⟩) (fun q h => by cases h) d_RU_leastEnd_8
set_option maxHeartbeats 4000000 in
set_option maxRecDepth 100000 in
/-- Ruler.endBehind -/
theorem c_endBehind (l : Launch) {D : va_G} {ad : Nat → Nat} {cs : pg_C} {M : Nat → Nat → Int} (i n k : Nat) (hk : k < 600) (hp : wfP M i n) (ht : wfT M) (hr0 : wfR M) : Met l y_RU_endBehind ws_RU_endBehind ({ frames := 4, cells := 0, slots := 0, locals := 93 } : Room) (va_Pc [.ref (ad (4)), .int (iI (((k : Nat) : Int)))] (ro_B D vwCl (pg_tys cs) (pg_w ad cs (some i) M))) (vp_Si (fun r => r = iI (p_endb (M 7) (M 8) (p_tabs M i n) (p_rul M) k))) 0 0 (fun _ => False) := by
  refine Met.ofW (cc := b_RU_endBehind) (maxL := 2) (ret := (some .int)) (by decide) rfl ?_
  intro p e s m args below meth c s₁ B hml hv
  obtain ⟨rfl, hP, hK⟩ := hv
  have hx := B.exec
  have hb := B.bytes
  have hr := B.returns
  have hts := atoms_spec (ws := ws_RU_endBehind) B.pre
  have hg : ∀ w ∈ gt, w.before _ s = true := fun w h => hts w (List.mem_cons_of_mem _ h)
  have hown : s.vm.findClass R_RU = some m.cls := findClass_of_methodNamed B.named
  have hlocks := B.notSynchronized
  have hl := lv_entry ([.ref (ad (4)), .int (iI (((k : Nat) : Int)))]) (n := 2) (Nat.le_of_ble_eq_true rfl)
  rw [lg_entry_eq]
  generalize (lg_sl ([.ref (ad (4)), .int (iI (((k : Nat) : Int)))]) ++ List.replicate (2 - (lg_sl ([.ref (ad (4)), .int (iI (((k : Nat) : Int)))])).length) Slot.unset).toArray = ls at hl ⊢
  have hl : lv_has ls 2 [(0, .ref (ad (4))), (1, .int (iI (((k : Nat) : Int))))] := hl
  refine lv_aload_n hx hb d_RU_endBehind_0 rfl (lv_at hl 0 rfl) ?_
  refine lv_aload_n hx hb d_RU_endBehind_1 rfl (lv_at hl 0 rfl) ?_
  refine z_get (ci := 4) (C := R_RU) (T := T_RU) (N := 7) (v := .ref (ad (1))) hx hb hg in_RU hown hK hP (4) (by decide) rfl rfl 0 (by decide) (hg _ (List.mem_append_right _ (List.mem_append_right _ (List.mem_append_right _ (List.mem_append_left _ (List.mem_of_getElem? (i := 29) rfl)))))) (fun _ h9 => h9) rfl d_RU_endBehind_2 ?_
  refine z_get (ci := 1) (C := R_TX) (T := T_TX) (N := 6) (v := .ref (ad (7))) hx hb hg in_TX hown hK hP (1) (by decide) rfl rfl 1 (by decide) (hg _ (List.mem_append_right _ (List.mem_append_right _ (List.mem_append_left _ (List.mem_of_getElem? (i := 21) rfl))))) (fun _ h9 => h9) rfl d_RU_endBehind_5 ?_
  refine lv_iload_n hx hb d_RU_endBehind_8 rfl (lv_at hl 1 rfl) ?_
  refine z_iald hx hb hK hP (7) 0 (by decide) (fun _ => rfl) rfl (k) rfl (by omega) (by decide) d_RU_endBehind_9 ?_
  refine z_iconst hx hb (z := 4) d_RU_endBehind_10 ?_
  refine z_icmp_ne hx hb (tgt := 31) d_RU_endBehind_11 (by decide) (zb_7 ht _) ⟨by decide, by decide⟩ (fun c_11 => ?_) (fun c_11 => ?_)
  · refine lv_aload_n hx hb d_RU_endBehind_31 rfl (lv_at hl 0 rfl) ?_
    refine z_get (ci := 4) (C := R_RU) (T := T_RU) (N := 7) (v := .int (iI (M (4) 6))) hx hb hg in_RU hown hK hP (4) (by decide) rfl rfl 6 (by decide) (hg _ (List.mem_append_right _ (List.mem_append_right _ (List.mem_append_right _ (List.mem_append_left _ (List.mem_of_getElem? (i := 35) rfl)))))) (fun _ h9 => h9) rfl d_RU_endBehind_32 ?_
    refine ro_V (As := [.int (iI (M (4) 6))]) (rest := []) (z := p_ew (p_tabs M i n) (p_rul M) (M (4) 6)) ⟨hx, hb, hml, hown, hg⟩ (c_endWith l i n (M (4) 6) hp ht hr0 (by have := hr0.2.2.1; have := hr0.2.2.2; have := ht.2.1 k; omega)) (cwV 1 hg (gt_V (List.mem_append_right _ (List.mem_append_right _ (List.mem_append_right _ (List.mem_append_right _ (List.mem_append_right _ (List.mem_append_right _ (List.mem_append_right _ (List.mem_append_left _ (List.mem_of_getElem? (i := 13) rfl))))))))) (List.mem_append_right _ (List.mem_append_right _ (List.mem_append_right _ (List.mem_append_right _ (List.mem_append_right _ (List.mem_append_right _ (List.mem_append_right _ (List.mem_append_left _ (List.mem_of_getElem? (i := 14) rfl))))))))) (List.mem_append_left _ (List.mem_of_getElem? (i := 12) rfl)) (List.mem_append_right _ (List.mem_append_left _ (List.mem_of_getElem? (i := 7) rfl))) (List.mem_append_right _ (List.mem_append_right _ (List.mem_append_right _ (List.mem_append_right _ (List.mem_append_right _ (List.mem_append_right _ (List.mem_append_right _ (List.mem_append_left _ (List.mem_of_getElem? (i := 15) rfl)))))))))) rfl rfl rfl (by decide +kernel) ⟨Nat.le_of_ble_eq_true rfl, Nat.le_of_ble_eq_true rfl⟩) hK hP (va_recv hK hP (ci := 4) (q0 := 4) rfl (wl_atE (by decide) rfl)) rfl hl.1 rfl (Nat.le_of_ble_eq_true rfl) d_RU_endBehind_35 ⟨Nat.zero_le _, Nat.zero_le _⟩ ?_
    exact W.iret (v := iI (p_ew (p_tabs M i n) (p_rul M) (M (4) 6))) hx hb hr (fun t ht hW => ⟨_, rfl, by unfold p_endb; first | (rw [if_pos (by omega)]; rfl) | (rw [if_neg (by omega)]; rfl), ht⟩) (fun q h => by cases h) d_RU_endBehind_38
  · refine lv_aload_n hx hb d_RU_endBehind_14 rfl (lv_at hl 0 rfl) ?_
    refine z_get (ci := 4) (C := R_RU) (T := T_RU) (N := 7) (v := .int (iI (M (4) 5))) hx hb hg in_RU hown hK hP (4) (by decide) rfl rfl 5 (by decide) (hg _ (List.mem_append_right _ (List.mem_append_right _ (List.mem_append_right _ (List.mem_append_left _ (List.mem_of_getElem? (i := 34) rfl)))))) (fun _ h9 => h9) rfl d_RU_endBehind_15 ?_
    refine lv_aload_n hx hb d_RU_endBehind_18 rfl (lv_at hl 0 rfl) ?_
    refine z_get (ci := 4) (C := R_RU) (T := T_RU) (N := 7) (v := .ref (ad (1))) hx hb hg in_RU hown hK hP (4) (by decide) rfl rfl 0 (by decide) (hg _ (List.mem_append_right _ (List.mem_append_right _ (List.mem_append_right _ (List.mem_append_left _ (List.mem_of_getElem? (i := 29) rfl)))))) (fun _ h9 => h9) rfl d_RU_endBehind_19 ?_
    refine z_get (ci := 1) (C := R_TX) (T := T_TX) (N := 6) (v := .ref (ad (8))) hx hb hg in_TX hown hK hP (1) (by decide) rfl rfl 2 (by decide) (hg _ (List.mem_append_right _ (List.mem_append_right _ (List.mem_append_left _ (List.mem_of_getElem? (i := 24) rfl))))) (fun _ h9 => h9) rfl d_RU_endBehind_22 ?_
    refine lv_iload_n hx hb d_RU_endBehind_25 rfl (lv_at hl 1 rfl) ?_
    refine z_iald hx hb hK hP (8) 0 (by decide) (fun _ => rfl) rfl (k) rfl (by omega) (by decide) d_RU_endBehind_26 ?_
    refine z_iadd hx hb d_RU_endBehind_27 (v := (M (4) 5 + M (8) (k))) rfl ?_
    refine lv_goto (tgt := 35) hx hb d_RU_endBehind_28 (by decide) ?_
    refine ro_V (As := [.int (iI ((M (4) 5 + M (8) (k))))]) (rest := []) (z := p_ew (p_tabs M i n) (p_rul M) ((M (4) 5 + M (8) (k)))) ⟨hx, hb, hml, hown, hg⟩ (c_endWith l i n ((M (4) 5 + M (8) (k))) hp ht hr0 (by have := hr0.2.2.1; have := hr0.2.2.2; have := ht.2.1 k; omega)) (cwV 1 hg (gt_V (List.mem_append_right _ (List.mem_append_right _ (List.mem_append_right _ (List.mem_append_right _ (List.mem_append_right _ (List.mem_append_right _ (List.mem_append_right _ (List.mem_append_left _ (List.mem_of_getElem? (i := 13) rfl))))))))) (List.mem_append_right _ (List.mem_append_right _ (List.mem_append_right _ (List.mem_append_right _ (List.mem_append_right _ (List.mem_append_right _ (List.mem_append_right _ (List.mem_append_left _ (List.mem_of_getElem? (i := 14) rfl))))))))) (List.mem_append_left _ (List.mem_of_getElem? (i := 12) rfl)) (List.mem_append_right _ (List.mem_append_left _ (List.mem_of_getElem? (i := 7) rfl))) (List.mem_append_right _ (List.mem_append_right _ (List.mem_append_right _ (List.mem_append_right _ (List.mem_append_right _ (List.mem_append_right _ (List.mem_append_right _ (List.mem_append_left _ (List.mem_of_getElem? (i := 15) rfl)))))))))) rfl rfl rfl (by decide +kernel) ⟨Nat.le_of_ble_eq_true rfl, Nat.le_of_ble_eq_true rfl⟩) hK hP (va_recv hK hP (ci := 4) (q0 := 4) rfl (wl_atE (by decide) rfl)) rfl hl.1 rfl (Nat.le_of_ble_eq_true rfl) d_RU_endBehind_35 ⟨Nat.zero_le _, Nat.zero_le _⟩ ?_
    exact W.iret (v := iI (p_ew (p_tabs M i n) (p_rul M) ((M (4) 5 + M (8) (k))))) hx hb hr (fun t ht hW => ⟨_, rfl, by unfold p_endb; first | (rw [if_pos (by omega)]; rfl) | (rw [if_neg (by omega)]; rfl), ht⟩) (fun q h => by cases h) d_RU_endBehind_38
set_option maxHeartbeats 4000000 in
set_option maxRecDepth 100000 in
theorem lp_widthsBehindTab {p : Program} {l : Launch} {e : Env} {s : State} {m : MethodId} {args : Array Value} {below : List Frame} {meth : Method} {c : Code} {H : Heap} {locs : List Loc} {Q : State → Prop} {D : va_G} {ad : Nat → Nat} {cs : pg_C} {rp : Option Nat} {M : Nat → Nat → Int} (hx : p.tables.exec = Jvm.exec) (hb : c.code = b_LN_widthsBehindTab) (hml : c.maxLocals = 6) (hg : ∀ w ∈ gt, w.before args s = true) (hown : s.vm.findClass R_LN = some m.cls) (hK : va_K D vwCl (pg_tys cs) s) (hP : va_P D vwCl (pg_w ad cs rp M) H) (tb so b : Nat) (t : Int) (hso : so ≤ 600) (hb6 : b ≤ 600) (ht : wfT M) (kk : ∀ ls : Array Slot, lv_has ls 6 [(4, .int (iI t))] → W p l e ({ frames := 2, cells := 0, slots := 0, locals := 43 } : Room) s m args below meth c H locs 0 0 Q (F0 m 61 ls [])) : ∀ (f i : Nat) (su : Int) (ls : Array Slot), so ≤ i + f → i ≤ 601 → p_wbt (M 7) (M 8) so b f i su = t → lv_has ls 6 [(5, .int (iI (((i : Nat) : Int)))), (4, .int (iI (su))), (0, .ref (ad (3))), (1, .int (iI (((tb : Nat) : Int)))), (2, .int (iI (((so : Nat) : Int)))), (3, .int (iI (((b : Nat) : Int))))] → W p l e ({ frames := 2, cells := 0, slots := 0, locals := 43 } : Room) s m args below meth c H locs 0 0 Q (F0 m 8 ls []) := by
  intro f
  induction f with
  | zero =>
    intro i su ls hf hi6 he hl
    refine lv_iload hx hb d_LN_widthsBehindTab_8 (lv_at hl 0 rfl) ?_
    refine lv_iload_n hx hb d_LN_widthsBehindTab_10 rfl (lv_at hl 4 rfl) ?_
    refine z_icmp_ge hx hb (tgt := 61) d_LN_widthsBehindTab_11 (by decide) ⟨by omega, by omega⟩ ⟨by omega, by omega⟩ (fun c_11 => ?_) (fun c_11 => ?_)
    · have he : su = t := he
      subst he
      exact kk ls (lv_sub hl [1] rfl)
    · exact absurd c_11 (by omega)
  | succ f ih =>
    intro i su ls hf hi6 he hl
    refine lv_iload hx hb d_LN_widthsBehindTab_8 (lv_at hl 0 rfl) ?_
    refine lv_iload_n hx hb d_LN_widthsBehindTab_10 rfl (lv_at hl 4 rfl) ?_
    refine z_icmp_ge hx hb (tgt := 61) d_LN_widthsBehindTab_11 (by decide) ⟨by omega, by omega⟩ ⟨by omega, by omega⟩ (fun c_11 => ?_) (fun c_11 => ?_)
    · have he : su = t := by rw [← he]; unfold p_wbt; rw [if_neg (by omega)]
      subst he
      exact kk ls (lv_sub hl [1] rfl)
    · refine lv_aload_n hx hb d_LN_widthsBehindTab_14 rfl (lv_at hl 2 rfl) ?_
      refine z_get (ci := 3) (C := R_LN) (T := T_LN) (N := 6) (v := .ref (ad (1))) hx hb hg in_LN hown hK hP (3) (by decide) rfl rfl 3 (by decide) (hg _ (List.mem_append_right _ (List.mem_append_right _ (List.mem_append_right _ (List.mem_append_right _ (List.mem_append_left _ (List.mem_of_getElem? (i := 11) rfl))))))) (fun _ h9 => h9) rfl d_LN_widthsBehindTab_15 ?_
      refine z_get (ci := 1) (C := R_TX) (T := T_TX) (N := 6) (v := .ref (ad (7))) hx hb hg in_TX hown hK hP (1) (by decide) rfl rfl 1 (by decide) (hg _ (List.mem_append_right _ (List.mem_append_right _ (List.mem_append_left _ (List.mem_of_getElem? (i := 22) rfl))))) (fun _ h9 => h9) rfl d_LN_widthsBehindTab_18 ?_
      refine lv_iload hx hb d_LN_widthsBehindTab_21 (lv_at hl 0 rfl) ?_
      refine z_iald hx hb hK hP (7) 0 (by decide) (fun _ => rfl) rfl (i) rfl (by omega) (by decide) d_LN_widthsBehindTab_23 ?_
      refine z_iconst hx hb (z := 2) d_LN_widthsBehindTab_24 ?_
      refine z_icmp_eq hx hb (tgt := 61) d_LN_widthsBehindTab_25 (by decide) (zb_7 ht _) ⟨by decide, by decide⟩ (fun c_25 => ?_) (fun c_25 => ?_)
      · have he : su = t := by rw [← he]; unfold p_wbt; rw [if_neg (by omega)]
        subst he
        exact kk ls (lv_sub hl [1] rfl)
      · refine lv_iload hx hb d_LN_widthsBehindTab_28 (lv_at hl 1 rfl) ?_
        refine lv_aload_n hx hb d_LN_widthsBehindTab_30 rfl (lv_at hl 2 rfl) ?_
        refine z_get (ci := 3) (C := R_LN) (T := T_LN) (N := 6) (v := .ref (ad (1))) hx hb hg in_LN hown hK hP (3) (by decide) rfl rfl 3 (by decide) (hg _ (List.mem_append_right _ (List.mem_append_right _ (List.mem_append_right _ (List.mem_append_right _ (List.mem_append_left _ (List.mem_of_getElem? (i := 11) rfl))))))) (fun _ h9 => h9) rfl d_LN_widthsBehindTab_31 ?_
        refine lv_iload hx hb d_LN_widthsBehindTab_34 (lv_at hl 0 rfl) ?_
        refine lv_iload hx hb d_LN_widthsBehindTab_36 (lv_at hl 0 rfl) ?_
        refine lv_iload_n hx hb d_LN_widthsBehindTab_38 rfl (lv_at hl 5 rfl) ?_
        refine z_iconst hx hb (z := 1) d_LN_widthsBehindTab_39 ?_
        refine z_isub hx hb d_LN_widthsBehindTab_40 (v := (((b : Nat) : Int) - 1)) rfl ?_
        refine z_icmp_ne hx hb (tgt := 48) d_LN_widthsBehindTab_41 (by decide) ⟨by omega, by omega⟩ ⟨by omega, by omega⟩ (fun c_41 => ?_) (fun c_41 => ?_)
        · refine z_iconst hx hb (z := 0) d_LN_widthsBehindTab_48 ?_
          refine ro_V (As := [.int (iI (((i : Nat) : Int))), .int (iI (0))]) (rest := [.int (iI (su))]) (z := p_wid (M 7) (M 8) i false) ⟨hx, hb, hml, hown, hg⟩ (c_widthWithin l i false (by omega) (zb_7 ht)) (cwV 2 hg (gt_V (List.mem_append_right _ (List.mem_append_right _ (List.mem_append_right _ (List.mem_append_right _ (List.mem_append_right _ (List.mem_append_right _ (List.mem_append_left _ (List.mem_of_getElem? (i := 7) rfl)))))))) (List.mem_append_right _ (List.mem_append_right _ (List.mem_append_right _ (List.mem_append_right _ (List.mem_append_right _ (List.mem_append_right _ (List.mem_append_left _ (List.mem_of_getElem? (i := 8) rfl)))))))) (List.mem_append_right _ (List.mem_append_right _ (List.mem_append_right _ (List.mem_append_right _ (List.mem_append_right _ (List.mem_append_right _ (List.mem_append_left _ (List.mem_of_getElem? (i := 9) rfl)))))))) (List.mem_append_right _ (List.mem_append_left _ (List.mem_of_getElem? (i := 3) rfl))) (List.mem_append_right _ (List.mem_append_right _ (List.mem_append_right _ (List.mem_append_right _ (List.mem_append_right _ (List.mem_append_right _ (List.mem_append_left _ (List.mem_of_getElem? (i := 10) rfl))))))))) rfl rfl rfl (by decide +kernel) ⟨Nat.le_of_ble_eq_true rfl, Nat.le_of_ble_eq_true rfl⟩) hK hP (va_recv hK hP (ci := 1) (q0 := 1) rfl (wl_atE (by decide) rfl)) rfl hl.1 rfl (Nat.le_of_ble_eq_true rfl) d_LN_widthsBehindTab_49 ⟨Nat.zero_le _, Nat.zero_le _⟩ ?_
          refine z_iadd hx hb d_LN_widthsBehindTab_52 (v := (su + p_wid (M 7) (M 8) i false)) rfl ?_
          refine lv_istore (lv' := [(4, .int (iI ((su + p_wid (M 7) (M 8) i false)))), (5, .int (iI (((i : Nat) : Int)))), (0, .ref (ad (3))), (1, .int (iI (((tb : Nat) : Int)))), (2, .int (iI (((so : Nat) : Int)))), (3, .int (iI (((b : Nat) : Int))))]) hx hb d_LN_widthsBehindTab_53 hl (by decide) rfl (fun ls hl => ?_)
          refine z_iinc (v := ((i + 1 : Nat) : Int)) (lv' := [(5, .int (iI (((i + 1 : Nat) : Int)))), (4, .int (iI ((su + p_wid (M 7) (M 8) i false)))), (0, .ref (ad (3))), (1, .int (iI (((tb : Nat) : Int)))), (2, .int (iI (((so : Nat) : Int)))), (3, .int (iI (((b : Nat) : Int))))]) hx hb d_LN_widthsBehindTab_55 hl (k := 1) rfl (by omega) (by decide) rfl (fun ls hl => ?_)
          refine lv_goto (tgt := 8) hx hb d_LN_widthsBehindTab_58 (by decide) ?_
          exact ih (i + 1) ((su + p_wid (M 7) (M 8) i false)) ls (by omega) (by omega) (by rw [← he]; conv => rhs; unfold p_wbt; rw [if_pos ⟨by omega, by omega⟩, decide_eq_false (show ¬ i + 1 = b by omega)]) hl
        · refine z_iconst hx hb (z := 1) d_LN_widthsBehindTab_44 ?_
          refine lv_goto (tgt := 49) hx hb d_LN_widthsBehindTab_45 (by decide) ?_
          refine ro_V (As := [.int (iI (((i : Nat) : Int))), .int (iI (1))]) (rest := [.int (iI (su))]) (z := p_wid (M 7) (M 8) i true) ⟨hx, hb, hml, hown, hg⟩ (c_widthWithin l i true (by omega) (zb_7 ht)) (cwV 2 hg (gt_V (List.mem_append_right _ (List.mem_append_right _ (List.mem_append_right _ (List.mem_append_right _ (List.mem_append_right _ (List.mem_append_right _ (List.mem_append_left _ (List.mem_of_getElem? (i := 7) rfl)))))))) (List.mem_append_right _ (List.mem_append_right _ (List.mem_append_right _ (List.mem_append_right _ (List.mem_append_right _ (List.mem_append_right _ (List.mem_append_left _ (List.mem_of_getElem? (i := 8) rfl)))))))) (List.mem_append_right _ (List.mem_append_right _ (List.mem_append_right _ (List.mem_append_right _ (List.mem_append_right _ (List.mem_append_right _ (List.mem_append_left _ (List.mem_of_getElem? (i := 9) rfl)))))))) (List.mem_append_right _ (List.mem_append_left _ (List.mem_of_getElem? (i := 3) rfl))) (List.mem_append_right _ (List.mem_append_right _ (List.mem_append_right _ (List.mem_append_right _ (List.mem_append_right _ (List.mem_append_right _ (List.mem_append_left _ (List.mem_of_getElem? (i := 10) rfl))))))))) rfl rfl rfl (by decide +kernel) ⟨Nat.le_of_ble_eq_true rfl, Nat.le_of_ble_eq_true rfl⟩) hK hP (va_recv hK hP (ci := 1) (q0 := 1) rfl (wl_atE (by decide) rfl)) rfl hl.1 rfl (Nat.le_of_ble_eq_true rfl) d_LN_widthsBehindTab_49 ⟨Nat.zero_le _, Nat.zero_le _⟩ ?_
          refine z_iadd hx hb d_LN_widthsBehindTab_52 (v := (su + p_wid (M 7) (M 8) i true)) rfl ?_
          refine lv_istore (lv' := [(4, .int (iI ((su + p_wid (M 7) (M 8) i true)))), (5, .int (iI (((i : Nat) : Int)))), (0, .ref (ad (3))), (1, .int (iI (((tb : Nat) : Int)))), (2, .int (iI (((so : Nat) : Int)))), (3, .int (iI (((b : Nat) : Int))))]) hx hb d_LN_widthsBehindTab_53 hl (by decide) rfl (fun ls hl => ?_)
          refine z_iinc (v := ((i + 1 : Nat) : Int)) (lv' := [(5, .int (iI (((i + 1 : Nat) : Int)))), (4, .int (iI ((su + p_wid (M 7) (M 8) i true)))), (0, .ref (ad (3))), (1, .int (iI (((tb : Nat) : Int)))), (2, .int (iI (((so : Nat) : Int)))), (3, .int (iI (((b : Nat) : Int))))]) hx hb d_LN_widthsBehindTab_55 hl (k := 1) rfl (by omega) (by decide) rfl (fun ls hl => ?_)
          refine lv_goto (tgt := 8) hx hb d_LN_widthsBehindTab_58 (by decide) ?_
          exact ih (i + 1) ((su + p_wid (M 7) (M 8) i true)) ls (by omega) (by omega) (by rw [← he]; conv => rhs; unfold p_wbt; rw [if_pos ⟨by omega, by omega⟩, decide_eq_true (show i + 1 = b by omega)]) hl
set_option maxHeartbeats 4000000 in
set_option maxRecDepth 100000 in
/-- Lines.widthsBehindTab -/
theorem c_widthsBehindTab (l : Launch) {D : va_G} {ad : Nat → Nat} {cs : pg_C} {rp : Option Nat} {M : Nat → Nat → Int} (tb so b : Nat) (htb : tb ≤ 600) (hso : so ≤ 600) (hb6 : b ≤ 600) (ht : wfT M) : Met l y_LN_widthsBehindTab ws_LN_widthsBehindTab ({ frames := 2, cells := 0, slots := 0, locals := 43 } : Room) (va_Pc [.ref (ad (3)), .int (iI (((tb : Nat) : Int))), .int (iI (((so : Nat) : Int))), .int (iI (((b : Nat) : Int)))] (ro_B D vwCl (pg_tys cs) (pg_w ad cs rp M))) (vp_Si (fun r => r = iI (p_wbt (M 7) (M 8) so b (so - (tb + 1)) (tb + 1) 0))) 0 0 (fun _ => False) := by
  refine Met.ofW (cc := b_LN_widthsBehindTab) (maxL := 6) (ret := (some .int)) (by decide) rfl ?_
  intro p e s m args below meth c s₁ B hml hv
  obtain ⟨rfl, hP, hK⟩ := hv
  have hx := B.exec
  have hb := B.bytes
  have hr := B.returns
  have hts := atoms_spec (ws := ws_LN_widthsBehindTab) B.pre
  have hg : ∀ w ∈ gt, w.before _ s = true := fun w h => hts w (List.mem_cons_of_mem _ h)
  have hown : s.vm.findClass R_LN = some m.cls := findClass_of_methodNamed B.named
  have hlocks := B.notSynchronized
  have hl := lv_entry ([.ref (ad (3)), .int (iI (((tb : Nat) : Int))), .int (iI (((so : Nat) : Int))), .int (iI (((b : Nat) : Int)))]) (n := 6) (Nat.le_of_ble_eq_true rfl)
  rw [lg_entry_eq]
  generalize (lg_sl ([.ref (ad (3)), .int (iI (((tb : Nat) : Int))), .int (iI (((so : Nat) : Int))), .int (iI (((b : Nat) : Int)))]) ++ List.replicate (6 - (lg_sl ([.ref (ad (3)), .int (iI (((tb : Nat) : Int))), .int (iI (((so : Nat) : Int))), .int (iI (((b : Nat) : Int)))])).length) Slot.unset).toArray = ls at hl ⊢
  have hl : lv_has ls 6 [(0, .ref (ad (3))), (1, .int (iI (((tb : Nat) : Int)))), (2, .int (iI (((so : Nat) : Int)))), (3, .int (iI (((b : Nat) : Int))))] := hl
  refine z_iconst hx hb (z := 0) d_LN_widthsBehindTab_0 ?_
  refine lv_istore (lv' := [(4, .int (iI (0))), (0, .ref (ad (3))), (1, .int (iI (((tb : Nat) : Int)))), (2, .int (iI (((so : Nat) : Int)))), (3, .int (iI (((b : Nat) : Int))))]) hx hb d_LN_widthsBehindTab_1 hl (by decide) rfl (fun ls hl => ?_)
  refine lv_iload_n hx hb d_LN_widthsBehindTab_3 rfl (lv_at hl 2 rfl) ?_
  refine z_iconst hx hb (z := 1) d_LN_widthsBehindTab_4 ?_
  refine z_iadd hx hb d_LN_widthsBehindTab_5 (v := ((tb + 1 : Nat) : Int)) (by omega) ?_
  refine lv_istore (lv' := [(5, .int (iI (((tb + 1 : Nat) : Int)))), (4, .int (iI (0))), (0, .ref (ad (3))), (1, .int (iI (((tb : Nat) : Int)))), (2, .int (iI (((so : Nat) : Int)))), (3, .int (iI (((b : Nat) : Int))))]) hx hb d_LN_widthsBehindTab_6 hl (by decide) rfl (fun ls hl => ?_)
  refine lp_widthsBehindTab hx hb hml hg hown hK hP tb so b _ hso hb6 ht (fun ls hl => ?_) (so - (tb + 1)) (tb + 1) 0 ls (by omega) (by omega) rfl hl
  refine lv_iload hx hb d_LN_widthsBehindTab_61 (lv_at hl 0 rfl) ?_
  exact W.iret (v := iI (p_wbt (M 7) (M 8) so b (so - (tb + 1)) (tb + 1) 0)) hx hb hr (fun t ht hW => ⟨_, rfl, rfl, ht⟩) (fun q h => by cases h) d_LN_widthsBehindTab_63
set_option maxHeartbeats 4000000 in
set_option maxRecDepth 100000 in
theorem lp_heightOf {p : Program} {l : Launch} {e : Env} {s : State} {m : MethodId} {args : Array Value} {below : List Frame} {meth : Method} {c : Code} {H : Heap} {locs : List Loc} {Q : State → Prop} {D : va_G} {ad : Nat → Nat} {cs : pg_C} {rp : Option Nat} {M : Nat → Nat → Int} (hx : p.tables.exec = Jvm.exec) (hb : c.code = b_LN_heightOf) (hml : c.maxLocals = 6) (hg : ∀ w ∈ gt, w.before args s = true) (hown : s.vm.findClass R_LN = some m.cls) (hK : va_K D vwCl (pg_tys cs) s) (hP : va_P D vwCl (pg_w ad cs rp M) H) (q a b : Nat) (t : Int) (hb6 : b ≤ 600) (ht : wfT M) (kk : ∀ ls : Array Slot, lv_has ls 6 [(4, .int (iI t))] → W p l e ({ frames := 1, cells := 0, slots := 0, locals := 24 } : Room) s m args below meth c H locs 0 0 Q (F0 m 41 ls [])) : ∀ (f i : Nat) (h : Int) (ls : Array Slot), b ≤ i + f → i ≤ 601 → 0 ≤ h ∧ h ≤ 2000 → p_hgt (M 9) b f i h = t → lv_has ls 6 [(5, .int (iI (((i : Nat) : Int)))), (4, .int (iI (h))), (0, .ref (ad (3))), (1, .ref (ad (29 + 4 * q))), (2, .int (iI (((a : Nat) : Int)))), (3, .int (iI (((b : Nat) : Int))))] → W p l e ({ frames := 1, cells := 0, slots := 0, locals := 24 } : Room) s m args below meth c H locs 0 0 Q (F0 m 12 ls []) := by
  intro f
  induction f with
  | zero =>
    intro i h ls hf hi6 hh he hl
    have h9 := ht.2.2.1 i
    refine lv_iload hx hb d_LN_heightOf_12 (lv_at hl 0 rfl) ?_
    refine lv_iload_n hx hb d_LN_heightOf_14 rfl (lv_at hl 5 rfl) ?_
    refine z_icmp_ge hx hb (tgt := 41) d_LN_heightOf_15 (by decide) ⟨by omega, by omega⟩ ⟨by omega, by omega⟩ (fun c_15 => ?_) (fun c_15 => ?_)
    · have he : h = t := he
      subst he
      exact kk ls (lv_sub hl [1] rfl)
    · exact absurd c_15 (by omega)
  | succ f ih =>
    intro i h ls hf hi6 hh he hl
    have h9 := ht.2.2.1 i
    refine lv_iload hx hb d_LN_heightOf_12 (lv_at hl 0 rfl) ?_
    refine lv_iload_n hx hb d_LN_heightOf_14 rfl (lv_at hl 5 rfl) ?_
    refine z_icmp_ge hx hb (tgt := 41) d_LN_heightOf_15 (by decide) ⟨by omega, by omega⟩ ⟨by omega, by omega⟩ (fun c_15 => ?_) (fun c_15 => ?_)
    · have he : h = t := by rw [← he]; unfold p_hgt; rw [if_neg (by omega)]
      subst he
      exact kk ls (lv_sub hl [1] rfl)
    · refine lv_iload hx hb d_LN_heightOf_18 (lv_at hl 1 rfl) ?_
      refine lv_aload_n hx hb d_LN_heightOf_20 rfl (lv_at hl 2 rfl) ?_
      refine z_get (ci := 3) (C := R_LN) (T := T_LN) (N := 6) (v := .ref (ad (1))) hx hb hg in_LN hown hK hP (3) (by decide) rfl rfl 3 (by decide) (hg _ (List.mem_append_right _ (List.mem_append_right _ (List.mem_append_right _ (List.mem_append_right _ (List.mem_append_left _ (List.mem_of_getElem? (i := 11) rfl))))))) (fun _ h9 => h9) rfl d_LN_heightOf_21 ?_
      refine z_get (ci := 1) (C := R_TX) (T := T_TX) (N := 6) (v := .ref (ad (9))) hx hb hg in_TX hown hK hP (1) (by decide) rfl rfl 3 (by decide) (hg _ (List.mem_append_right _ (List.mem_append_right _ (List.mem_append_left _ (List.mem_of_getElem? (i := 26) rfl))))) (fun _ h9 => h9) rfl d_LN_heightOf_24 ?_
      refine lv_iload hx hb d_LN_heightOf_27 (lv_at hl 0 rfl) ?_
      refine z_iald hx hb hK hP (9) 0 (by decide) (fun _ => rfl) rfl (i) rfl (by omega) (by decide) d_LN_heightOf_29 ?_
      refine z_mmax hx hb (hml.trans hl.1.symm) hown (hg _ (List.mem_append_right _ (List.mem_append_right _ (List.mem_append_right _ (List.mem_append_right _ (List.mem_append_right _ (List.mem_append_left _ (List.mem_of_getElem? (i := 27) rfl)))))))) (hg _ (List.mem_append_right _ (List.mem_append_right _ (List.mem_append_right _ (List.mem_append_right _ (List.mem_append_right _ (List.mem_append_left _ (List.mem_of_getElem? (i := 28) rfl)))))))) (hg _ (List.mem_append_right _ (List.mem_append_left _ (List.mem_of_getElem? (i := 17) rfl)))) (hg _ (List.mem_append_right _ (List.mem_append_right _ (List.mem_append_right _ (List.mem_append_right _ (List.mem_append_right _ (List.mem_append_left _ (List.mem_of_getElem? (i := 29) rfl)))))))) (Nat.le_of_ble_eq_true rfl) (Nat.le_of_ble_eq_true rfl) (Nat.zero_le _) (Nat.zero_le _) ⟨by omega, by omega⟩ ⟨by omega, by omega⟩ d_LN_heightOf_30 (v := max (h) (M (9) (i))) rfl ?_
      refine lv_istore (lv' := [(4, .int (iI (max (h) (M (9) (i))))), (5, .int (iI (((i : Nat) : Int)))), (0, .ref (ad (3))), (1, .ref (ad (29 + 4 * q))), (2, .int (iI (((a : Nat) : Int)))), (3, .int (iI (((b : Nat) : Int))))]) hx hb d_LN_heightOf_33 hl (by decide) rfl (fun ls hl => ?_)
      refine z_iinc (v := ((i + 1 : Nat) : Int)) (lv' := [(5, .int (iI (((i + 1 : Nat) : Int)))), (4, .int (iI (max (h) (M (9) (i))))), (0, .ref (ad (3))), (1, .ref (ad (29 + 4 * q))), (2, .int (iI (((a : Nat) : Int)))), (3, .int (iI (((b : Nat) : Int))))]) hx hb d_LN_heightOf_35 hl (k := 1) rfl (by omega) (by decide) rfl (fun ls hl => ?_)
      refine lv_goto (tgt := 12) hx hb d_LN_heightOf_38 (by decide) ?_
      exact ih (i + 1) (max (h) (M (9) (i))) ls (by omega) (by omega) (by omega) (by rw [← he]; conv => rhs; unfold p_hgt; rw [if_pos (by omega)]) hl
set_option maxHeartbeats 4000000 in
set_option maxRecDepth 100000 in
/-- Lines.heightOf -/
theorem c_heightOf (l : Launch) {D : va_G} {ad : Nat → Nat} {cs : pg_C} {rp : Option Nat} {M : Nat → Nat → Int} (q a b : Nat) (ha6 : a ≤ 600) (hq : q < 30) (hb6 : b ≤ 600) (ht : wfT M) (hh : 0 ≤ M (30 + 4 * q) 10 ∧ M (30 + 4 * q) 10 ≤ 2000) : Met l y_LN_heightOf ws_LN_heightOf ({ frames := 1, cells := 0, slots := 0, locals := 24 } : Room) (va_Pc [.ref (ad (3)), .ref (ad (29 + 4 * q)), .int (iI (((a : Nat) : Int))), .int (iI (((b : Nat) : Int)))] (ro_B D vwCl (pg_tys cs) (pg_w ad cs rp M))) (vp_Si (fun r => r = iI (p_hgt (M 9) b (b - a) a (M (30 + 4 * q) 10)))) 0 0 (fun _ => False) := by
  refine Met.ofW (cc := b_LN_heightOf) (maxL := 6) (ret := (some .int)) (by decide) rfl ?_
  intro p e s m args below meth c s₁ B hml hv
  obtain ⟨rfl, hP, hK⟩ := hv
  have hx := B.exec
  have hb := B.bytes
  have hr := B.returns
  have hts := atoms_spec (ws := ws_LN_heightOf) B.pre
  have hg : ∀ w ∈ gt, w.before _ s = true := fun w h => hts w (List.mem_cons_of_mem _ h)
  have hown : s.vm.findClass R_LN = some m.cls := findClass_of_methodNamed B.named
  have hlocks := B.notSynchronized
  have hl := lv_entry ([.ref (ad (3)), .ref (ad (29 + 4 * q)), .int (iI (((a : Nat) : Int))), .int (iI (((b : Nat) : Int)))]) (n := 6) (Nat.le_of_ble_eq_true rfl)
  rw [lg_entry_eq]
  generalize (lg_sl ([.ref (ad (3)), .ref (ad (29 + 4 * q)), .int (iI (((a : Nat) : Int))), .int (iI (((b : Nat) : Int)))]) ++ List.replicate (6 - (lg_sl ([.ref (ad (3)), .ref (ad (29 + 4 * q)), .int (iI (((a : Nat) : Int))), .int (iI (((b : Nat) : Int)))])).length) Slot.unset).toArray = ls at hl ⊢
  have hl : lv_has ls 6 [(0, .ref (ad (3))), (1, .ref (ad (29 + 4 * q))), (2, .int (iI (((a : Nat) : Int)))), (3, .int (iI (((b : Nat) : Int))))] := hl
  refine lv_aload_n hx hb d_LN_heightOf_0 rfl (lv_at hl 1 rfl) ?_
  refine z_get (ci := 6) (C := R_PA) (T := T_PA) (N := 6) (v := .ref (ad (30 + 4 * q))) hx hb hg in_PA hown hK hP (29 + 4 * q) (by omega) (pg_par _ _ _ _ _) rfl 0 (by decide) (hg _ (List.mem_append_right _ (List.mem_append_left _ (List.mem_of_getElem? (i := 38) rfl)))) (fun _ h9 => h9) rfl d_LN_heightOf_1 ?_
  refine z_bipush hx hb (z := 10) d_LN_heightOf_4 (by decide) ?_
  refine z_iald hx hb hK hP (30 + 4 * q) 0 (by omega) (fun r => pg_shp _ _ _ _ r) rfl (10) rfl (by decide) (by decide) d_LN_heightOf_6 ?_
  refine lv_istore (lv' := [(4, .int (iI (M (30 + 4 * q) (10)))), (0, .ref (ad (3))), (1, .ref (ad (29 + 4 * q))), (2, .int (iI (((a : Nat) : Int)))), (3, .int (iI (((b : Nat) : Int))))]) hx hb d_LN_heightOf_7 hl (by decide) rfl (fun ls hl => ?_)
  refine lv_iload_n hx hb d_LN_heightOf_9 rfl (lv_at hl 3 rfl) ?_
  refine lv_istore (lv' := [(5, .int (iI (((a : Nat) : Int)))), (4, .int (iI (M (30 + 4 * q) (10)))), (0, .ref (ad (3))), (1, .ref (ad (29 + 4 * q))), (2, .int (iI (((a : Nat) : Int)))), (3, .int (iI (((b : Nat) : Int))))]) hx hb d_LN_heightOf_10 hl (by decide) rfl (fun ls hl => ?_)
  refine lp_heightOf hx hb hml hg hown hK hP q a b _ hb6 ht (fun ls hl => ?_) (b - a) a (M (30 + 4 * q) 10) ls (by omega) (by omega) hh rfl hl
  refine lv_iload hx hb d_LN_heightOf_41 (lv_at hl 0 rfl) ?_
  exact W.iret (v := iI (p_hgt (M 9) b (b - a) a (M (30 + 4 * q) 10))) hx hb hr (fun t ht hW => ⟨_, rfl, rfl, ht⟩) (fun q h => by cases h) d_LN_heightOf_43
set_option maxHeartbeats 4000000 in
set_option maxRecDepth 100000 in
theorem lp_signBehindLastTab {p : Program} {l : Launch} {e : Env} {s : State} {m : MethodId} {args : Array Value} {below : List Frame} {meth : Method} {c : Code} {H : Heap} {locs : List Loc} {Q : State → Prop} {D : va_G} {ad : Nat → Nat} {cs : pg_C} {rp : Option Nat} {M : Nat → Nat → Int} (hx : p.tables.exec = Jvm.exec) (hb : c.code = b_LN_signBehindLastTab) (hml : c.maxLocals = 4) (hg : ∀ w ∈ gt, w.before args s = true) (hown : s.vm.findClass R_LN = some m.cls) (hK : va_K D vwCl (pg_tys cs) s) (hP : va_P D vwCl (pg_w ad cs rp M) H) (a b t : Nat) (ha : a ≤ 600) (ht : wfT M) (kk : ∀ ls : Array Slot, lv_has ls 4 [(3, .int (iI ((t : Nat) : Int)))] → W p l e ({ frames := 0, cells := 0, slots := 0, locals := 0 } : Room) s m args below meth c H locs 0 0 Q (F0 m 28 ls [])) : ∀ (f : Nat) (ls : Array Slot), f ≤ 600 → p_blt (M 7) a f = t → lv_has ls 4 [(3, .int (iI (((f : Nat) : Int)))), (0, .ref (ad (3))), (1, .int (iI (((a : Nat) : Int)))), (2, .int (iI (((b : Nat) : Int))))] → W p l e ({ frames := 0, cells := 0, slots := 0, locals := 0 } : Room) s m args below meth c H locs 0 0 Q (F0 m 2 ls []) := by
  intro f
  induction f with
  | zero =>
    intro ls hf he hl
    refine lv_iload_n hx hb d_LN_signBehindLastTab_2 rfl (lv_at hl 0 rfl) ?_
    refine lv_iload_n hx hb d_LN_signBehindLastTab_3 rfl (lv_at hl 2 rfl) ?_
    refine z_icmp_le hx hb (tgt := 28) d_LN_signBehindLastTab_4 (by decide) ⟨by omega, by omega⟩ ⟨by omega, by omega⟩ (fun c_4 => ?_) (fun c_4 => ?_)
    · have he : 0 = t := he
      subst he
      exact kk ls (lv_sub hl [0] rfl)
    · exact absurd c_4 (by omega)
  | succ f ih =>
    intro ls hf he hl
    refine lv_iload_n hx hb d_LN_signBehindLastTab_2 rfl (lv_at hl 0 rfl) ?_
    refine lv_iload_n hx hb d_LN_signBehindLastTab_3 rfl (lv_at hl 2 rfl) ?_
    refine z_icmp_le hx hb (tgt := 28) d_LN_signBehindLastTab_4 (by decide) ⟨by omega, by omega⟩ ⟨by omega, by omega⟩ (fun c_4 => ?_) (fun c_4 => ?_)
    · have he : f + 1 = t := by rw [← he]; unfold p_blt; rw [if_neg (by omega)]
      subst he
      exact kk ls (lv_sub hl [0] rfl)
    · refine lv_aload_n hx hb d_LN_signBehindLastTab_7 rfl (lv_at hl 1 rfl) ?_
      refine z_get (ci := 3) (C := R_LN) (T := T_LN) (N := 6) (v := .ref (ad (1))) hx hb hg in_LN hown hK hP (3) (by decide) rfl rfl 3 (by decide) (hg _ (List.mem_append_right _ (List.mem_append_right _ (List.mem_append_right _ (List.mem_append_right _ (List.mem_append_left _ (List.mem_of_getElem? (i := 11) rfl))))))) (fun _ h9 => h9) rfl d_LN_signBehindLastTab_8 ?_
      refine z_get (ci := 1) (C := R_TX) (T := T_TX) (N := 6) (v := .ref (ad (7))) hx hb hg in_TX hown hK hP (1) (by decide) rfl rfl 1 (by decide) (hg _ (List.mem_append_right _ (List.mem_append_right _ (List.mem_append_left _ (List.mem_of_getElem? (i := 22) rfl))))) (fun _ h9 => h9) rfl d_LN_signBehindLastTab_11 ?_
      refine lv_iload_n hx hb d_LN_signBehindLastTab_14 rfl (lv_at hl 0 rfl) ?_
      refine z_iconst hx hb (z := 1) d_LN_signBehindLastTab_15 ?_
      refine z_isub hx hb d_LN_signBehindLastTab_16 (v := ((f : Nat) : Int)) (by omega) ?_
      refine z_iald hx hb hK hP (7) 0 (by decide) (fun _ => rfl) rfl (f) rfl (by omega) (by decide) d_LN_signBehindLastTab_17 ?_
      refine z_iconst hx hb (z := 2) d_LN_signBehindLastTab_18 ?_
      refine z_icmp_eq hx hb (tgt := 28) d_LN_signBehindLastTab_19 (by decide) (zb_7 ht _) ⟨by decide, by decide⟩ (fun c_19 => ?_) (fun c_19 => ?_)
      · have he : f + 1 = t := by rw [← he]; unfold p_blt; rw [if_neg (by omega)]
        subst he
        exact kk ls (lv_sub hl [0] rfl)
      · refine z_iinc (v := ((f : Nat) : Int)) (lv' := [(3, .int (iI (((f : Nat) : Int)))), (0, .ref (ad (3))), (1, .int (iI (((a : Nat) : Int)))), (2, .int (iI (((b : Nat) : Int))))]) hx hb d_LN_signBehindLastTab_22 hl (k := 0) rfl (by omega) (by decide) rfl (fun ls hl => ?_)
        refine lv_goto (tgt := 2) hx hb d_LN_signBehindLastTab_25 (by decide) ?_
        exact ih ls (by omega) (by rw [← he]; conv => rhs; unfold p_blt; rw [if_pos ⟨by omega, by omega⟩]) hl
set_option maxHeartbeats 4000000 in
set_option maxRecDepth 100000 in
/-- Lines.signBehindLastTab -/
theorem c_signBehindLastTab (l : Launch) {D : va_G} {ad : Nat → Nat} {cs : pg_C} {rp : Option Nat} {M : Nat → Nat → Int} (a b : Nat) (ha : a ≤ 600) (hb6 : b ≤ 600) (ht : wfT M) : Met l y_LN_signBehindLastTab ws_LN_signBehindLastTab ({ frames := 0, cells := 0, slots := 0, locals := 0 } : Room) (va_Pc [.ref (ad (3)), .int (iI (((a : Nat) : Int))), .int (iI (((b : Nat) : Int)))] (ro_B D vwCl (pg_tys cs) (pg_w ad cs rp M))) (vp_Si (fun r => r = iI (((p_blt (M 7) a b : Nat) : Int)))) 0 0 (fun _ => False) := by
  refine Met.ofW (cc := b_LN_signBehindLastTab) (maxL := 4) (ret := (some .int)) (by decide) rfl ?_
  intro p e s m args below meth c s₁ B hml hv
  obtain ⟨rfl, hP, hK⟩ := hv
  have hx := B.exec
  have hb := B.bytes
  have hr := B.returns
  have hts := atoms_spec (ws := ws_LN_signBehindLastTab) B.pre
  have hg : ∀ w ∈ gt, w.before _ s = true := fun w h => hts w (List.mem_cons_of_mem _ h)
  have hown : s.vm.findClass R_LN = some m.cls := findClass_of_methodNamed B.named
  have hlocks := B.notSynchronized
  have hl := lv_entry ([.ref (ad (3)), .int (iI (((a : Nat) : Int))), .int (iI (((b : Nat) : Int)))]) (n := 4) (Nat.le_of_ble_eq_true rfl)
  rw [lg_entry_eq]
  generalize (lg_sl ([.ref (ad (3)), .int (iI (((a : Nat) : Int))), .int (iI (((b : Nat) : Int)))]) ++ List.replicate (4 - (lg_sl ([.ref (ad (3)), .int (iI (((a : Nat) : Int))), .int (iI (((b : Nat) : Int)))])).length) Slot.unset).toArray = ls at hl ⊢
  have hl : lv_has ls 4 [(0, .ref (ad (3))), (1, .int (iI (((a : Nat) : Int)))), (2, .int (iI (((b : Nat) : Int))))] := hl
  refine lv_iload_n hx hb d_LN_signBehindLastTab_0 rfl (lv_at hl 2 rfl) ?_
  refine lv_istore_n (lv' := [(3, .int (iI (((b : Nat) : Int)))), (0, .ref (ad (3))), (1, .int (iI (((a : Nat) : Int)))), (2, .int (iI (((b : Nat) : Int))))]) hx hb d_LN_signBehindLastTab_1 rfl hl (by decide) rfl (fun ls hl => ?_)
  refine lp_signBehindLastTab hx hb hml hg hown hK hP a b _ ha ht (fun ls hl => ?_) b ls hb6 rfl hl
  refine lv_iload_n hx hb d_LN_signBehindLastTab_28 rfl (lv_at hl 0 rfl) ?_
  exact W.iret (v := iI (((p_blt (M 7) a b : Nat) : Int))) hx hb hr (fun t ht hW => ⟨_, rfl, rfl, ht⟩) (fun q h => by cases h) d_LN_signBehindLastTab_29
set_option maxHeartbeats 4000000 in
set_option maxRecDepth 100000 in
/-- Lines.isFirstOfParagraph -/
theorem c_isFirst (l : Launch) {D : va_G} {ad : Nat → Nat} {cs : pg_C} {rp : Option Nat} {M : Nat → Nat → Int} (w : Nat) (hw : w < 630) (hz : ∀ j, zb (M 13 j)) : Met l y_LN_isFirstOfParagraph ws_LN_isFirstOfParagraph ({ frames := 0, cells := 0, slots := 0, locals := 0 } : Room) (va_Pc [.ref (ad (3)), .int (iI (((w : Nat) : Int)))] (ro_B D vwCl (pg_tys cs) (pg_w ad cs rp M))) (vp_Si (fun r => r = iI (bz (p_first (M 13) w) inferInstance))) 0 0 (fun _ => False) := by
  refine Met.ofW (cc := b_LN_isFirstOfParagraph) (maxL := 2) (ret := (some .boolean)) (by decide) rfl ?_
  intro p e s m args below meth c s₁ B hml hv
  obtain ⟨rfl, hP, hK⟩ := hv
  have hx := B.exec
  have hb := B.bytes
  have hr := B.returns
  have hts := atoms_spec (ws := ws_LN_isFirstOfParagraph) B.pre
  have hg : ∀ w ∈ gt, w.before _ s = true := fun w h => hts w (List.mem_cons_of_mem _ h)
  have hown : s.vm.findClass R_LN = some m.cls := findClass_of_methodNamed B.named
  have hlocks := B.notSynchronized
  have hl := lv_entry ([.ref (ad (3)), .int (iI (((w : Nat) : Int)))]) (n := 2) (Nat.le_of_ble_eq_true rfl)
  rw [lg_entry_eq]
  generalize (lg_sl ([.ref (ad (3)), .int (iI (((w : Nat) : Int)))]) ++ List.replicate (2 - (lg_sl ([.ref (ad (3)), .int (iI (((w : Nat) : Int)))])).length) Slot.unset).toArray = ls at hl ⊢
  have hl : lv_has ls 2 [(0, .ref (ad (3))), (1, .int (iI (((w : Nat) : Int))))] := hl
  refine lv_iload_n hx hb d_LN_isFirstOfParagraph_0 rfl (lv_at hl 1 rfl) ?_
  refine z_iconst hx hb (z := 1) d_LN_isFirstOfParagraph_1 ?_
  refine z_icmp_lt hx hb (tgt := 26) d_LN_isFirstOfParagraph_2 (by decide) ⟨by omega, by omega⟩ ⟨by decide, by decide⟩ (fun c_2 => ?_) (fun c_2 => ?_)
  · refine z_iconst hx hb (z := 1) d_LN_isFirstOfParagraph_26 ?_
    refine lv_goto (tgt := 31) hx hb d_LN_isFirstOfParagraph_27 (by decide) ?_
    exact W.zret (v := iI (1)) hx hb hr (by first | rfl | decide) (fun t ht hW => ⟨_, rfl, by first | (rw [bz_t (by omega)]; done) | (rw [bz_f (by omega)]; done), ht⟩) (fun q h => by cases h) d_LN_isFirstOfParagraph_31
  · refine lv_aload_n hx hb d_LN_isFirstOfParagraph_5 rfl (lv_at hl 0 rfl) ?_
    refine z_get (ci := 3) (C := R_LN) (T := T_LN) (N := 6) (v := .ref (ad (10))) hx hb hg in_LN hown hK hP (3) (by decide) rfl rfl 0 (by decide) (hg _ (List.mem_append_right _ (List.mem_append_right _ (List.mem_append_right _ (List.mem_append_right _ (List.mem_append_left _ (List.mem_of_getElem? (i := 3) rfl))))))) (fun _ h9 => h9) rfl d_LN_isFirstOfParagraph_6 ?_
    refine z_iconst hx hb (z := 0) d_LN_isFirstOfParagraph_9 ?_
    refine z_aald hx hb hK hP (10) 1 (by decide) (fun _ => rfl) rfl rfl (0) rfl (by decide) (by decide) d_LN_isFirstOfParagraph_10 ?_
    refine lv_iload_n hx hb d_LN_isFirstOfParagraph_11 rfl (lv_at hl 1 rfl) ?_
    refine z_iconst hx hb (z := 1) d_LN_isFirstOfParagraph_12 ?_
    refine z_isub hx hb d_LN_isFirstOfParagraph_13 (v := (((w : Nat) : Int) - 1)) rfl ?_
    refine z_iald hx hb hK hP (13) 0 (by decide) (fun _ => rfl) rfl (w - 1) (by omega) (by omega) (by decide) d_LN_isFirstOfParagraph_14 ?_
    refine lv_aload_n hx hb d_LN_isFirstOfParagraph_15 rfl (lv_at hl 0 rfl) ?_
    refine z_get (ci := 3) (C := R_LN) (T := T_LN) (N := 6) (v := .ref (ad (10))) hx hb hg in_LN hown hK hP (3) (by decide) rfl rfl 0 (by decide) (hg _ (List.mem_append_right _ (List.mem_append_right _ (List.mem_append_right _ (List.mem_append_right _ (List.mem_append_left _ (List.mem_of_getElem? (i := 3) rfl))))))) (fun _ h9 => h9) rfl d_LN_isFirstOfParagraph_16 ?_
    refine z_iconst hx hb (z := 0) d_LN_isFirstOfParagraph_19 ?_
    refine z_aald hx hb hK hP (10) 1 (by decide) (fun _ => rfl) rfl rfl (0) rfl (by decide) (by decide) d_LN_isFirstOfParagraph_20 ?_
    refine lv_iload_n hx hb d_LN_isFirstOfParagraph_21 rfl (lv_at hl 1 rfl) ?_
    refine z_iald hx hb hK hP (13) 0 (by decide) (fun _ => rfl) rfl (w) rfl (by omega) (by decide) d_LN_isFirstOfParagraph_22 ?_
    refine z_icmp_eq hx hb (tgt := 30) d_LN_isFirstOfParagraph_23 (by decide) (hz _) (hz _) (fun c_23 => ?_) (fun c_23 => ?_)
    · refine z_iconst hx hb (z := 0) d_LN_isFirstOfParagraph_30 ?_
      exact W.zret (v := iI (0)) hx hb hr (by first | rfl | decide) (fun t ht hW => ⟨_, rfl, by first | (rw [bz_t (by omega)]; done) | (rw [bz_f (by omega)]; done), ht⟩) (fun q h => by cases h) d_LN_isFirstOfParagraph_31
    · refine z_iconst hx hb (z := 1) d_LN_isFirstOfParagraph_26 ?_
      refine lv_goto (tgt := 31) hx hb d_LN_isFirstOfParagraph_27 (by decide) ?_
      exact W.zret (v := iI (1)) hx hb hr (by first | rfl | decide) (fun t ht hW => ⟨_, rfl, by first | (rw [bz_t (by omega)]; done) | (rw [bz_f (by omega)]; done), ht⟩) (fun q h => by cases h) d_LN_isFirstOfParagraph_31
set_option maxHeartbeats 4000000 in
set_option maxRecDepth 100000 in
/-- Lines.isLastOfParagraph -/
theorem c_isLast (l : Launch) {D : va_G} {ad : Nat → Nat} {cs : pg_C} {rp : Option Nat} {M : Nat → Nat → Int} (w nl : Nat) (hw : w < 630) (hl6 : nl ≤ 630) (hn : M 3 2 = ((nl : Nat) : Int)) (hz : ∀ j, zb (M 13 j)) : Met l y_LN_isLastOfParagraph ws_LN_isLastOfParagraph ({ frames := 0, cells := 0, slots := 0, locals := 0 } : Room) (va_Pc [.ref (ad (3)), .int (iI (((w : Nat) : Int)))] (ro_B D vwCl (pg_tys cs) (pg_w ad cs rp M))) (vp_Si (fun r => r = iI (bz (p_lastl (M 13) nl w) inferInstance))) 0 0 (fun _ => False) := by
  refine Met.ofW (cc := b_LN_isLastOfParagraph) (maxL := 2) (ret := (some .boolean)) (by decide) rfl ?_
  intro p e s m args below meth c s₁ B hml hv
  obtain ⟨rfl, hP, hK⟩ := hv
  have hx := B.exec
  have hb := B.bytes
  have hr := B.returns
  have hts := atoms_spec (ws := ws_LN_isLastOfParagraph) B.pre
  have hg : ∀ w ∈ gt, w.before _ s = true := fun w h => hts w (List.mem_cons_of_mem _ h)
  have hown : s.vm.findClass R_LN = some m.cls := findClass_of_methodNamed B.named
  have hlocks := B.notSynchronized
  have hl := lv_entry ([.ref (ad (3)), .int (iI (((w : Nat) : Int)))]) (n := 2) (Nat.le_of_ble_eq_true rfl)
  rw [lg_entry_eq]
  generalize (lg_sl ([.ref (ad (3)), .int (iI (((w : Nat) : Int)))]) ++ List.replicate (2 - (lg_sl ([.ref (ad (3)), .int (iI (((w : Nat) : Int)))])).length) Slot.unset).toArray = ls at hl ⊢
  have hl : lv_has ls 2 [(0, .ref (ad (3))), (1, .int (iI (((w : Nat) : Int))))] := hl
  refine lv_iload_n hx hb d_LN_isLastOfParagraph_0 rfl (lv_at hl 1 rfl) ?_
  refine lv_aload_n hx hb d_LN_isLastOfParagraph_1 rfl (lv_at hl 0 rfl) ?_
  refine z_get (ci := 3) (C := R_LN) (T := T_LN) (N := 6) (v := .int (iI (M (3) 2))) hx hb hg in_LN hown hK hP (3) (by decide) rfl rfl 2 (by decide) (hg _ (List.mem_append_right _ (List.mem_append_right _ (List.mem_append_right _ (List.mem_append_right _ (List.mem_append_left _ (List.mem_of_getElem? (i := 8) rfl))))))) (fun _ h9 => h9) rfl d_LN_isLastOfParagraph_2 ?_
  refine z_iconst hx hb (z := 1) d_LN_isLastOfParagraph_5 ?_
  refine z_isub hx hb d_LN_isLastOfParagraph_6 (v := (M (3) 2 - 1)) rfl ?_
  refine z_icmp_ge hx hb (tgt := 31) d_LN_isLastOfParagraph_7 (by decide) ⟨by omega, by omega⟩ ⟨by omega, by omega⟩ (fun c_7 => ?_) (fun c_7 => ?_)
  · refine z_iconst hx hb (z := 1) d_LN_isLastOfParagraph_31 ?_
    refine lv_goto (tgt := 36) hx hb d_LN_isLastOfParagraph_32 (by decide) ?_
    exact W.zret (v := iI (1)) hx hb hr (by first | rfl | decide) (fun t ht hW => ⟨_, rfl, by first | (rw [bz_t (by omega)]; done) | (rw [bz_f (by omega)]; done), ht⟩) (fun q h => by cases h) d_LN_isLastOfParagraph_36
  · refine lv_aload_n hx hb d_LN_isLastOfParagraph_10 rfl (lv_at hl 0 rfl) ?_
    refine z_get (ci := 3) (C := R_LN) (T := T_LN) (N := 6) (v := .ref (ad (10))) hx hb hg in_LN hown hK hP (3) (by decide) rfl rfl 0 (by decide) (hg _ (List.mem_append_right _ (List.mem_append_right _ (List.mem_append_right _ (List.mem_append_right _ (List.mem_append_left _ (List.mem_of_getElem? (i := 3) rfl))))))) (fun _ h9 => h9) rfl d_LN_isLastOfParagraph_11 ?_
    refine z_iconst hx hb (z := 0) d_LN_isLastOfParagraph_14 ?_
    refine z_aald hx hb hK hP (10) 1 (by decide) (fun _ => rfl) rfl rfl (0) rfl (by decide) (by decide) d_LN_isLastOfParagraph_15 ?_
    refine lv_iload_n hx hb d_LN_isLastOfParagraph_16 rfl (lv_at hl 1 rfl) ?_
    refine z_iconst hx hb (z := 1) d_LN_isLastOfParagraph_17 ?_
    refine z_iadd hx hb d_LN_isLastOfParagraph_18 (v := ((w + 1 : Nat) : Int)) (by omega) ?_
    refine z_iald hx hb hK hP (13) 0 (by decide) (fun _ => rfl) rfl (w + 1) rfl (by omega) (by decide) d_LN_isLastOfParagraph_19 ?_
    refine lv_aload_n hx hb d_LN_isLastOfParagraph_20 rfl (lv_at hl 0 rfl) ?_
    refine z_get (ci := 3) (C := R_LN) (T := T_LN) (N := 6) (v := .ref (ad (10))) hx hb hg in_LN hown hK hP (3) (by decide) rfl rfl 0 (by decide) (hg _ (List.mem_append_right _ (List.mem_append_right _ (List.mem_append_right _ (List.mem_append_right _ (List.mem_append_left _ (List.mem_of_getElem? (i := 3) rfl))))))) (fun _ h9 => h9) rfl d_LN_isLastOfParagraph_21 ?_
    refine z_iconst hx hb (z := 0) d_LN_isLastOfParagraph_24 ?_
    refine z_aald hx hb hK hP (10) 1 (by decide) (fun _ => rfl) rfl rfl (0) rfl (by decide) (by decide) d_LN_isLastOfParagraph_25 ?_
    refine lv_iload_n hx hb d_LN_isLastOfParagraph_26 rfl (lv_at hl 1 rfl) ?_
    refine z_iald hx hb hK hP (13) 0 (by decide) (fun _ => rfl) rfl (w) rfl (by omega) (by decide) d_LN_isLastOfParagraph_27 ?_
    refine z_icmp_eq hx hb (tgt := 35) d_LN_isLastOfParagraph_28 (by decide) (hz _) (hz _) (fun c_28 => ?_) (fun c_28 => ?_)
    · refine z_iconst hx hb (z := 0) d_LN_isLastOfParagraph_35 ?_
      exact W.zret (v := iI (0)) hx hb hr (by first | rfl | decide) (fun t ht hW => ⟨_, rfl, by first | (rw [bz_t (by omega)]; done) | (rw [bz_f (by omega)]; done), ht⟩) (fun q h => by cases h) d_LN_isLastOfParagraph_36
    · refine z_iconst hx hb (z := 1) d_LN_isLastOfParagraph_31 ?_
      refine lv_goto (tgt := 36) hx hb d_LN_isLastOfParagraph_32 (by decide) ?_
      exact W.zret (v := iI (1)) hx hb hr (by first | rfl | decide) (fun t ht hW => ⟨_, rfl, by first | (rw [bz_t (by omega)]; done) | (rw [bz_f (by omega)]; done), ht⟩) (fun q h => by cases h) d_LN_isLastOfParagraph_36
set_option maxHeartbeats 4000000 in
set_option maxRecDepth 100000 in
/-- Lines.endsPage -/
theorem c_endsPage (l : Launch) {D : va_G} {ad : Nat → Nat} {cs : pg_C} {rp : Option Nat} {M : Nat → Nat → Int} (w f k : Nat) (hw : w < 630) (hf : M 14 w = ((f : Nat) : Int)) (hk : M 15 w = ((k : Nat) : Int)) (hfk : f + k ≤ 600) (hz : ∀ j, zb (M 7 j)) : Met l y_LN_endsPage ws_LN_endsPage ({ frames := 0, cells := 0, slots := 0, locals := 0 } : Room) (va_Pc [.ref (ad (3)), .int (iI (((w : Nat) : Int)))] (ro_B D vwCl (pg_tys cs) (pg_w ad cs rp M))) (vp_Si (fun r => r = iI (bz (p_endp (M 7) f k) inferInstance))) 0 0 (fun _ => False) := by
  refine Met.ofW (cc := b_LN_endsPage) (maxL := 3) (ret := (some .boolean)) (by decide) rfl ?_
  intro p e s m args below meth c s₁ B hml hv
  obtain ⟨rfl, hP, hK⟩ := hv
  have hx := B.exec
  have hb := B.bytes
  have hr := B.returns
  have hts := atoms_spec (ws := ws_LN_endsPage) B.pre
  have hg : ∀ w ∈ gt, w.before _ s = true := fun w h => hts w (List.mem_cons_of_mem _ h)
  have hown : s.vm.findClass R_LN = some m.cls := findClass_of_methodNamed B.named
  have hlocks := B.notSynchronized
  have hl := lv_entry ([.ref (ad (3)), .int (iI (((w : Nat) : Int)))]) (n := 3) (Nat.le_of_ble_eq_true rfl)
  rw [lg_entry_eq]
  generalize (lg_sl ([.ref (ad (3)), .int (iI (((w : Nat) : Int)))]) ++ List.replicate (3 - (lg_sl ([.ref (ad (3)), .int (iI (((w : Nat) : Int)))])).length) Slot.unset).toArray = ls at hl ⊢
  have hl : lv_has ls 3 [(0, .ref (ad (3))), (1, .int (iI (((w : Nat) : Int))))] := hl
  refine lv_aload_n hx hb d_LN_endsPage_0 rfl (lv_at hl 0 rfl) ?_
  refine z_get (ci := 3) (C := R_LN) (T := T_LN) (N := 6) (v := .ref (ad (10))) hx hb hg in_LN hown hK hP (3) (by decide) rfl rfl 0 (by decide) (hg _ (List.mem_append_right _ (List.mem_append_right _ (List.mem_append_right _ (List.mem_append_right _ (List.mem_append_left _ (List.mem_of_getElem? (i := 3) rfl))))))) (fun _ h9 => h9) rfl d_LN_endsPage_1 ?_
  refine z_iconst hx hb (z := 2) d_LN_endsPage_4 ?_
  refine z_aald hx hb hK hP (10) 1 (by decide) (fun _ => rfl) rfl rfl (2) rfl (by decide) (by decide) d_LN_endsPage_5 ?_
  refine lv_iload_n hx hb d_LN_endsPage_6 rfl (lv_at hl 1 rfl) ?_
  refine z_iald hx hb hK hP (15) 0 (by decide) (fun _ => rfl) rfl (w) rfl (by omega) (by decide) d_LN_endsPage_7 ?_
  refine lv_istore_n (lv' := [(2, .int (iI (M (15) (w)))), (0, .ref (ad (3))), (1, .int (iI (((w : Nat) : Int))))]) hx hb d_LN_endsPage_8 rfl hl (by decide) rfl (fun ls hl => ?_)
  refine lv_iload_n hx hb d_LN_endsPage_9 rfl (lv_at hl 0 rfl) ?_
  refine z_if_le hx hb (tgt := 42) d_LN_endsPage_10 (by decide) ⟨by omega, by omega⟩ (fun c_10 => ?_) (fun c_10 => ?_)
  · refine z_iconst hx hb (z := 0) d_LN_endsPage_42 ?_
    exact W.zret (v := iI (0)) hx hb hr (by first | rfl | decide) (fun t ht hW => ⟨_, rfl, by first | (rw [bz_t (by omega)]; done) | (rw [bz_f (by omega)]; done), ht⟩) (fun q h => by cases h) d_LN_endsPage_43
  · refine lv_aload_n hx hb d_LN_endsPage_13 rfl (lv_at hl 1 rfl) ?_
    refine z_get (ci := 3) (C := R_LN) (T := T_LN) (N := 6) (v := .ref (ad (1))) hx hb hg in_LN hown hK hP (3) (by decide) rfl rfl 3 (by decide) (hg _ (List.mem_append_right _ (List.mem_append_right _ (List.mem_append_right _ (List.mem_append_right _ (List.mem_append_left _ (List.mem_of_getElem? (i := 11) rfl))))))) (fun _ h9 => h9) rfl d_LN_endsPage_14 ?_
    refine z_get (ci := 1) (C := R_TX) (T := T_TX) (N := 6) (v := .ref (ad (7))) hx hb hg in_TX hown hK hP (1) (by decide) rfl rfl 1 (by decide) (hg _ (List.mem_append_right _ (List.mem_append_right _ (List.mem_append_left _ (List.mem_of_getElem? (i := 22) rfl))))) (fun _ h9 => h9) rfl d_LN_endsPage_17 ?_
    refine lv_aload_n hx hb d_LN_endsPage_20 rfl (lv_at hl 1 rfl) ?_
    refine z_get (ci := 3) (C := R_LN) (T := T_LN) (N := 6) (v := .ref (ad (10))) hx hb hg in_LN hown hK hP (3) (by decide) rfl rfl 0 (by decide) (hg _ (List.mem_append_right _ (List.mem_append_right _ (List.mem_append_right _ (List.mem_append_right _ (List.mem_append_left _ (List.mem_of_getElem? (i := 3) rfl))))))) (fun _ h9 => h9) rfl d_LN_endsPage_21 ?_
    refine z_iconst hx hb (z := 1) d_LN_endsPage_24 ?_
    refine z_aald hx hb hK hP (10) 1 (by decide) (fun _ => rfl) rfl rfl (1) rfl (by decide) (by decide) d_LN_endsPage_25 ?_
    refine lv_iload_n hx hb d_LN_endsPage_26 rfl (lv_at hl 2 rfl) ?_
    refine z_iald hx hb hK hP (14) 0 (by decide) (fun _ => rfl) rfl (w) rfl (by omega) (by decide) d_LN_endsPage_27 ?_
    refine lv_iload_n hx hb d_LN_endsPage_28 rfl (lv_at hl 0 rfl) ?_
    refine z_iadd hx hb d_LN_endsPage_29 (v := (M (14) (w) + M (15) (w))) rfl ?_
    refine z_iconst hx hb (z := 1) d_LN_endsPage_30 ?_
    refine z_isub hx hb d_LN_endsPage_31 (v := ((M (14) (w) + M (15) (w)) - 1)) rfl ?_
    refine z_iald hx hb hK hP (7) 0 (by decide) (fun _ => rfl) rfl (f + k - 1) (by omega) (by omega) (by decide) d_LN_endsPage_32 ?_
    refine z_bipush hx hb (z := 6) d_LN_endsPage_33 (by decide) ?_
    refine z_icmp_ne hx hb (tgt := 42) d_LN_endsPage_35 (by decide) (hz _) ⟨by decide, by decide⟩ (fun c_35 => ?_) (fun c_35 => ?_)
    · refine z_iconst hx hb (z := 0) d_LN_endsPage_42 ?_
      exact W.zret (v := iI (0)) hx hb hr (by first | rfl | decide) (fun t ht hW => ⟨_, rfl, by first | (rw [bz_t (by omega)]; done) | (rw [bz_f (by omega)]; done), ht⟩) (fun q h => by cases h) d_LN_endsPage_43
    · refine z_iconst hx hb (z := 1) d_LN_endsPage_38 ?_
      refine lv_goto (tgt := 43) hx hb d_LN_endsPage_39 (by decide) ?_
      exact W.zret (v := iI (1)) hx hb hr (by first | rfl | decide) (fun t ht hW => ⟨_, rfl, by first | (rw [bz_t (by omega)]; done) | (rw [bz_f (by omega)]; done), ht⟩) (fun q h => by cases h) d_LN_endsPage_43
set_option maxHeartbeats 4000000 in
set_option maxRecDepth 100000 in
theorem lp_signAhead {p : Program} {l : Launch} {e : Env} {s : State} {m : MethodId} {args : Array Value} {below : List Frame} {meth : Method} {c : Code} {H : Heap} {locs : List Loc} {Q : State → Prop} {D : va_G} {ad : Nat → Nat} {cs : pg_C} {rp : Option Nat} {M : Nat → Nat → Int} (hx : p.tables.exec = Jvm.exec) (hb : c.code = b_LN_signAhead) (hml : c.maxLocals = 7) (hg : ∀ w ∈ gt, w.before args s = true) (hown : s.vm.findClass R_LN = some m.cls) (hK : va_K D vwCl (pg_tys cs) s) (hP : va_P D vwCl (pg_w ad cs rp M) H) (w f0 k t : Nat) (x : Int) (hxb : zb x) (hf : M 14 w = ((f0 : Nat) : Int)) (hk : M 15 w = ((k : Nat) : Int)) (hfk : f0 + k ≤ 600) (ht : wfT M) (hpf : ∀ j, 0 ≤ M 24 j ∧ M 24 j ≤ 100000000) (hpw : ∀ j, 0 ≤ M 25 j ∧ M 25 j ≤ 100000000) (kk : ∀ (ls : Array Slot), W p l e ({ frames := 1, cells := 0, slots := 0, locals := 21 } : Room) s m args below meth c H locs 0 0 Q (F0 m 74 ls [.int (iI ((t : Nat) : Int))])) (kk2 : ∀ (ls : Array Slot), W p l e ({ frames := 1, cells := 0, slots := 0, locals := 21 } : Room) s m args below meth c H locs 0 0 Q (F0 m 83 ls [.int (iI ((t : Nat) : Int))])) : ∀ (f i : Nat) (ls : Array Slot), i + f = f0 + k → p_ah (M 7) (M 24) (M 25) x f i = t → lv_has ls 7 [(5, .int (iI (((i : Nat) : Int)))), (4, .int (iI ((M 14 w + M 15 w)))), (3, .int (iI (M 14 w))), (0, .ref (ad (3))), (1, .int (iI (((w : Nat) : Int)))), (2, .int (iI (x)))] → W p l e ({ frames := 1, cells := 0, slots := 0, locals := 21 } : Room) s m args below meth c H locs 0 0 Q (F0 m 24 ls []) := by
  intro f
  induction f with
  | zero =>
    intro i ls hi he hl
    have q1 := hpf i
    have q2 := hpw i
    have q3 : 0 ≤ (M 25 i).tdiv 2 ∧ (M 25 i).tdiv 2 ≤ M 25 i := by rw [Int.tdiv_eq_ediv_of_nonneg (by omega)]; omega
    refine lv_iload hx hb d_LN_signAhead_24 (lv_at hl 0 rfl) ?_
    refine lv_iload hx hb d_LN_signAhead_26 (lv_at hl 1 rfl) ?_
    refine z_icmp_ge hx hb (tgt := 81) d_LN_signAhead_28 (by decide) ⟨by omega, by omega⟩ ⟨by omega, by omega⟩ (fun c_28 => ?_) (fun c_28 => ?_)
    · refine lv_iload hx hb d_LN_signAhead_81 (lv_at hl 1 rfl) ?_
      have he : i = t := he
      rw [show M 14 w + M 15 w = ((t : Nat) : Int) by omega]
      exact kk2 ls
    · exact absurd c_28 (by omega)
  | succ f ih =>
    intro i ls hi he hl
    have q1 := hpf i
    have q2 := hpw i
    have q3 : 0 ≤ (M 25 i).tdiv 2 ∧ (M 25 i).tdiv 2 ≤ M 25 i := by rw [Int.tdiv_eq_ediv_of_nonneg (by omega)]; omega
    refine lv_iload hx hb d_LN_signAhead_24 (lv_at hl 0 rfl) ?_
    refine lv_iload hx hb d_LN_signAhead_26 (lv_at hl 1 rfl) ?_
    refine z_icmp_ge hx hb (tgt := 81) d_LN_signAhead_28 (by decide) ⟨by omega, by omega⟩ ⟨by omega, by omega⟩ (fun c_28 => ?_) (fun c_28 => ?_)
    · refine lv_iload hx hb d_LN_signAhead_81 (lv_at hl 1 rfl) ?_
      exact absurd c_28 (by omega)
    · refine lv_aload_n hx hb d_LN_signAhead_31 rfl (lv_at hl 3 rfl) ?_
      refine z_get (ci := 3) (C := R_LN) (T := T_LN) (N := 6) (v := .ref (ad (11))) hx hb hg in_LN hown hK hP (3) (by decide) rfl rfl 1 (by decide) (hg _ (List.mem_append_right _ (List.mem_append_right _ (List.mem_append_right _ (List.mem_append_right _ (List.mem_append_left _ (List.mem_of_getElem? (i := 6) rfl))))))) (fun _ h9 => h9) rfl d_LN_signAhead_32 ?_
      refine z_iconst hx hb (z := 1) d_LN_signAhead_35 ?_
      refine z_aald hx hb hK hP (11) 1 (by decide) (fun _ => rfl) rfl rfl (1) rfl (by decide) (by decide) d_LN_signAhead_36 ?_
      refine lv_iload hx hb d_LN_signAhead_37 (lv_at hl 0 rfl) ?_
      refine z_iald hx hb hK hP (24) 0 (by decide) (fun _ => rfl) rfl (i) rfl (by omega) (by decide) d_LN_signAhead_39 ?_
      refine lv_aload_n hx hb d_LN_signAhead_40 rfl (lv_at hl 3 rfl) ?_
      refine z_get (ci := 3) (C := R_LN) (T := T_LN) (N := 6) (v := .ref (ad (11))) hx hb hg in_LN hown hK hP (3) (by decide) rfl rfl 1 (by decide) (hg _ (List.mem_append_right _ (List.mem_append_right _ (List.mem_append_right _ (List.mem_append_right _ (List.mem_append_left _ (List.mem_of_getElem? (i := 6) rfl))))))) (fun _ h9 => h9) rfl d_LN_signAhead_41 ?_
      refine z_iconst hx hb (z := 2) d_LN_signAhead_44 ?_
      refine z_aald hx hb hK hP (11) 1 (by decide) (fun _ => rfl) rfl rfl (2) rfl (by decide) (by decide) d_LN_signAhead_45 ?_
      refine lv_iload hx hb d_LN_signAhead_46 (lv_at hl 0 rfl) ?_
      refine z_iald hx hb hK hP (25) 0 (by decide) (fun _ => rfl) rfl (i) rfl (by omega) (by decide) d_LN_signAhead_48 ?_
      refine z_iconst hx hb (z := 2) d_LN_signAhead_49 ?_
      refine z_idiv hx hb d_LN_signAhead_50 ⟨by omega, by omega⟩ ⟨by decide, by decide⟩ (by omega) (v := ((M (25) (i)).tdiv (2))) rfl ?_
      refine z_iadd hx hb d_LN_signAhead_51 (v := (M (24) (i) + ((M (25) (i)).tdiv (2)))) rfl ?_
      refine lv_istore (lv' := [(6, .int (iI ((M (24) (i) + ((M (25) (i)).tdiv (2)))))), (5, .int (iI (((i : Nat) : Int)))), (4, .int (iI ((M 14 w + M 15 w)))), (3, .int (iI (M 14 w))), (0, .ref (ad (3))), (1, .int (iI (((w : Nat) : Int)))), (2, .int (iI (x)))]) hx hb d_LN_signAhead_52 hl (by decide) rfl (fun ls hl => ?_)
      refine lv_iload hx hb d_LN_signAhead_54 (lv_at hl 0 rfl) ?_
      refine lv_iload_n hx hb d_LN_signAhead_56 rfl (lv_at hl 6 rfl) ?_
      refine z_icmp_gt hx hb (tgt := 72) d_LN_signAhead_57 (by decide) ⟨by omega, by omega⟩ hxb (fun c_57 => ?_) (fun c_57 => ?_)
      · refine lv_iload hx hb d_LN_signAhead_72 (lv_at hl 1 rfl) ?_
        have he : i = t := by rw [← he]; unfold p_ah; rw [if_pos (by omega)]
        subst he
        exact kk ls
      · refine lv_aload_n hx hb d_LN_signAhead_60 rfl (lv_at hl 4 rfl) ?_
        refine z_get (ci := 3) (C := R_LN) (T := T_LN) (N := 6) (v := .ref (ad (1))) hx hb hg in_LN hown hK hP (3) (by decide) rfl rfl 3 (by decide) (hg _ (List.mem_append_right _ (List.mem_append_right _ (List.mem_append_right _ (List.mem_append_right _ (List.mem_append_left _ (List.mem_of_getElem? (i := 11) rfl))))))) (fun _ h9 => h9) rfl d_LN_signAhead_61 ?_
        refine lv_iload hx hb d_LN_signAhead_64 (lv_at hl 1 rfl) ?_
        refine ro_V (As := [.int (iI (((i : Nat) : Int)))]) (rest := []) (z := bz (p_endl (M 7) i) inferInstance) ⟨hx, hb, hml, hown, hg⟩ (c_endsLine l i (by omega) (zb_7 ht)) (cwV 1 hg (gt_V (List.mem_append_right _ (List.mem_append_right _ (List.mem_append_right _ (List.mem_append_right _ (List.mem_append_right _ (List.mem_append_right _ (List.mem_append_left _ (List.mem_of_getElem? (i := 32) rfl)))))))) (List.mem_append_right _ (List.mem_append_right _ (List.mem_append_right _ (List.mem_append_right _ (List.mem_append_right _ (List.mem_append_left _ (List.mem_of_getElem? (i := 38) rfl))))))) (List.mem_append_right _ (List.mem_append_right _ (List.mem_append_right _ (List.mem_append_right _ (List.mem_append_right _ (List.mem_append_left _ (List.mem_of_getElem? (i := 39) rfl))))))) (List.mem_append_right _ (List.mem_append_left _ (List.mem_of_getElem? (i := 3) rfl))) (List.mem_append_right _ (List.mem_append_right _ (List.mem_append_right _ (List.mem_append_right _ (List.mem_append_right _ (List.mem_append_right _ (List.mem_append_left _ (List.mem_of_getElem? (i := 0) rfl))))))))) rfl rfl rfl (by decide +kernel) ⟨Nat.le_of_ble_eq_true rfl, Nat.le_of_ble_eq_true rfl⟩) hK hP (va_recv hK hP (ci := 1) (q0 := 1) rfl (wl_atE (by decide) rfl)) rfl hl.1 rfl (Nat.le_of_ble_eq_true rfl) d_LN_signAhead_66 ⟨Nat.zero_le _, Nat.zero_le _⟩ ?_
        refine z_ifb_eq hx hb (tgt := 75) d_LN_signAhead_69 (by decide) (fun c_69 => ?_) (fun c_69 => ?_)
        · refine z_iinc (v := ((i + 1 : Nat) : Int)) (lv' := [(5, .int (iI (((i + 1 : Nat) : Int)))), (6, .int (iI ((M (24) (i) + ((M (25) (i)).tdiv (2)))))), (4, .int (iI ((M 14 w + M 15 w)))), (3, .int (iI (M 14 w))), (0, .ref (ad (3))), (1, .int (iI (((w : Nat) : Int)))), (2, .int (iI (x)))]) hx hb d_LN_signAhead_75 hl (k := 1) rfl (by omega) (by decide) rfl (fun ls hl => ?_)
          refine lv_goto (tgt := 24) hx hb d_LN_signAhead_78 (by decide) ?_
          exact ih (i + 1) ls (by omega) (by rw [← he]; conv => rhs; unfold p_ah; rw [if_neg (by omega)]) (lv_sub hl [0, 2, 3, 4, 5, 6] rfl)
        · refine lv_iload hx hb d_LN_signAhead_72 (lv_at hl 1 rfl) ?_
          have he : i = t := by rw [← he]; unfold p_ah; rw [if_pos (by omega)]
          subst he
          exact kk ls
set_option maxHeartbeats 4000000 in
set_option maxRecDepth 100000 in
/-- Lines.signAhead -/
theorem c_signAhead (l : Launch) {D : va_G} {ad : Nat → Nat} {cs : pg_C} {rp : Option Nat} {M : Nat → Nat → Int} (w f0 k : Nat) (x : Int) (hw : w < 630) (hxb : zb x) (hf : M 14 w = ((f0 : Nat) : Int)) (hk : M 15 w = ((k : Nat) : Int)) (hfk : f0 + k ≤ 600) (ht : wfT M) (hpf : ∀ j, 0 ≤ M 24 j ∧ M 24 j ≤ 100000000) (hpw : ∀ j, 0 ≤ M 25 j ∧ M 25 j ≤ 100000000) : Met l y_LN_signAhead ws_LN_signAhead ({ frames := 1, cells := 0, slots := 0, locals := 21 } : Room) (va_Pc [.ref (ad (3)), .int (iI (((w : Nat) : Int))), .int (iI (x))] (ro_B D vwCl (pg_tys cs) (pg_w ad cs rp M))) (vp_Si (fun r => r = iI (((p_ah (M 7) (M 24) (M 25) x k f0 : Nat) : Int)))) 0 0 (fun _ => False) := by
  refine Met.ofW (cc := b_LN_signAhead) (maxL := 7) (ret := (some .int)) (by decide) rfl ?_
  intro p e s m args below meth c s₁ B hml hv
  obtain ⟨rfl, hP, hK⟩ := hv
  have hx := B.exec
  have hb := B.bytes
  have hr := B.returns
  have hts := atoms_spec (ws := ws_LN_signAhead) B.pre
  have hg : ∀ w ∈ gt, w.before _ s = true := fun w h => hts w (List.mem_cons_of_mem _ h)
  have hown : s.vm.findClass R_LN = some m.cls := findClass_of_methodNamed B.named
  have hlocks := B.notSynchronized
  have hl := lv_entry ([.ref (ad (3)), .int (iI (((w : Nat) : Int))), .int (iI (x))]) (n := 7) (Nat.le_of_ble_eq_true rfl)
  rw [lg_entry_eq]
  generalize (lg_sl ([.ref (ad (3)), .int (iI (((w : Nat) : Int))), .int (iI (x))]) ++ List.replicate (7 - (lg_sl ([.ref (ad (3)), .int (iI (((w : Nat) : Int))), .int (iI (x))])).length) Slot.unset).toArray = ls at hl ⊢
  have hl : lv_has ls 7 [(0, .ref (ad (3))), (1, .int (iI (((w : Nat) : Int)))), (2, .int (iI (x)))] := hl
  refine lv_aload_n hx hb d_LN_signAhead_0 rfl (lv_at hl 0 rfl) ?_
  refine z_get (ci := 3) (C := R_LN) (T := T_LN) (N := 6) (v := .ref (ad (10))) hx hb hg in_LN hown hK hP (3) (by decide) rfl rfl 0 (by decide) (hg _ (List.mem_append_right _ (List.mem_append_right _ (List.mem_append_right _ (List.mem_append_right _ (List.mem_append_left _ (List.mem_of_getElem? (i := 3) rfl))))))) (fun _ h9 => h9) rfl d_LN_signAhead_1 ?_
  refine z_iconst hx hb (z := 1) d_LN_signAhead_4 ?_
  refine z_aald hx hb hK hP (10) 1 (by decide) (fun _ => rfl) rfl rfl (1) rfl (by decide) (by decide) d_LN_signAhead_5 ?_
  refine lv_iload_n hx hb d_LN_signAhead_6 rfl (lv_at hl 1 rfl) ?_
  refine z_iald hx hb hK hP (14) 0 (by decide) (fun _ => rfl) rfl (w) rfl (by omega) (by decide) d_LN_signAhead_7 ?_
  refine lv_istore_n (lv' := [(3, .int (iI (M (14) (w)))), (0, .ref (ad (3))), (1, .int (iI (((w : Nat) : Int)))), (2, .int (iI (x)))]) hx hb d_LN_signAhead_8 rfl hl (by decide) rfl (fun ls hl => ?_)
  refine lv_iload_n hx hb d_LN_signAhead_9 rfl (lv_at hl 0 rfl) ?_
  refine lv_aload_n hx hb d_LN_signAhead_10 rfl (lv_at hl 1 rfl) ?_
  refine z_get (ci := 3) (C := R_LN) (T := T_LN) (N := 6) (v := .ref (ad (10))) hx hb hg in_LN hown hK hP (3) (by decide) rfl rfl 0 (by decide) (hg _ (List.mem_append_right _ (List.mem_append_right _ (List.mem_append_right _ (List.mem_append_right _ (List.mem_append_left _ (List.mem_of_getElem? (i := 3) rfl))))))) (fun _ h9 => h9) rfl d_LN_signAhead_11 ?_
  refine z_iconst hx hb (z := 2) d_LN_signAhead_14 ?_
  refine z_aald hx hb hK hP (10) 1 (by decide) (fun _ => rfl) rfl rfl (2) rfl (by decide) (by decide) d_LN_signAhead_15 ?_
  refine lv_iload_n hx hb d_LN_signAhead_16 rfl (lv_at hl 2 rfl) ?_
  refine z_iald hx hb hK hP (15) 0 (by decide) (fun _ => rfl) rfl (w) rfl (by omega) (by decide) d_LN_signAhead_17 ?_
  refine z_iadd hx hb d_LN_signAhead_18 (v := (M (14) (w) + M (15) (w))) rfl ?_
  refine lv_istore (lv' := [(4, .int (iI ((M (14) (w) + M (15) (w))))), (3, .int (iI (M (14) (w)))), (0, .ref (ad (3))), (1, .int (iI (((w : Nat) : Int)))), (2, .int (iI (x)))]) hx hb d_LN_signAhead_19 hl (by decide) rfl (fun ls hl => ?_)
  refine lv_iload_n hx hb d_LN_signAhead_21 rfl (lv_at hl 1 rfl) ?_
  refine lv_istore (lv' := [(5, .int (iI (M (14) (w)))), (4, .int (iI ((M (14) (w) + M (15) (w))))), (3, .int (iI (M (14) (w)))), (0, .ref (ad (3))), (1, .int (iI (((w : Nat) : Int)))), (2, .int (iI (x)))]) hx hb d_LN_signAhead_22 hl (by decide) rfl (fun ls hl => ?_)
  have hl := lv_sub hl [0, 1, 2, 3, 4, 5] rfl
  have hl : lv_has ls 7 [(5, .int (iI (((f0 : Nat) : Int)))), (4, .int (iI ((M 14 w + M 15 w)))), (3, .int (iI (M 14 w))), (0, .ref (ad (3))), (1, .int (iI (((w : Nat) : Int)))), (2, .int (iI (x)))] := by rw [hf] at hl ⊢; exact hl
  refine lp_signAhead hx hb hml hg hown hK hP w f0 k _ x hxb hf hk hfk ht hpf hpw (fun ls => ?_) (fun ls => ?_) k f0 ls rfl rfl hl
  · exact W.iret (v := iI (((p_ah (M 7) (M 24) (M 25) x k f0 : Nat) : Int))) hx hb hr (fun t ht hW => ⟨_, rfl, rfl, ht⟩) (fun q h => by cases h) d_LN_signAhead_74
  · exact W.iret (v := iI (((p_ah (M 7) (M 24) (M 25) x k f0 : Nat) : Int))) hx hb hr (fun t ht hW => ⟨_, rfl, rfl, ht⟩) (fun q h => by cases h) d_LN_signAhead_83
