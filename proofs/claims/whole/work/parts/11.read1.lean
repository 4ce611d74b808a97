set_option maxHeartbeats 4000000 in
set_option maxRecDepth 100000 in
/-- Paragraph.stepAbove -/
theorem c_stepAbove (l : Launch) {D : va_G} {ad : Nat → Nat} {cs : pg_C} {rp : Option Nat} {M : Nat → Nat → Int} (f st : Int) (hf : zb f) (hst : zb st) : Met l y_PA_stepAbove ws_PA_stepAbove ({ frames := 0, cells := 0, slots := 0, locals := 0 } : Room) (va_Pc [.int (iI (f)), .int (iI (st))] (ro_B D vwCl (pg_tys cs) (pg_w ad cs rp M))) (vp_Si (fun r => r = iI (p_step f st))) 0 0 (fun _ => False) := by
  refine Met.ofW (cc := b_PA_stepAbove) (maxL := 2) (ret := (some .int)) (by decide) rfl ?_
  intro p e s m args below meth c s₁ B hml hv
  obtain ⟨rfl, hP, hK⟩ := hv
  have hx := B.exec
  have hb := B.bytes
  have hr := B.returns
  have hts := atoms_spec (ws := ws_PA_stepAbove) B.pre
  have hg : ∀ w ∈ gt, w.before _ s = true := fun w h => hts w (List.mem_cons_of_mem _ h)
  have hown : s.vm.findClass R_PA = some m.cls := findClass_of_methodNamed B.named
  have hlocks := B.notSynchronized
  have hl := lv_entry ([.int (iI (f)), .int (iI (st))]) (n := 2) (Nat.le_of_ble_eq_true rfl)
  rw [lg_entry_eq]
  generalize (lg_sl ([.int (iI (f)), .int (iI (st))]) ++ List.replicate (2 - (lg_sl ([.int (iI (f)), .int (iI (st))])).length) Slot.unset).toArray = ls at hl ⊢
  have hl : lv_has ls 2 [(0, .int (iI (f))), (1, .int (iI (st)))] := hl
  refine lv_iload_n hx hb d_PA_stepAbove_0 rfl (lv_at hl 1 rfl) ?_
  refine z_if_le hx hb (tgt := 14) d_PA_stepAbove_1 (by decide) hst (fun c_1 => ?_) (fun c_1 => ?_)
  · refine lv_iload_n hx hb d_PA_stepAbove_14 rfl (lv_at hl 0 rfl) ?_
    exact W.iret (v := iI (f)) hx hb hr (fun t ht hW => ⟨_, rfl, by unfold p_step; split <;> first | rfl | (exfalso; omega), ht⟩) (fun q h => by cases h) d_PA_stepAbove_15
  · refine lv_iload_n hx hb d_PA_stepAbove_4 rfl (lv_at hl 0 rfl) ?_
    refine lv_iload_n hx hb d_PA_stepAbove_5 rfl (lv_at hl 1 rfl) ?_
    refine z_idiv hx hb d_PA_stepAbove_6 hf hst (by omega) (v := ((f).tdiv (st))) rfl ?_
    refine z_iconst hx hb (z := 1) d_PA_stepAbove_7 ?_
    refine z_iadd hx hb d_PA_stepAbove_8 (v := (((f).tdiv (st)) + 1)) rfl ?_
    refine lv_iload_n hx hb d_PA_stepAbove_9 rfl (lv_at hl 1 rfl) ?_
    refine z_imul hx hb d_PA_stepAbove_10 (v := ((((f).tdiv (st)) + 1) * st)) rfl ?_
    refine lv_goto (tgt := 15) hx hb d_PA_stepAbove_11 (by decide) ?_
    exact W.iret (v := iI (((((f).tdiv (st)) + 1) * st))) hx hb hr (fun t ht hW => ⟨_, rfl, by unfold p_step; split <;> first | rfl | (exfalso; omega), ht⟩) (fun q h => by cases h) d_PA_stepAbove_15
set_option maxHeartbeats 4000000 in
set_option maxRecDepth 100000 in
/-- Paragraph.lastStop -/
theorem c_lastStop (l : Launch) {D : va_G} {ad : Nat → Nat} {cs : pg_C} {rp : Option Nat} {M : Nat → Nat → Int} (i n : Nat) (hi : i < 30) (hn : n ≤ 8) (hs : M (29 + 4 * i) 3 = ((n : Nat) : Int)) : Met l y_PA_lastStop ws_PA_lastStop ({ frames := 0, cells := 0, slots := 0, locals := 0 } : Room) (va_Pc [.ref (ad (29 + 4 * i))] (ro_B D vwCl (pg_tys cs) (pg_w ad cs rp M))) (vp_Si (fun r => r = iI (p_last n (M (31 + 4 * i))))) 0 0 (fun _ => False) := by
  refine Met.ofW (cc := b_PA_lastStop) (maxL := 1) (ret := (some .int)) (by decide) rfl ?_
  intro p e s m args below meth c s₁ B hml hv
  obtain ⟨rfl, hP, hK⟩ := hv
  have hx := B.exec
  have hb := B.bytes
  have hr := B.returns
  have hts := atoms_spec (ws := ws_PA_lastStop) B.pre
  have hg : ∀ w ∈ gt, w.before _ s = true := fun w h => hts w (List.mem_cons_of_mem _ h)
  have hown : s.vm.findClass R_PA = some m.cls := findClass_of_methodNamed B.named
  have hlocks := B.notSynchronized
  have hl := lv_entry ([.ref (ad (29 + 4 * i))]) (n := 1) (Nat.le_of_ble_eq_true rfl)
  rw [lg_entry_eq]
  generalize (lg_sl ([.ref (ad (29 + 4 * i))]) ++ List.replicate (1 - (lg_sl ([.ref (ad (29 + 4 * i))])).length) Slot.unset).toArray = ls at hl ⊢
  have hl : lv_has ls 1 [(0, .ref (ad (29 + 4 * i)))] := hl
  refine lv_aload_n hx hb d_PA_lastStop_0 rfl (lv_at hl 0 rfl) ?_
  refine z_get (ci := 6) (C := R_PA) (T := T_PA) (N := 6) (v := .int (iI (M (29 + 4 * i) 3))) hx hb hg in_PA hown hK hP (29 + 4 * i) (by omega) (pg_par _ _ _ _ _) rfl 3 (by decide) (hg _ (List.mem_append_right _ (List.mem_append_right _ (List.mem_append_left _ (List.mem_of_getElem? (i := 3) rfl))))) (fun _ h9 => h9) rfl d_PA_lastStop_1 ?_
  refine z_if_le hx hb (tgt := 21) d_PA_lastStop_4 (by decide) ⟨by omega, by omega⟩ (fun c_4 => ?_) (fun c_4 => ?_)
  · refine z_iconst hx hb (z := 0) d_PA_lastStop_21 ?_
    exact W.iret (v := iI (0)) hx hb hr (fun t ht hW => ⟨_, rfl, by unfold p_last; split <;> first | rfl | (exfalso; omega), ht⟩) (fun q h => by cases h) d_PA_lastStop_22
  · refine lv_aload_n hx hb d_PA_lastStop_7 rfl (lv_at hl 0 rfl) ?_
    refine z_get (ci := 6) (C := R_PA) (T := T_PA) (N := 6) (v := .ref (ad (31 + 4 * i))) hx hb hg in_PA hown hK hP (29 + 4 * i) (by omega) (pg_par _ _ _ _ _) rfl 1 (by decide) (hg _ (List.mem_append_right _ (List.mem_append_right _ (List.mem_append_left _ (List.mem_of_getElem? (i := 1) rfl))))) (fun _ h9 => h9) rfl d_PA_lastStop_8 ?_
    refine lv_aload_n hx hb d_PA_lastStop_11 rfl (lv_at hl 0 rfl) ?_
    refine z_get (ci := 6) (C := R_PA) (T := T_PA) (N := 6) (v := .int (iI (M (29 + 4 * i) 3))) hx hb hg in_PA hown hK hP (29 + 4 * i) (by omega) (pg_par _ _ _ _ _) rfl 3 (by decide) (hg _ (List.mem_append_right _ (List.mem_append_right _ (List.mem_append_left _ (List.mem_of_getElem? (i := 3) rfl))))) (fun _ h9 => h9) rfl d_PA_lastStop_12 ?_
    refine z_iconst hx hb (z := 1) d_PA_lastStop_15 ?_
    refine z_isub hx hb d_PA_lastStop_16 (v := (M (29 + 4 * i) 3 - 1)) rfl ?_
    refine z_iald hx hb hK hP (31 + 4 * i) 0 (by omega) (fun r => pg_plc _ _ _ _ r) rfl (n - 1) (by omega) (by omega) (by decide) d_PA_lastStop_17 ?_
    refine lv_goto (tgt := 22) hx hb d_PA_lastStop_18 (by decide) ?_
    exact W.iret (v := iI (M (31 + 4 * i) (n - 1))) hx hb hr (fun t ht hW => ⟨_, rfl, by unfold p_last; split <;> first | rfl | (exfalso; omega), ht⟩) (fun q h => by cases h) d_PA_lastStop_22
set_option maxHeartbeats 4000000 in
set_option maxRecDepth 100000 in
theorem lp_ownStopAbove {p : Program} {l : Launch} {e : Env} {R : Room} {s : State} {m : MethodId} {args : Array Value} {below : List Frame} {meth : Method} {c : Code} {H : Heap} {locs : List Loc} {cells slots : Nat} {Q : State → Prop} {D : va_G} {ad : Nat → Nat} {cs : pg_C} {rp : Option Nat} {M : Nat → Nat → Int} (hx : p.tables.exec = Jvm.exec) (hb : c.code = b_PA_ownStopAbove) (hg : ∀ w ∈ gt, w.before args s = true) (hown : s.vm.findClass R_PA = some m.cls) (hK : va_K D vwCl (pg_tys cs) s) (hP : va_P D vwCl (pg_w ad cs rp M) H) (i n : Nat) (x : Int) (hxb : zb x) (hi : i < 30) (hn : n ≤ 8) (hs : M (29 + 4 * i) 3 = ((n : Nat) : Int)) (hz : ∀ j, zb (M (31 + 4 * i) j)) (kk : ∀ ls : Array Slot, lv_has ls 3 [(2, .int (iI (((p_own (M (31 + 4 * i)) x n 0 : Nat) : Int)))), (0, .ref (ad (29 + 4 * i))), (1, .int (iI (x)))] → W p l e R s m args below meth c H locs cells slots Q (F0 m 26 ls [])) : ∀ (f o : Nat) (ls : Array Slot), o + f = n → p_own (M (31 + 4 * i)) x f o = p_own (M (31 + 4 * i)) x n 0 → lv_has ls 3 [(2, .int (iI (((o : Nat) : Int)))), (0, .ref (ad (29 + 4 * i))), (1, .int (iI (x)))] → W p l e R s m args below meth c H locs cells slots Q (F0 m 2 ls []) := by
  intro f
  induction f with
  | zero =>
    intro o ls ho he hl
    refine lv_iload_n hx hb d_PA_ownStopAbove_2 rfl (lv_at hl 0 rfl) ?_
    refine lv_aload_n hx hb d_PA_ownStopAbove_3 rfl (lv_at hl 1 rfl) ?_
    refine z_get (ci := 6) (C := R_PA) (T := T_PA) (N := 6) (v := .int (iI (M (29 + 4 * i) 3))) hx hb hg in_PA hown hK hP (29 + 4 * i) (by omega) (pg_par _ _ _ _ _) rfl 3 (by decide) (hg _ (List.mem_append_right _ (List.mem_append_right _ (List.mem_append_left _ (List.mem_of_getElem? (i := 3) rfl))))) (fun _ h9 => h9) rfl d_PA_ownStopAbove_4 ?_
    refine z_icmp_ge hx hb (tgt := 26) d_PA_ownStopAbove_7 (by decide) ⟨by omega, by omega⟩ ⟨by omega, by omega⟩ (fun c_7 => ?_) (fun c_7 => ?_)
    · have he : o = p_own (M (31 + 4 * i)) x n 0 := he
      rw [he] at hl
      exact kk ls hl
    · exact absurd c_7 (by omega)
  | succ f ih =>
    intro o ls ho he hl
    refine lv_iload_n hx hb d_PA_ownStopAbove_2 rfl (lv_at hl 0 rfl) ?_
    refine lv_aload_n hx hb d_PA_ownStopAbove_3 rfl (lv_at hl 1 rfl) ?_
    refine z_get (ci := 6) (C := R_PA) (T := T_PA) (N := 6) (v := .int (iI (M (29 + 4 * i) 3))) hx hb hg in_PA hown hK hP (29 + 4 * i) (by omega) (pg_par _ _ _ _ _) rfl 3 (by decide) (hg _ (List.mem_append_right _ (List.mem_append_right _ (List.mem_append_left _ (List.mem_of_getElem? (i := 3) rfl))))) (fun _ h9 => h9) rfl d_PA_ownStopAbove_4 ?_
    refine z_icmp_ge hx hb (tgt := 26) d_PA_ownStopAbove_7 (by decide) ⟨by omega, by omega⟩ ⟨by omega, by omega⟩ (fun c_7 => ?_) (fun c_7 => ?_)
    · exact absurd c_7 (by omega)
    · refine lv_aload_n hx hb d_PA_ownStopAbove_10 rfl (lv_at hl 1 rfl) ?_
      refine z_get (ci := 6) (C := R_PA) (T := T_PA) (N := 6) (v := .ref (ad (31 + 4 * i))) hx hb hg in_PA hown hK hP (29 + 4 * i) (by omega) (pg_par _ _ _ _ _) rfl 1 (by decide) (hg _ (List.mem_append_right _ (List.mem_append_right _ (List.mem_append_left _ (List.mem_of_getElem? (i := 1) rfl))))) (fun _ h9 => h9) rfl d_PA_ownStopAbove_11 ?_
      refine lv_iload_n hx hb d_PA_ownStopAbove_14 rfl (lv_at hl 0 rfl) ?_
      refine z_iald hx hb hK hP (31 + 4 * i) 0 (by omega) (fun r => pg_plc _ _ _ _ r) rfl (o) rfl (by omega) (by decide) d_PA_ownStopAbove_15 ?_
      refine lv_iload_n hx hb d_PA_ownStopAbove_16 rfl (lv_at hl 2 rfl) ?_
      refine z_icmp_gt hx hb (tgt := 26) d_PA_ownStopAbove_17 (by decide) (hz _) hxb (fun c_17 => ?_) (fun c_17 => ?_)
      · have he : o = p_own (M (31 + 4 * i)) x n 0 := by rw [← he]; unfold p_own; rw [if_neg (by omega)]
        rw [he] at hl
        exact kk ls hl
      · refine z_iinc (v := ((o + 1 : Nat) : Int)) (lv' := [(2, .int (iI (((o + 1 : Nat) : Int)))), (0, .ref (ad (29 + 4 * i))), (1, .int (iI (x)))]) hx hb d_PA_ownStopAbove_20 hl (k := 0) rfl (by omega) (by decide) rfl (fun ls hl => ?_)
        refine lv_goto (tgt := 2) hx hb d_PA_ownStopAbove_23 (by decide) ?_
        exact ih (o + 1) ls (by omega) (by rw [← he]; conv => rhs; unfold p_own; rw [if_pos (by omega)]) hl
set_option maxHeartbeats 4000000 in
set_option maxRecDepth 100000 in
/-- Paragraph.ownStopAbove -/
theorem c_ownStopAbove (l : Launch) {D : va_G} {ad : Nat → Nat} {cs : pg_C} {rp : Option Nat} {M : Nat → Nat → Int} (i n : Nat) (x : Int) (hxb : zb x) (hi : i < 30) (hn : n ≤ 8) (hs : M (29 + 4 * i) 3 = ((n : Nat) : Int)) (hz : ∀ j, zb (M (31 + 4 * i) j)) : Met l y_PA_ownStopAbove ws_PA_ownStopAbove ({ frames := 0, cells := 0, slots := 0, locals := 0 } : Room) (va_Pc [.ref (ad (29 + 4 * i)), .int (iI (x))] (ro_B D vwCl (pg_tys cs) (pg_w ad cs rp M))) (vp_Si (fun r => r = iI (((p_own (M (31 + 4 * i)) x n 0 : Nat) : Int)))) 0 0 (fun _ => False) := by
  refine Met.ofW (cc := b_PA_ownStopAbove) (maxL := 3) (ret := (some .int)) (by decide) rfl ?_
  intro p e s m args below meth c s₁ B hml hv
  obtain ⟨rfl, hP, hK⟩ := hv
  have hx := B.exec
  have hb := B.bytes
  have hr := B.returns
  have hts := atoms_spec (ws := ws_PA_ownStopAbove) B.pre
  have hg : ∀ w ∈ gt, w.before _ s = true := fun w h => hts w (List.mem_cons_of_mem _ h)
  have hown : s.vm.findClass R_PA = some m.cls := findClass_of_methodNamed B.named
  have hlocks := B.notSynchronized
  have hl := lv_entry ([.ref (ad (29 + 4 * i)), .int (iI (x))]) (n := 3) (Nat.le_of_ble_eq_true rfl)
  rw [lg_entry_eq]
  generalize (lg_sl ([.ref (ad (29 + 4 * i)), .int (iI (x))]) ++ List.replicate (3 - (lg_sl ([.ref (ad (29 + 4 * i)), .int (iI (x))])).length) Slot.unset).toArray = ls at hl ⊢
  have hl : lv_has ls 3 [(0, .ref (ad (29 + 4 * i))), (1, .int (iI (x)))] := hl
  refine z_iconst hx hb (z := 0) d_PA_ownStopAbove_0 ?_
  refine lv_istore_n (lv' := [(2, .int (iI (0))), (0, .ref (ad (29 + 4 * i))), (1, .int (iI (x)))]) hx hb d_PA_ownStopAbove_1 rfl hl (by decide) rfl (fun ls hl => ?_)
  refine lp_ownStopAbove hx hb hg hown hK hP i n x hxb hi hn hs hz (fun ls hl => ?_) n 0 ls (by omega) rfl hl
  refine lv_iload_n hx hb d_PA_ownStopAbove_26 rfl (lv_at hl 0 rfl) ?_
  exact W.iret (v := iI (((p_own (M (31 + 4 * i)) x n 0 : Nat) : Int))) hx hb hr (fun t ht hW => ⟨_, rfl, rfl, ht⟩) (fun q h => by cases h) d_PA_ownStopAbove_27
set_option maxHeartbeats 4000000 in
set_option maxRecDepth 100000 in
/-- Paragraph.tabWidth -/
theorem c_tabWidth (l : Launch) {D : va_G} {ad : Nat → Nat} {cs : pg_C} {rp : Option Nat} {M : Nat → Nat → Int} (i n : Nat) (x wd stp : Int) (hxb : 0 ≤ x ∧ x ≤ 100000000) (hwd : 0 ≤ wd ∧ wd ≤ 100000000) (hst : 1 ≤ stp ∧ stp ≤ 30000) (hi : i < 30) (hn : n ≤ 8) (hs : M (29 + 4 * i) 3 = ((n : Nat) : Int)) (hz : ∀ j, 0 ≤ M (31 + 4 * i) j ∧ M (31 + 4 * i) j ≤ 30000) (hz2 : ∀ j, zb (M (32 + 4 * i) j)) : Met l y_PA_tabWidth ws_PA_tabWidth ({ frames := 1, cells := 0, slots := 0, locals := 24 } : Room) (va_Pc [.ref (ad (29 + 4 * i)), .int (iI (x)), .int (iI (wd)), .int (iI (stp))] (ro_B D vwCl (pg_tys cs) (pg_w ad cs rp M))) (vp_Si (fun r => r = iI (p_tab n (M (31 + 4 * i)) (M (32 + 4 * i)) x wd stp))) 0 0 (fun _ => False) := by
  refine Met.ofW (cc := b_PA_tabWidth) (maxL := 8) (ret := (some .int)) (by decide) rfl ?_
  intro p e s m args below meth c s₁ B hml hv
  obtain ⟨rfl, hP, hK⟩ := hv
  have hx := B.exec
  have hb := B.bytes
  have hr := B.returns
  have hts := atoms_spec (ws := ws_PA_tabWidth) B.pre
  have hg : ∀ w ∈ gt, w.before _ s = true := fun w h => hts w (List.mem_cons_of_mem _ h)
  have hown : s.vm.findClass R_PA = some m.cls := findClass_of_methodNamed B.named
  have hlocks := B.notSynchronized
  have hl := lv_entry ([.ref (ad (29 + 4 * i)), .int (iI (x)), .int (iI (wd)), .int (iI (stp))]) (n := 8) (Nat.le_of_ble_eq_true rfl)
  rw [lg_entry_eq]
  generalize (lg_sl ([.ref (ad (29 + 4 * i)), .int (iI (x)), .int (iI (wd)), .int (iI (stp))]) ++ List.replicate (8 - (lg_sl ([.ref (ad (29 + 4 * i)), .int (iI (x)), .int (iI (wd)), .int (iI (stp))])).length) Slot.unset).toArray = ls at hl ⊢
  have hl : lv_has ls 8 [(0, .ref (ad (29 + 4 * i))), (1, .int (iI (x))), (2, .int (iI (wd))), (3, .int (iI (stp)))] := hl
  have hzz : ∀ j, zb (M (31 + 4 * i) j) := fun j => ⟨by have := hz j; omega, by have := hz j; omega⟩
  have hxz : zb x := ⟨by omega, by omega⟩
  obtain ⟨ow, how⟩ : ∃ q, q = p_own (M (31 + 4 * i)) x n 0 := ⟨_, rfl⟩
  have hol : ow ≤ n := by have := p_own_le (M (31 + 4 * i)) x n 0; omega
  obtain ⟨la, hla⟩ : ∃ q, q = p_last n (M (31 + 4 * i)) := ⟨_, rfl⟩
  have hlb : 0 ≤ la ∧ la ≤ 30000 := by rw [hla]; unfold p_last; split <;> first | exact hz _ | omega
  have hzo := hz ow
  have hko := hz2 ow
  obtain ⟨ps, hps⟩ : ∃ q, q = p_step (max x la) stp := ⟨_, rfl⟩
  have hpb : max x la < ps ∧ ps ≤ max x la + stp := by rw [hps]; exact p_stepb (by omega) (by omega)
  have hw2 : 0 ≤ wd.tdiv 2 ∧ wd.tdiv 2 ≤ wd := by rw [Int.tdiv_eq_ediv_of_nonneg (by omega)]; omega
  refine lv_aload_n hx hb d_PA_tabWidth_0 rfl (lv_at hl 0 rfl) ?_
  refine lv_iload_n hx hb d_PA_tabWidth_1 rfl (lv_at hl 1 rfl) ?_
  refine ro_V (As := [.int (iI (x))]) (rest := []) (z := ((ow : Nat) : Int)) ⟨hx, hb, hml, hown, hg⟩ (how ▸ c_ownStopAbove l i n x hxz hi hn hs hzz) (cwV 1 hg (gt_V (List.mem_append_right _ (List.mem_append_right _ (List.mem_append_right _ (List.mem_append_right _ (List.mem_append_right _ (List.mem_append_right _ (List.mem_append_left _ (List.mem_of_getElem? (i := 15) rfl)))))))) (List.mem_append_right _ (List.mem_append_right _ (List.mem_append_right _ (List.mem_append_right _ (List.mem_append_right _ (List.mem_append_right _ (List.mem_append_left _ (List.mem_of_getElem? (i := 16) rfl)))))))) (List.mem_append_left _ (List.mem_of_getElem? (i := 5) rfl)) (List.mem_append_right _ (List.mem_append_left _ (List.mem_of_getElem? (i := 4) rfl))) (List.mem_append_right _ (List.mem_append_right _ (List.mem_append_right _ (List.mem_append_right _ (List.mem_append_right _ (List.mem_append_right _ (List.mem_append_left _ (List.mem_of_getElem? (i := 17) rfl))))))))) rfl rfl rfl (by decide +kernel) ⟨Nat.le_of_ble_eq_true rfl, Nat.le_of_ble_eq_true rfl⟩) hK hP (va_recv hK hP (ci := 6) (q0 := 29 + 4 * i) rfl (wl_atE (by omega) (pg_par _ _ _ _ _))) rfl hl.1 rfl (Nat.le_of_ble_eq_true rfl) d_PA_tabWidth_2 ⟨Nat.zero_le _, Nat.zero_le _⟩ ?_
  refine lv_istore (lv' := [(4, .int (iI (((ow : Nat) : Int)))), (0, .ref (ad (29 + 4 * i))), (1, .int (iI (x))), (2, .int (iI (wd))), (3, .int (iI (stp)))]) hx hb d_PA_tabWidth_5 hl (by decide) rfl (fun ls hl => ?_)
  refine lv_iload hx hb d_PA_tabWidth_7 (lv_at hl 0 rfl) ?_
  refine lv_aload_n hx hb d_PA_tabWidth_9 rfl (lv_at hl 1 rfl) ?_
  refine z_get (ci := 6) (C := R_PA) (T := T_PA) (N := 6) (v := .int (iI (M (29 + 4 * i) 3))) hx hb hg in_PA hown hK hP (29 + 4 * i) (by omega) (pg_par _ _ _ _ _) rfl 3 (by decide) (hg _ (List.mem_append_right _ (List.mem_append_right _ (List.mem_append_left _ (List.mem_of_getElem? (i := 3) rfl))))) (fun _ h9 => h9) rfl d_PA_tabWidth_10 ?_
  refine z_icmp_ge hx hb (tgt := 26) d_PA_tabWidth_13 (by decide) ⟨by omega, by omega⟩ ⟨by omega, by omega⟩ (fun c_13 => ?_) (fun c_13 => ?_)
  · refine lv_iload_n hx hb d_PA_tabWidth_26 rfl (lv_at hl 2 rfl) ?_
    refine lv_aload_n hx hb d_PA_tabWidth_27 rfl (lv_at hl 1 rfl) ?_
    refine ro_V (As := []) (rest := [.int (iI (x))]) (z := la) ⟨hx, hb, hml, hown, hg⟩ (hla ▸ c_lastStop l i n hi hn hs) (cwV 0 hg (gt_V (List.mem_append_right _ (List.mem_append_right _ (List.mem_append_right _ (List.mem_append_right _ (List.mem_append_right _ (List.mem_append_right _ (List.mem_append_left _ (List.mem_of_getElem? (i := 18) rfl)))))))) (List.mem_append_right _ (List.mem_append_right _ (List.mem_append_right _ (List.mem_append_right _ (List.mem_append_right _ (List.mem_append_right _ (List.mem_append_left _ (List.mem_of_getElem? (i := 19) rfl)))))))) (List.mem_append_right _ (List.mem_append_right _ (List.mem_append_right _ (List.mem_append_right _ (List.mem_append_right _ (List.mem_append_right _ (List.mem_append_left _ (List.mem_of_getElem? (i := 20) rfl)))))))) (List.mem_append_right _ (List.mem_append_left _ (List.mem_of_getElem? (i := 4) rfl))) (List.mem_append_right _ (List.mem_append_right _ (List.mem_append_right _ (List.mem_append_right _ (List.mem_append_right _ (List.mem_append_right _ (List.mem_append_left _ (List.mem_of_getElem? (i := 21) rfl))))))))) rfl rfl rfl (by decide +kernel) ⟨Nat.le_of_ble_eq_true rfl, Nat.le_of_ble_eq_true rfl⟩) hK hP (va_recv hK hP (ci := 6) (q0 := 29 + 4 * i) rfl (wl_atE (by omega) (pg_par _ _ _ _ _))) rfl hl.1 rfl (Nat.le_of_ble_eq_true rfl) d_PA_tabWidth_28 ⟨Nat.zero_le _, Nat.zero_le _⟩ ?_
    refine z_mmax hx hb (hml.trans hl.1.symm) hown (hg _ (List.mem_append_right _ (List.mem_append_right _ (List.mem_append_right _ (List.mem_append_right _ (List.mem_append_right _ (List.mem_append_right _ (List.mem_append_left _ (List.mem_of_getElem? (i := 22) rfl))))))))) (hg _ (List.mem_append_right _ (List.mem_append_right _ (List.mem_append_right _ (List.mem_append_right _ (List.mem_append_right _ (List.mem_append_left _ (List.mem_of_getElem? (i := 28) rfl)))))))) (hg _ (List.mem_append_right _ (List.mem_append_left _ (List.mem_of_getElem? (i := 17) rfl)))) (hg _ (List.mem_append_right _ (List.mem_append_right _ (List.mem_append_right _ (List.mem_append_right _ (List.mem_append_right _ (List.mem_append_left _ (List.mem_of_getElem? (i := 29) rfl)))))))) (Nat.le_of_ble_eq_true rfl) (Nat.le_of_ble_eq_true rfl) (Nat.zero_le _) (Nat.zero_le _) ⟨by omega, by omega⟩ ⟨by omega, by omega⟩ d_PA_tabWidth_31 (v := max (x) (la)) rfl ?_
    refine lv_iload_n hx hb d_PA_tabWidth_34 rfl (lv_at hl 4 rfl) ?_
    refine ro_S (As := [.int (iI (max (x) (la))), .int (iI (stp))]) (rest := []) (z := p_step (max (x) (la)) stp) ⟨hx, hb, hml, hown, hg⟩ (c_stepAbove l (max (x) (la)) stp ⟨by omega, by omega⟩ ⟨by omega, by omega⟩) (cwS 2 hg (gt_S (List.mem_append_right _ (List.mem_append_right _ (List.mem_append_right _ (List.mem_append_right _ (List.mem_append_right _ (List.mem_append_right _ (List.mem_append_left _ (List.mem_of_getElem? (i := 23) rfl)))))))) (List.mem_append_right _ (List.mem_append_right _ (List.mem_append_right _ (List.mem_append_right _ (List.mem_append_right _ (List.mem_append_right _ (List.mem_append_left _ (List.mem_of_getElem? (i := 24) rfl)))))))) (List.mem_append_right _ (List.mem_append_left _ (List.mem_of_getElem? (i := 4) rfl))) (List.mem_append_right _ (List.mem_append_right _ (List.mem_append_right _ (List.mem_append_right _ (List.mem_append_right _ (List.mem_append_right _ (List.mem_append_left _ (List.mem_of_getElem? (i := 25) rfl))))))))) rfl rfl rfl (by decide +kernel) ⟨Nat.le_of_ble_eq_true rfl, Nat.le_of_ble_eq_true rfl⟩) hK hP rfl hl.1 rfl (Nat.le_of_ble_eq_true rfl) d_PA_tabWidth_35 ⟨Nat.zero_le _, Nat.zero_le _⟩ ?_
    refine lv_istore (lv' := [(5, .int (iI (p_step (max (x) (la)) stp))), (4, .int (iI (((ow : Nat) : Int)))), (0, .ref (ad (29 + 4 * i))), (1, .int (iI (x))), (2, .int (iI (wd))), (3, .int (iI (stp)))]) hx hb d_PA_tabWidth_38 hl (by decide) rfl (fun ls hl => ?_)
    refine lv_iload hx hb d_PA_tabWidth_40 (lv_at hl 1 rfl) ?_
    refine lv_aload_n hx hb d_PA_tabWidth_42 rfl (lv_at hl 2 rfl) ?_
    refine z_get (ci := 6) (C := R_PA) (T := T_PA) (N := 6) (v := .int (iI (M (29 + 4 * i) 3))) hx hb hg in_PA hown hK hP (29 + 4 * i) (by omega) (pg_par _ _ _ _ _) rfl 3 (by decide) (hg _ (List.mem_append_right _ (List.mem_append_right _ (List.mem_append_left _ (List.mem_of_getElem? (i := 3) rfl))))) (fun _ h9 => h9) rfl d_PA_tabWidth_43 ?_
    refine z_icmp_ge hx hb (tgt := 59) d_PA_tabWidth_46 (by decide) ⟨by omega, by omega⟩ ⟨by omega, by omega⟩ (fun c_46 => ?_) (fun c_46 => ?_)
    · refine z_iconst hx hb (z := 0) d_PA_tabWidth_59 ?_
      refine lv_istore (lv' := [(6, .int (iI (0))), (5, .int (iI (p_step (max (x) (la)) stp))), (4, .int (iI (((ow : Nat) : Int)))), (0, .ref (ad (29 + 4 * i))), (1, .int (iI (x))), (2, .int (iI (wd))), (3, .int (iI (stp)))]) hx hb d_PA_tabWidth_60 hl (by decide) rfl (fun ls hl => ?_)
      refine lv_iload hx hb d_PA_tabWidth_62 (lv_at hl 1 rfl) ?_
      refine lv_iload_n hx hb d_PA_tabWidth_64 rfl (lv_at hl 4 rfl) ?_
      refine z_isub hx hb d_PA_tabWidth_65 (v := (p_step (max (x) (la)) stp - x)) rfl ?_
      refine lv_istore (lv' := [(7, .int (iI ((p_step (max (x) (la)) stp - x)))), (6, .int (iI (0))), (5, .int (iI (p_step (max (x) (la)) stp))), (4, .int (iI (((ow : Nat) : Int)))), (0, .ref (ad (29 + 4 * i))), (1, .int (iI (x))), (2, .int (iI (wd))), (3, .int (iI (stp)))]) hx hb d_PA_tabWidth_66 hl (by decide) rfl (fun ls hl => ?_)
      refine lv_iload hx hb d_PA_tabWidth_68 (lv_at hl 1 rfl) ?_
      refine z_iconst hx hb (z := 1) d_PA_tabWidth_70 ?_
      refine z_icmp_ne hx hb (tgt := 83) d_PA_tabWidth_71 (by decide) (by first | exact hko | exact ⟨by omega, by omega⟩) ⟨by decide, by decide⟩ (fun c_71 => ?_) (fun c_71 => ?_)
      · refine lv_iload hx hb d_PA_tabWidth_83 (lv_at hl 1 rfl) ?_
        refine z_iconst hx hb (z := 2) d_PA_tabWidth_85 ?_
        refine z_icmp_ne hx hb (tgt := 97) d_PA_tabWidth_86 (by decide) (by first | exact hko | exact ⟨by omega, by omega⟩) ⟨by decide, by decide⟩ (fun c_86 => ?_) (fun c_86 => ?_)
        · refine z_iconst hx hb (z := 0) d_PA_tabWidth_97 ?_
          refine lv_iload hx hb d_PA_tabWidth_98 (lv_at hl 0 rfl) ?_
          refine z_mmax hx hb (hml.trans hl.1.symm) hown (hg _ (List.mem_append_right _ (List.mem_append_right _ (List.mem_append_right _ (List.mem_append_right _ (List.mem_append_right _ (List.mem_append_right _ (List.mem_append_left _ (List.mem_of_getElem? (i := 22) rfl))))))))) (hg _ (List.mem_append_right _ (List.mem_append_right _ (List.mem_append_right _ (List.mem_append_right _ (List.mem_append_right _ (List.mem_append_left _ (List.mem_of_getElem? (i := 28) rfl)))))))) (hg _ (List.mem_append_right _ (List.mem_append_left _ (List.mem_of_getElem? (i := 17) rfl)))) (hg _ (List.mem_append_right _ (List.mem_append_right _ (List.mem_append_right _ (List.mem_append_right _ (List.mem_append_right _ (List.mem_append_left _ (List.mem_of_getElem? (i := 29) rfl)))))))) (Nat.le_of_ble_eq_true rfl) (Nat.le_of_ble_eq_true rfl) (Nat.zero_le _) (Nat.zero_le _) ⟨by decide, by decide⟩ ⟨by omega, by omega⟩ d_PA_tabWidth_100 (v := max (0) ((p_step (max (x) (la)) stp - x))) rfl ?_
          exact W.iret (v := iI (max (0) ((p_step (max (x) (la)) stp - x)))) hx hb hr (fun t ht hW => ⟨_, rfl, by unfold p_tab p_at p_knd; rw [← how, ← hla, ← hps]; repeat' (first | rfl | (exfalso; omega) | split), ht⟩) (fun q h => by cases h) d_PA_tabWidth_103
        · refine lv_iload hx hb d_PA_tabWidth_89 (lv_at hl 0 rfl) ?_
          refine lv_iload_n hx hb d_PA_tabWidth_91 rfl (lv_at hl 6 rfl) ?_
          refine z_iconst hx hb (z := 2) d_PA_tabWidth_92 ?_
          refine z_idiv hx hb d_PA_tabWidth_93 ⟨by omega, by omega⟩ ⟨by decide, by decide⟩ (by omega) (v := ((wd).tdiv (2))) rfl ?_
          refine z_isub hx hb d_PA_tabWidth_94 (v := ((p_step (max (x) (la)) stp - x) - ((wd).tdiv (2)))) rfl ?_
          refine lv_istore (lv' := [(7, .int (iI (((p_step (max (x) (la)) stp - x) - ((wd).tdiv (2)))))), (6, .int (iI (0))), (5, .int (iI (p_step (max (x) (la)) stp))), (4, .int (iI (((ow : Nat) : Int)))), (0, .ref (ad (29 + 4 * i))), (1, .int (iI (x))), (2, .int (iI (wd))), (3, .int (iI (stp)))]) hx hb d_PA_tabWidth_95 hl (by decide) rfl (fun ls hl => ?_)
          refine z_iconst hx hb (z := 0) d_PA_tabWidth_97 ?_
          refine lv_iload hx hb d_PA_tabWidth_98 (lv_at hl 0 rfl) ?_
          refine z_mmax hx hb (hml.trans hl.1.symm) hown (hg _ (List.mem_append_right _ (List.mem_append_right _ (List.mem_append_right _ (List.mem_append_right _ (List.mem_append_right _ (List.mem_append_right _ (List.mem_append_left _ (List.mem_of_getElem? (i := 22) rfl))))))))) (hg _ (List.mem_append_right _ (List.mem_append_right _ (List.mem_append_right _ (List.mem_append_right _ (List.mem_append_right _ (List.mem_append_left _ (List.mem_of_getElem? (i := 28) rfl)))))))) (hg _ (List.mem_append_right _ (List.mem_append_left _ (List.mem_of_getElem? (i := 17) rfl)))) (hg _ (List.mem_append_right _ (List.mem_append_right _ (List.mem_append_right _ (List.mem_append_right _ (List.mem_append_right _ (List.mem_append_left _ (List.mem_of_getElem? (i := 29) rfl)))))))) (Nat.le_of_ble_eq_true rfl) (Nat.le_of_ble_eq_true rfl) (Nat.zero_le _) (Nat.zero_le _) ⟨by decide, by decide⟩ ⟨by omega, by omega⟩ d_PA_tabWidth_100 (v := max (0) (((p_step (max (x) (la)) stp - x) - ((wd).tdiv (2))))) rfl ?_
          exact W.iret (v := iI (max (0) (((p_step (max (x) (la)) stp - x) - ((wd).tdiv (2)))))) hx hb hr (fun t ht hW => ⟨_, rfl, by unfold p_tab p_at p_knd; rw [← how, ← hla, ← hps]; repeat' (first | rfl | (exfalso; omega) | split), ht⟩) (fun q h => by cases h) d_PA_tabWidth_103
      · refine lv_iload hx hb d_PA_tabWidth_74 (lv_at hl 0 rfl) ?_
        refine lv_iload_n hx hb d_PA_tabWidth_76 rfl (lv_at hl 6 rfl) ?_
        refine z_isub hx hb d_PA_tabWidth_77 (v := ((p_step (max (x) (la)) stp - x) - wd)) rfl ?_
        refine lv_istore (lv' := [(7, .int (iI (((p_step (max (x) (la)) stp - x) - wd)))), (6, .int (iI (0))), (5, .int (iI (p_step (max (x) (la)) stp))), (4, .int (iI (((ow : Nat) : Int)))), (0, .ref (ad (29 + 4 * i))), (1, .int (iI (x))), (2, .int (iI (wd))), (3, .int (iI (stp)))]) hx hb d_PA_tabWidth_78 hl (by decide) rfl (fun ls hl => ?_)
        refine lv_goto (tgt := 97) hx hb d_PA_tabWidth_80 (by decide) ?_
        refine z_iconst hx hb (z := 0) d_PA_tabWidth_97 ?_
        refine lv_iload hx hb d_PA_tabWidth_98 (lv_at hl 0 rfl) ?_
        refine z_mmax hx hb (hml.trans hl.1.symm) hown (hg _ (List.mem_append_right _ (List.mem_append_right _ (List.mem_append_right _ (List.mem_append_right _ (List.mem_append_right _ (List.mem_append_right _ (List.mem_append_left _ (List.mem_of_getElem? (i := 22) rfl))))))))) (hg _ (List.mem_append_right _ (List.mem_append_right _ (List.mem_append_right _ (List.mem_append_right _ (List.mem_append_right _ (List.mem_append_left _ (List.mem_of_getElem? (i := 28) rfl)))))))) (hg _ (List.mem_append_right _ (List.mem_append_left _ (List.mem_of_getElem? (i := 17) rfl)))) (hg _ (List.mem_append_right _ (List.mem_append_right _ (List.mem_append_right _ (List.mem_append_right _ (List.mem_append_right _ (List.mem_append_left _ (List.mem_of_getElem? (i := 29) rfl)))))))) (Nat.le_of_ble_eq_true rfl) (Nat.le_of_ble_eq_true rfl) (Nat.zero_le _) (Nat.zero_le _) ⟨by decide, by decide⟩ ⟨by omega, by omega⟩ d_PA_tabWidth_100 (v := max (0) (((p_step (max (x) (la)) stp - x) - wd))) rfl ?_
        exact W.iret (v := iI (max (0) (((p_step (max (x) (la)) stp - x) - wd)))) hx hb hr (fun t ht hW => ⟨_, rfl, by unfold p_tab p_at p_knd; rw [← how, ← hla, ← hps]; repeat' (first | rfl | (exfalso; omega) | split), ht⟩) (fun q h => by cases h) d_PA_tabWidth_103
    · refine lv_aload_n hx hb d_PA_tabWidth_49 rfl (lv_at hl 2 rfl) ?_
      refine z_get (ci := 6) (C := R_PA) (T := T_PA) (N := 6) (v := .ref (ad (32 + 4 * i))) hx hb hg in_PA hown hK hP (29 + 4 * i) (by omega) (pg_par _ _ _ _ _) rfl 2 (by decide) (hg _ (List.mem_append_right _ (List.mem_append_right _ (List.mem_append_left _ (List.mem_of_getElem? (i := 2) rfl))))) (fun _ h9 => h9) rfl d_PA_tabWidth_50 ?_
      refine lv_iload hx hb d_PA_tabWidth_53 (lv_at hl 1 rfl) ?_
      refine z_iald hx hb hK hP (32 + 4 * i) 0 (by omega) (fun r => pg_knd _ _ _ _ r) rfl (ow) rfl (by omega) (by decide) d_PA_tabWidth_55 ?_
      refine lv_goto (tgt := 60) hx hb d_PA_tabWidth_56 (by decide) ?_
      refine lv_istore (lv' := [(6, .int (iI (M (32 + 4 * i) (ow)))), (5, .int (iI (p_step (max (x) (la)) stp))), (4, .int (iI (((ow : Nat) : Int)))), (0, .ref (ad (29 + 4 * i))), (1, .int (iI (x))), (2, .int (iI (wd))), (3, .int (iI (stp)))]) hx hb d_PA_tabWidth_60 hl (by decide) rfl (fun ls hl => ?_)
      refine lv_iload hx hb d_PA_tabWidth_62 (lv_at hl 1 rfl) ?_
      refine lv_iload_n hx hb d_PA_tabWidth_64 rfl (lv_at hl 4 rfl) ?_
      refine z_isub hx hb d_PA_tabWidth_65 (v := (p_step (max (x) (la)) stp - x)) rfl ?_
      refine lv_istore (lv' := [(7, .int (iI ((p_step (max (x) (la)) stp - x)))), (6, .int (iI (M (32 + 4 * i) (ow)))), (5, .int (iI (p_step (max (x) (la)) stp))), (4, .int (iI (((ow : Nat) : Int)))), (0, .ref (ad (29 + 4 * i))), (1, .int (iI (x))), (2, .int (iI (wd))), (3, .int (iI (stp)))]) hx hb d_PA_tabWidth_66 hl (by decide) rfl (fun ls hl => ?_)
      refine lv_iload hx hb d_PA_tabWidth_68 (lv_at hl 1 rfl) ?_
      refine z_iconst hx hb (z := 1) d_PA_tabWidth_70 ?_
      refine z_icmp_ne hx hb (tgt := 83) d_PA_tabWidth_71 (by decide) (by first | exact hko | exact ⟨by omega, by omega⟩) ⟨by decide, by decide⟩ (fun c_71 => ?_) (fun c_71 => ?_)
      · refine lv_iload hx hb d_PA_tabWidth_83 (lv_at hl 1 rfl) ?_
        refine z_iconst hx hb (z := 2) d_PA_tabWidth_85 ?_
        refine z_icmp_ne hx hb (tgt := 97) d_PA_tabWidth_86 (by decide) (by first | exact hko | exact ⟨by omega, by omega⟩) ⟨by decide, by decide⟩ (fun c_86 => ?_) (fun c_86 => ?_)
        · refine z_iconst hx hb (z := 0) d_PA_tabWidth_97 ?_
          refine lv_iload hx hb d_PA_tabWidth_98 (lv_at hl 0 rfl) ?_
          refine z_mmax hx hb (hml.trans hl.1.symm) hown (hg _ (List.mem_append_right _ (List.mem_append_right _ (List.mem_append_right _ (List.mem_append_right _ (List.mem_append_right _ (List.mem_append_right _ (List.mem_append_left _ (List.mem_of_getElem? (i := 22) rfl))))))))) (hg _ (List.mem_append_right _ (List.mem_append_right _ (List.mem_append_right _ (List.mem_append_right _ (List.mem_append_right _ (List.mem_append_left _ (List.mem_of_getElem? (i := 28) rfl)))))))) (hg _ (List.mem_append_right _ (List.mem_append_left _ (List.mem_of_getElem? (i := 17) rfl)))) (hg _ (List.mem_append_right _ (List.mem_append_right _ (List.mem_append_right _ (List.mem_append_right _ (List.mem_append_right _ (List.mem_append_left _ (List.mem_of_getElem? (i := 29) rfl)))))))) (Nat.le_of_ble_eq_true rfl) (Nat.le_of_ble_eq_true rfl) (Nat.zero_le _) (Nat.zero_le _) ⟨by decide, by decide⟩ ⟨by omega, by omega⟩ d_PA_tabWidth_100 (v := max (0) ((p_step (max (x) (la)) stp - x))) rfl ?_
          exact W.iret (v := iI (max (0) ((p_step (max (x) (la)) stp - x)))) hx hb hr (fun t ht hW => ⟨_, rfl, by unfold p_tab p_at p_knd; rw [← how, ← hla, ← hps]; repeat' (first | rfl | (exfalso; omega) | split), ht⟩) (fun q h => by cases h) d_PA_tabWidth_103
        · refine lv_iload hx hb d_PA_tabWidth_89 (lv_at hl 0 rfl) ?_
          refine lv_iload_n hx hb d_PA_tabWidth_91 rfl (lv_at hl 6 rfl) ?_
          refine z_iconst hx hb (z := 2) d_PA_tabWidth_92 ?_
          refine z_idiv hx hb d_PA_tabWidth_93 ⟨by omega, by omega⟩ ⟨by decide, by decide⟩ (by omega) (v := ((wd).tdiv (2))) rfl ?_
          refine z_isub hx hb d_PA_tabWidth_94 (v := ((p_step (max (x) (la)) stp - x) - ((wd).tdiv (2)))) rfl ?_
          refine lv_istore (lv' := [(7, .int (iI (((p_step (max (x) (la)) stp - x) - ((wd).tdiv (2)))))), (6, .int (iI (M (32 + 4 * i) (ow)))), (5, .int (iI (p_step (max (x) (la)) stp))), (4, .int (iI (((ow : Nat) : Int)))), (0, .ref (ad (29 + 4 * i))), (1, .int (iI (x))), (2, .int (iI (wd))), (3, .int (iI (stp)))]) hx hb d_PA_tabWidth_95 hl (by decide) rfl (fun ls hl => ?_)
          refine z_iconst hx hb (z := 0) d_PA_tabWidth_97 ?_
          refine lv_iload hx hb d_PA_tabWidth_98 (lv_at hl 0 rfl) ?_
          refine z_mmax hx hb (hml.trans hl.1.symm) hown (hg _ (List.mem_append_right _ (List.mem_append_right _ (List.mem_append_right _ (List.mem_append_right _ (List.mem_append_right _ (List.mem_append_right _ (List.mem_append_left _ (List.mem_of_getElem? (i := 22) rfl))))))))) (hg _ (List.mem_append_right _ (List.mem_append_right _ (List.mem_append_right _ (List.mem_append_right _ (List.mem_append_right _ (List.mem_append_left _ (List.mem_of_getElem? (i := 28) rfl)))))))) (hg _ (List.mem_append_right _ (List.mem_append_left _ (List.mem_of_getElem? (i := 17) rfl)))) (hg _ (List.mem_append_right _ (List.mem_append_right _ (List.mem_append_right _ (List.mem_append_right _ (List.mem_append_right _ (List.mem_append_left _ (List.mem_of_getElem? (i := 29) rfl)))))))) (Nat.le_of_ble_eq_true rfl) (Nat.le_of_ble_eq_true rfl) (Nat.zero_le _) (Nat.zero_le _) ⟨by decide, by decide⟩ ⟨by omega, by omega⟩ d_PA_tabWidth_100 (v := max (0) (((p_step (max (x) (la)) stp - x) - ((wd).tdiv (2))))) rfl ?_
          exact W.iret (v := iI (max (0) (((p_step (max (x) (la)) stp - x) - ((wd).tdiv (2)))))) hx hb hr (fun t ht hW => ⟨_, rfl, by unfold p_tab p_at p_knd; rw [← how, ← hla, ← hps]; repeat' (first | rfl | (exfalso; omega) | split), ht⟩) (fun q h => by cases h) d_PA_tabWidth_103
      · refine lv_iload hx hb d_PA_tabWidth_74 (lv_at hl 0 rfl) ?_
        refine lv_iload_n hx hb d_PA_tabWidth_76 rfl (lv_at hl 6 rfl) ?_
        refine z_isub hx hb d_PA_tabWidth_77 (v := ((p_step (max (x) (la)) stp - x) - wd)) rfl ?_
        refine lv_istore (lv' := [(7, .int (iI (((p_step (max (x) (la)) stp - x) - wd)))), (6, .int (iI (M (32 + 4 * i) (ow)))), (5, .int (iI (p_step (max (x) (la)) stp))), (4, .int (iI (((ow : Nat) : Int)))), (0, .ref (ad (29 + 4 * i))), (1, .int (iI (x))), (2, .int (iI (wd))), (3, .int (iI (stp)))]) hx hb d_PA_tabWidth_78 hl (by decide) rfl (fun ls hl => ?_)
        refine lv_goto (tgt := 97) hx hb d_PA_tabWidth_80 (by decide) ?_
        refine z_iconst hx hb (z := 0) d_PA_tabWidth_97 ?_
        refine lv_iload hx hb d_PA_tabWidth_98 (lv_at hl 0 rfl) ?_
        refine z_mmax hx hb (hml.trans hl.1.symm) hown (hg _ (List.mem_append_right _ (List.mem_append_right _ (List.mem_append_right _ (List.mem_append_right _ (List.mem_append_right _ (List.mem_append_right _ (List.mem_append_left _ (List.mem_of_getElem? (i := 22) rfl))))))))) (hg _ (List.mem_append_right _ (List.mem_append_right _ (List.mem_append_right _ (List.mem_append_right _ (List.mem_append_right _ (List.mem_append_left _ (List.mem_of_getElem? (i := 28) rfl)))))))) (hg _ (List.mem_append_right _ (List.mem_append_left _ (List.mem_of_getElem? (i := 17) rfl)))) (hg _ (List.mem_append_right _ (List.mem_append_right _ (List.mem_append_right _ (List.mem_append_right _ (List.mem_append_right _ (List.mem_append_left _ (List.mem_of_getElem? (i := 29) rfl)))))))) (Nat.le_of_ble_eq_true rfl) (Nat.le_of_ble_eq_true rfl) (Nat.zero_le _) (Nat.zero_le _) ⟨by decide, by decide⟩ ⟨by omega, by omega⟩ d_PA_tabWidth_100 (v := max (0) (((p_step (max (x) (la)) stp - x) - wd))) rfl ?_
        exact W.iret (v := iI (max (0) (((p_step (max (x) (la)) stp - x) - wd)))) hx hb hr (fun t ht hW => ⟨_, rfl, by unfold p_tab p_at p_knd; rw [← how, ← hla, ← hps]; repeat' (first | rfl | (exfalso; omega) | split), ht⟩) (fun q h => by cases h) d_PA_tabWidth_103
  · refine lv_aload_n hx hb d_PA_tabWidth_16 rfl (lv_at hl 1 rfl) ?_
    refine z_get (ci := 6) (C := R_PA) (T := T_PA) (N := 6) (v := .ref (ad (31 + 4 * i))) hx hb hg in_PA hown hK hP (29 + 4 * i) (by omega) (pg_par _ _ _ _ _) rfl 1 (by decide) (hg _ (List.mem_append_right _ (List.mem_append_right _ (List.mem_append_left _ (List.mem_of_getElem? (i := 1) rfl))))) (fun _ h9 => h9) rfl d_PA_tabWidth_17 ?_
    refine lv_iload hx hb d_PA_tabWidth_20 (lv_at hl 0 rfl) ?_
    refine z_iald hx hb hK hP (31 + 4 * i) 0 (by omega) (fun r => pg_plc _ _ _ _ r) rfl (ow) rfl (by omega) (by decide) d_PA_tabWidth_22 ?_
    refine lv_goto (tgt := 38) hx hb d_PA_tabWidth_23 (by decide) ?_
    refine lv_istore (lv' := [(5, .int (iI (M (31 + 4 * i) (ow)))), (4, .int (iI (((ow : Nat) : Int)))), (0, .ref (ad (29 + 4 * i))), (1, .int (iI (x))), (2, .int (iI (wd))), (3, .int (iI (stp)))]) hx hb d_PA_tabWidth_38 hl (by decide) rfl (fun ls hl => ?_)
    refine lv_iload hx hb d_PA_tabWidth_40 (lv_at hl 1 rfl) ?_
    refine lv_aload_n hx hb d_PA_tabWidth_42 rfl (lv_at hl 2 rfl) ?_
    refine z_get (ci := 6) (C := R_PA) (T := T_PA) (N := 6) (v := .int (iI (M (29 + 4 * i) 3))) hx hb hg in_PA hown hK hP (29 + 4 * i) (by omega) (pg_par _ _ _ _ _) rfl 3 (by decide) (hg _ (List.mem_append_right _ (List.mem_append_right _ (List.mem_append_left _ (List.mem_of_getElem? (i := 3) rfl))))) (fun _ h9 => h9) rfl d_PA_tabWidth_43 ?_
    refine z_icmp_ge hx hb (tgt := 59) d_PA_tabWidth_46 (by decide) ⟨by omega, by omega⟩ ⟨by omega, by omega⟩ (fun c_46 => ?_) (fun c_46 => ?_)
    · refine z_iconst hx hb (z := 0) d_PA_tabWidth_59 ?_
      refine lv_istore (lv' := [(6, .int (iI (0))), (5, .int (iI (M (31 + 4 * i) (ow)))), (4, .int (iI (((ow : Nat) : Int)))), (0, .ref (ad (29 + 4 * i))), (1, .int (iI (x))), (2, .int (iI (wd))), (3, .int (iI (stp)))]) hx hb d_PA_tabWidth_60 hl (by decide) rfl (fun ls hl => ?_)
      refine lv_iload hx hb d_PA_tabWidth_62 (lv_at hl 1 rfl) ?_
      refine lv_iload_n hx hb d_PA_tabWidth_64 rfl (lv_at hl 4 rfl) ?_
      refine z_isub hx hb d_PA_tabWidth_65 (v := (M (31 + 4 * i) (ow) - x)) rfl ?_
      refine lv_istore (lv' := [(7, .int (iI ((M (31 + 4 * i) (ow) - x)))), (6, .int (iI (0))), (5, .int (iI (M (31 + 4 * i) (ow)))), (4, .int (iI (((ow : Nat) : Int)))), (0, .ref (ad (29 + 4 * i))), (1, .int (iI (x))), (2, .int (iI (wd))), (3, .int (iI (stp)))]) hx hb d_PA_tabWidth_66 hl (by decide) rfl (fun ls hl => ?_)
      refine lv_iload hx hb d_PA_tabWidth_68 (lv_at hl 1 rfl) ?_
      refine z_iconst hx hb (z := 1) d_PA_tabWidth_70 ?_
      refine z_icmp_ne hx hb (tgt := 83) d_PA_tabWidth_71 (by decide) (by first | exact hko | exact ⟨by omega, by omega⟩) ⟨by decide, by decide⟩ (fun c_71 => ?_) (fun c_71 => ?_)
      · refine lv_iload hx hb d_PA_tabWidth_83 (lv_at hl 1 rfl) ?_
        refine z_iconst hx hb (z := 2) d_PA_tabWidth_85 ?_
        refine z_icmp_ne hx hb (tgt := 97) d_PA_tabWidth_86 (by decide) (by first | exact hko | exact ⟨by omega, by omega⟩) ⟨by decide, by decide⟩ (fun c_86 => ?_) (fun c_86 => ?_)
        · refine z_iconst hx hb (z := 0) d_PA_tabWidth_97 ?_
          refine lv_iload hx hb d_PA_tabWidth_98 (lv_at hl 0 rfl) ?_
          refine z_mmax hx hb (hml.trans hl.1.symm) hown (hg _ (List.mem_append_right _ (List.mem_append_right _ (List.mem_append_right _ (List.mem_append_right _ (List.mem_append_right _ (List.mem_append_right _ (List.mem_append_left _ (List.mem_of_getElem? (i := 22) rfl))))))))) (hg _ (List.mem_append_right _ (List.mem_append_right _ (List.mem_append_right _ (List.mem_append_right _ (List.mem_append_right _ (List.mem_append_left _ (List.mem_of_getElem? (i := 28) rfl)))))))) (hg _ (List.mem_append_right _ (List.mem_append_left _ (List.mem_of_getElem? (i := 17) rfl)))) (hg _ (List.mem_append_right _ (List.mem_append_right _ (List.mem_append_right _ (List.mem_append_right _ (List.mem_append_right _ (List.mem_append_left _ (List.mem_of_getElem? (i := 29) rfl)))))))) (Nat.le_of_ble_eq_true rfl) (Nat.le_of_ble_eq_true rfl) (Nat.zero_le _) (Nat.zero_le _) ⟨by decide, by decide⟩ ⟨by omega, by omega⟩ d_PA_tabWidth_100 (v := max (0) ((M (31 + 4 * i) (ow) - x))) rfl ?_
          exact W.iret (v := iI (max (0) ((M (31 + 4 * i) (ow) - x)))) hx hb hr (fun t ht hW => ⟨_, rfl, by unfold p_tab p_at p_knd; rw [← how, ← hla, ← hps]; repeat' (first | rfl | (exfalso; omega) | split), ht⟩) (fun q h => by cases h) d_PA_tabWidth_103
        · refine lv_iload hx hb d_PA_tabWidth_89 (lv_at hl 0 rfl) ?_
          refine lv_iload_n hx hb d_PA_tabWidth_91 rfl (lv_at hl 6 rfl) ?_
          refine z_iconst hx hb (z := 2) d_PA_tabWidth_92 ?_
          refine z_idiv hx hb d_PA_tabWidth_93 ⟨by omega, by omega⟩ ⟨by decide, by decide⟩ (by omega) (v := ((wd).tdiv (2))) rfl ?_
          refine z_isub hx hb d_PA_tabWidth_94 (v := ((M (31 + 4 * i) (ow) - x) - ((wd).tdiv (2)))) rfl ?_
          refine lv_istore (lv' := [(7, .int (iI (((M (31 + 4 * i) (ow) - x) - ((wd).tdiv (2)))))), (6, .int (iI (0))), (5, .int (iI (M (31 + 4 * i) (ow)))), (4, .int (iI (((ow : Nat) : Int)))), (0, .ref (ad (29 + 4 * i))), (1, .int (iI (x))), (2, .int (iI (wd))), (3, .int (iI (stp)))]) hx hb d_PA_tabWidth_95 hl (by decide) rfl (fun ls hl => ?_)
          refine z_iconst hx hb (z := 0) d_PA_tabWidth_97 ?_
          refine lv_iload hx hb d_PA_tabWidth_98 (lv_at hl 0 rfl) ?_
          refine z_mmax hx hb (hml.trans hl.1.symm) hown (hg _ (List.mem_append_right _ (List.mem_append_right _ (List.mem_append_right _ (List.mem_append_right _ (List.mem_append_right _ (List.mem_append_right _ (List.mem_append_left _ (List.mem_of_getElem? (i := 22) rfl))))))))) (hg _ (List.mem_append_right _ (List.mem_append_right _ (List.mem_append_right _ (List.mem_append_right _ (List.mem_append_right _ (List.mem_append_left _ (List.mem_of_getElem? (i := 28) rfl)))))))) (hg _ (List.mem_append_right _ (List.mem_append_left _ (List.mem_of_getElem? (i := 17) rfl)))) (hg _ (List.mem_append_right _ (List.mem_append_right _ (List.mem_append_right _ (List.mem_append_right _ (List.mem_append_right _ (List.mem_append_left _ (List.mem_of_getElem? (i := 29) rfl)))))))) (Nat.le_of_ble_eq_true rfl) (Nat.le_of_ble_eq_true rfl) (Nat.zero_le _) (Nat.zero_le _) ⟨by decide, by decide⟩ ⟨by omega, by omega⟩ d_PA_tabWidth_100 (v := max (0) (((M (31 + 4 * i) (ow) - x) - ((wd).tdiv (2))))) rfl ?_
          exact W.iret (v := iI (max (0) (((M (31 + 4 * i) (ow) - x) - ((wd).tdiv (2)))))) hx hb hr (fun t ht hW => ⟨_, rfl, by unfold p_tab p_at p_knd; rw [← how, ← hla, ← hps]; repeat' (first | rfl | (exfalso; omega) | split), ht⟩) (fun q h => by cases h) d_PA_tabWidth_103
      · refine lv_iload hx hb d_PA_tabWidth_74 (lv_at hl 0 rfl) ?_
        refine lv_iload_n hx hb d_PA_tabWidth_76 rfl (lv_at hl 6 rfl) ?_
        refine z_isub hx hb d_PA_tabWidth_77 (v := ((M (31 + 4 * i) (ow) - x) - wd)) rfl ?_
        refine lv_istore (lv' := [(7, .int (iI (((M (31 + 4 * i) (ow) - x) - wd)))), (6, .int (iI (0))), (5, .int (iI (M (31 + 4 * i) (ow)))), (4, .int (iI (((ow : Nat) : Int)))), (0, .ref (ad (29 + 4 * i))), (1, .int (iI (x))), (2, .int (iI (wd))), (3, .int (iI (stp)))]) hx hb d_PA_tabWidth_78 hl (by decide) rfl (fun ls hl => ?_)
        refine lv_goto (tgt := 97) hx hb d_PA_tabWidth_80 (by decide) ?_
        refine z_iconst hx hb (z := 0) d_PA_tabWidth_97 ?_
        refine lv_iload hx hb d_PA_tabWidth_98 (lv_at hl 0 rfl) ?_
        refine z_mmax hx hb (hml.trans hl.1.symm) hown (hg _ (List.mem_append_right _ (List.mem_append_right _ (List.mem_append_right _ (List.mem_append_right _ (List.mem_append_right _ (List.mem_append_right _ (List.mem_append_left _ (List.mem_of_getElem? (i := 22) rfl))))))))) (hg _ (List.mem_append_right _ (List.mem_append_right _ (List.mem_append_right _ (List.mem_append_right _ (List.mem_append_right _ (List.mem_append_left _ (List.mem_of_getElem? (i := 28) rfl)))))))) (hg _ (List.mem_append_right _ (List.mem_append_left _ (List.mem_of_getElem? (i := 17) rfl)))) (hg _ (List.mem_append_right _ (List.mem_append_right _ (List.mem_append_right _ (List.mem_append_right _ (List.mem_append_right _ (List.mem_append_left _ (List.mem_of_getElem? (i := 29) rfl)))))))) (Nat.le_of_ble_eq_true rfl) (Nat.le_of_ble_eq_true rfl) (Nat.zero_le _) (Nat.zero_le _) ⟨by decide, by decide⟩ ⟨by omega, by omega⟩ d_PA_tabWidth_100 (v := max (0) (((M (31 + 4 * i) (ow) - x) - wd))) rfl ?_
        exact W.iret (v := iI (max (0) (((M (31 + 4 * i) (ow) - x) - wd)))) hx hb hr (fun t ht hW => ⟨_, rfl, by unfold p_tab p_at p_knd; rw [← how, ← hla, ← hps]; repeat' (first | rfl | (exfalso; omega) | split), ht⟩) (fun q h => by cases h) d_PA_tabWidth_103
    · refine lv_aload_n hx hb d_PA_tabWidth_49 rfl (lv_at hl 2 rfl) ?_
      refine z_get (ci := 6) (C := R_PA) (T := T_PA) (N := 6) (v := .ref (ad (32 + 4 * i))) hx hb hg in_PA hown hK hP (29 + 4 * i) (by omega) (pg_par _ _ _ _ _) rfl 2 (by decide) (hg _ (List.mem_append_right _ (List.mem_append_right _ (List.mem_append_left _ (List.mem_of_getElem? (i := 2) rfl))))) (fun _ h9 => h9) rfl d_PA_tabWidth_50 ?_
      refine lv_iload hx hb d_PA_tabWidth_53 (lv_at hl 1 rfl) ?_
      refine z_iald hx hb hK hP (32 + 4 * i) 0 (by omega) (fun r => pg_knd _ _ _ _ r) rfl (ow) rfl (by omega) (by decide) d_PA_tabWidth_55 ?_
      refine lv_goto (tgt := 60) hx hb d_PA_tabWidth_56 (by decide) ?_
      refine lv_istore (lv' := [(6, .int (iI (M (32 + 4 * i) (ow)))), (5, .int (iI (M (31 + 4 * i) (ow)))), (4, .int (iI (((ow : Nat) : Int)))), (0, .ref (ad (29 + 4 * i))), (1, .int (iI (x))), (2, .int (iI (wd))), (3, .int (iI (stp)))]) hx hb d_PA_tabWidth_60 hl (by decide) rfl (fun ls hl => ?_)
      refine lv_iload hx hb d_PA_tabWidth_62 (lv_at hl 1 rfl) ?_
      refine lv_iload_n hx hb d_PA_tabWidth_64 rfl (lv_at hl 4 rfl) ?_
      refine z_isub hx hb d_PA_tabWidth_65 (v := (M (31 + 4 * i) (ow) - x)) rfl ?_
      refine lv_istore (lv' := [(7, .int (iI ((M (31 + 4 * i) (ow) - x)))), (6, .int (iI (M (32 + 4 * i) (ow)))), (5, .int (iI (M (31 + 4 * i) (ow)))), (4, .int (iI (((ow : Nat) : Int)))), (0, .ref (ad (29 + 4 * i))), (1, .int (iI (x))), (2, .int (iI (wd))), (3, .int (iI (stp)))]) hx hb d_PA_tabWidth_66 hl (by decide) rfl (fun ls hl => ?_)
      refine lv_iload hx hb d_PA_tabWidth_68 (lv_at hl 1 rfl) ?_
      refine z_iconst hx hb (z := 1) d_PA_tabWidth_70 ?_
      refine z_icmp_ne hx hb (tgt := 83) d_PA_tabWidth_71 (by decide) (by first | exact hko | exact ⟨by omega, by omega⟩) ⟨by decide, by decide⟩ (fun c_71 => ?_) (fun c_71 => ?_)
      · refine lv_iload hx hb d_PA_tabWidth_83 (lv_at hl 1 rfl) ?_
        refine z_iconst hx hb (z := 2) d_PA_tabWidth_85 ?_
        refine z_icmp_ne hx hb (tgt := 97) d_PA_tabWidth_86 (by decide) (by first | exact hko | exact ⟨by omega, by omega⟩) ⟨by decide, by decide⟩ (fun c_86 => ?_) (fun c_86 => ?_)
        · refine z_iconst hx hb (z := 0) d_PA_tabWidth_97 ?_
          refine lv_iload hx hb d_PA_tabWidth_98 (lv_at hl 0 rfl) ?_
          refine z_mmax hx hb (hml.trans hl.1.symm) hown (hg _ (List.mem_append_right _ (List.mem_append_right _ (List.mem_append_right _ (List.mem_append_right _ (List.mem_append_right _ (List.mem_append_right _ (List.mem_append_left _ (List.mem_of_getElem? (i := 22) rfl))))))))) (hg _ (List.mem_append_right _ (List.mem_append_right _ (List.mem_append_right _ (List.mem_append_right _ (List.mem_append_right _ (List.mem_append_left _ (List.mem_of_getElem? (i := 28) rfl)))))))) (hg _ (List.mem_append_right _ (List.mem_append_left _ (List.mem_of_getElem? (i := 17) rfl)))) (hg _ (List.mem_append_right _ (List.mem_append_right _ (List.mem_append_right _ (List.mem_append_right _ (List.mem_append_right _ (List.mem_append_left _ (List.mem_of_getElem? (i := 29) rfl)))))))) (Nat.le_of_ble_eq_true rfl) (Nat.le_of_ble_eq_true rfl) (Nat.zero_le _) (Nat.zero_le _) ⟨by decide, by decide⟩ ⟨by omega, by omega⟩ d_PA_tabWidth_100 (v := max (0) ((M (31 + 4 * i) (ow) - x))) rfl ?_
          exact W.iret (v := iI (max (0) ((M (31 + 4 * i) (ow) - x)))) hx hb hr (fun t ht hW => ⟨_, rfl, by unfold p_tab p_at p_knd; rw [← how, ← hla, ← hps]; repeat' (first | rfl | (exfalso; omega) | split), ht⟩) (fun q h => by cases h) d_PA_tabWidth_103
        · refine lv_iload hx hb d_PA_tabWidth_89 (lv_at hl 0 rfl) ?_
          refine lv_iload_n hx hb d_PA_tabWidth_91 rfl (lv_at hl 6 rfl) ?_
          refine z_iconst hx hb (z := 2) d_PA_tabWidth_92 ?_
          refine z_idiv hx hb d_PA_tabWidth_93 ⟨by omega, by omega⟩ ⟨by decide, by decide⟩ (by omega) (v := ((wd).tdiv (2))) rfl ?_
          refine z_isub hx hb d_PA_tabWidth_94 (v := ((M (31 + 4 * i) (ow) - x) - ((wd).tdiv (2)))) rfl ?_
          refine lv_istore (lv' := [(7, .int (iI (((M (31 + 4 * i) (ow) - x) - ((wd).tdiv (2)))))), (6, .int (iI (M (32 + 4 * i) (ow)))), (5, .int (iI (M (31 + 4 * i) (ow)))), (4, .int (iI (((ow : Nat) : Int)))), (0, .ref (ad (29 + 4 * i))), (1, .int (iI (x))), (2, .int (iI (wd))), (3, .int (iI (stp)))]) hx hb d_PA_tabWidth_95 hl (by decide) rfl (fun ls hl => ?_)
          refine z_iconst hx hb (z := 0) d_PA_tabWidth_97 ?_
          refine lv_iload hx hb d_PA_tabWidth_98 (lv_at hl 0 rfl) ?_
          refine z_mmax hx hb (hml.trans hl.1.symm) hown (hg _ (List.mem_append_right _ (List.mem_append_right _ (List.mem_append_right _ (List.mem_append_right _ (List.mem_append_right _ (List.mem_append_right _ (List.mem_append_left _ (List.mem_of_getElem? (i := 22) rfl))))))))) (hg _ (List.mem_append_right _ (List.mem_append_right _ (List.mem_append_right _ (List.mem_append_right _ (List.mem_append_right _ (List.mem_append_left _ (List.mem_of_getElem? (i := 28) rfl)))))))) (hg _ (List.mem_append_right _ (List.mem_append_left _ (List.mem_of_getElem? (i := 17) rfl)))) (hg _ (List.mem_append_right _ (List.mem_append_right _ (List.mem_append_right _ (List.mem_append_right _ (List.mem_append_right _ (List.mem_append_left _ (List.mem_of_getElem? (i := 29) rfl)))))))) (Nat.le_of_ble_eq_true rfl) (Nat.le_of_ble_eq_true rfl) (Nat.zero_le _) (Nat.zero_le _) ⟨by decide, by decide⟩ ⟨by omega, by omega⟩ d_PA_tabWidth_100 (v := max (0) (((M (31 + 4 * i) (ow) - x) - ((wd).tdiv (2))))) rfl ?_
          exact W.iret (v := iI (max (0) (((M (31 + 4 * i) (ow) - x) - ((wd).tdiv (2)))))) hx hb hr (fun t ht hW => ⟨_, rfl, by unfold p_tab p_at p_knd; rw [← how, ← hla, ← hps]; repeat' (first | rfl | (exfalso; omega) | split), ht⟩) (fun q h => by cases h) d_PA_tabWidth_103
      · refine lv_iload hx hb d_PA_tabWidth_74 (lv_at hl 0 rfl) ?_
        refine lv_iload_n hx hb d_PA_tabWidth_76 rfl (lv_at hl 6 rfl) ?_
        refine z_isub hx hb d_PA_tabWidth_77 (v := ((M (31 + 4 * i) (ow) - x) - wd)) rfl ?_
        refine lv_istore (lv' := [(7, .int (iI (((M (31 + 4 * i) (ow) - x) - wd)))), (6, .int (iI (M (32 + 4 * i) (ow)))), (5, .int (iI (M (31 + 4 * i) (ow)))), (4, .int (iI (((ow : Nat) : Int)))), (0, .ref (ad (29 + 4 * i))), (1, .int (iI (x))), (2, .int (iI (wd))), (3, .int (iI (stp)))]) hx hb d_PA_tabWidth_78 hl (by decide) rfl (fun ls hl => ?_)
        refine lv_goto (tgt := 97) hx hb d_PA_tabWidth_80 (by decide) ?_
        refine z_iconst hx hb (z := 0) d_PA_tabWidth_97 ?_
        refine lv_iload hx hb d_PA_tabWidth_98 (lv_at hl 0 rfl) ?_
        refine z_mmax hx hb (hml.trans hl.1.symm) hown (hg _ (List.mem_append_right _ (List.mem_append_right _ (List.mem_append_right _ (List.mem_append_right _ (List.mem_append_right _ (List.mem_append_right _ (List.mem_append_left _ (List.mem_of_getElem? (i := 22) rfl))))))))) (hg _ (List.mem_append_right _ (List.mem_append_right _ (List.mem_append_right _ (List.mem_append_right _ (List.mem_append_right _ (List.mem_append_left _ (List.mem_of_getElem? (i := 28) rfl)))))))) (hg _ (List.mem_append_right _ (List.mem_append_left _ (List.mem_of_getElem? (i := 17) rfl)))) (hg _ (List.mem_append_right _ (List.mem_append_right _ (List.mem_append_right _ (List.mem_append_right _ (List.mem_append_right _ (List.mem_append_left _ (List.mem_of_getElem? (i := 29) rfl)))))))) (Nat.le_of_ble_eq_true rfl) (Nat.le_of_ble_eq_true rfl) (Nat.zero_le _) (Nat.zero_le _) ⟨by decide, by decide⟩ ⟨by omega, by omega⟩ d_PA_tabWidth_100 (v := max (0) (((M (31 + 4 * i) (ow) - x) - wd))) rfl ?_
        exact W.iret (v := iI (max (0) (((M (31 + 4 * i) (ow) - x) - wd)))) hx hb hr (fun t ht hW => ⟨_, rfl, by unfold p_tab p_at p_knd; rw [← how, ← hla, ← hps]; repeat' (first | rfl | (exfalso; omega) | split), ht⟩) (fun q h => by cases h) d_PA_tabWidth_103
set_option maxHeartbeats 4000000 in
set_option maxRecDepth 100000 in
/-- Text.endsLine -/
theorem c_endsLine (l : Launch) {D : va_G} {ad : Nat → Nat} {cs : pg_C} {rp : Option Nat} {M : Nat → Nat → Int} (k : Nat) (hk : k < 600) (hz : ∀ j, zb (M 7 j)) : Met l y_TX_endsLine ws_TX_endsLine ({ frames := 0, cells := 0, slots := 0, locals := 0 } : Room) (va_Pc [.ref (ad (1)), .int (iI (((k : Nat) : Int)))] (ro_B D vwCl (pg_tys cs) (pg_w ad cs rp M))) (vp_Si (fun r => r = iI (bz (p_endl (M 7) k) inferInstance))) 0 0 (fun _ => False) := by
  refine Met.ofW (cc := b_TX_endsLine) (maxL := 2) (ret := (some .boolean)) (by decide) rfl ?_
  intro p e s m args below meth c s₁ B hml hv
  obtain ⟨rfl, hP, hK⟩ := hv
  have hx := B.exec
  have hb := B.bytes
  have hr := B.returns
  have hts := atoms_spec (ws := ws_TX_endsLine) B.pre
  have hg : ∀ w ∈ gt, w.before _ s = true := fun w h => hts w (List.mem_cons_of_mem _ h)
  have hown : s.vm.findClass R_TX = some m.cls := findClass_of_methodNamed B.named
  have hlocks := B.notSynchronized
  have hl := lv_entry ([.ref (ad (1)), .int (iI (((k : Nat) : Int)))]) (n := 2) (Nat.le_of_ble_eq_true rfl)
  rw [lg_entry_eq]
  generalize (lg_sl ([.ref (ad (1)), .int (iI (((k : Nat) : Int)))]) ++ List.replicate (2 - (lg_sl ([.ref (ad (1)), .int (iI (((k : Nat) : Int)))])).length) Slot.unset).toArray = ls at hl ⊢
  have hl : lv_has ls 2 [(0, .ref (ad (1))), (1, .int (iI (((k : Nat) : Int))))] := hl
  refine lv_aload_n hx hb d_TX_endsLine_0 rfl (lv_at hl 0 rfl) ?_
  refine z_get (ci := 1) (C := R_TX) (T := T_TX) (N := 6) (v := .ref (ad (7))) hx hb hg in_TX hown hK hP (1) (by decide) rfl rfl 1 (by decide) (hg _ (List.mem_append_right _ (List.mem_append_right _ (List.mem_append_left _ (List.mem_of_getElem? (i := 20) rfl))))) (fun _ h9 => h9) rfl d_TX_endsLine_1 ?_
  refine lv_iload_n hx hb d_TX_endsLine_4 rfl (lv_at hl 1 rfl) ?_
  refine z_iald hx hb hK hP (7) 0 (by decide) (fun _ => rfl) rfl (k) rfl (by omega) (by decide) d_TX_endsLine_5 ?_
  refine z_iconst hx hb (z := 5) d_TX_endsLine_6 ?_
  refine z_icmp_eq hx hb (tgt := 21) d_TX_endsLine_7 (by decide) (hz _) ⟨by decide, by decide⟩ (fun c_7 => ?_) (fun c_7 => ?_)
  · refine z_iconst hx hb (z := 1) d_TX_endsLine_21 ?_
    refine lv_goto (tgt := 26) hx hb d_TX_endsLine_22 (by decide) ?_
    exact W.zret (v := iI (1)) hx hb hr (by first | rfl | decide) (fun t ht hW => ⟨_, rfl, by first | (rw [bz_t (by omega)]; done) | (rw [bz_f (by omega)]; done), ht⟩) (fun q h => by cases h) d_TX_endsLine_26
  · refine lv_aload_n hx hb d_TX_endsLine_10 rfl (lv_at hl 0 rfl) ?_
    refine z_get (ci := 1) (C := R_TX) (T := T_TX) (N := 6) (v := .ref (ad (7))) hx hb hg in_TX hown hK hP (1) (by decide) rfl rfl 1 (by decide) (hg _ (List.mem_append_right _ (List.mem_append_right _ (List.mem_append_left _ (List.mem_of_getElem? (i := 20) rfl))))) (fun _ h9 => h9) rfl d_TX_endsLine_11 ?_
    refine lv_iload_n hx hb d_TX_endsLine_14 rfl (lv_at hl 1 rfl) ?_
    refine z_iald hx hb hK hP (7) 0 (by decide) (fun _ => rfl) rfl (k) rfl (by omega) (by decide) d_TX_endsLine_15 ?_
    refine z_bipush hx hb (z := 6) d_TX_endsLine_16 (by decide) ?_
    refine z_icmp_ne hx hb (tgt := 25) d_TX_endsLine_18 (by decide) (hz _) ⟨by decide, by decide⟩ (fun c_18 => ?_) (fun c_18 => ?_)
    · refine z_iconst hx hb (z := 0) d_TX_endsLine_25 ?_
      exact W.zret (v := iI (0)) hx hb hr (by first | rfl | decide) (fun t ht hW => ⟨_, rfl, by first | (rw [bz_t (by omega)]; done) | (rw [bz_f (by omega)]; done), ht⟩) (fun q h => by cases h) d_TX_endsLine_26
    · refine z_iconst hx hb (z := 1) d_TX_endsLine_21 ?_
      refine lv_goto (tgt := 26) hx hb d_TX_endsLine_22 (by decide) ?_
      exact W.zret (v := iI (1)) hx hb hr (by first | rfl | decide) (fun t ht hW => ⟨_, rfl, by first | (rw [bz_t (by omega)]; done) | (rw [bz_f (by omega)]; done), ht⟩) (fun q h => by cases h) d_TX_endsLine_26
set_option maxHeartbeats 4000000 in
set_option maxRecDepth 100000 in
/-- Text.isBreakBehind -/
theorem c_isBreakBehind (l : Launch) {D : va_G} {ad : Nat → Nat} {cs : pg_C} {rp : Option Nat} {M : Nat → Nat → Int} (i b k : Nat) (hi : i < 30) (hk : k < 600) (hb6 : b ≤ 600) (hbe : M (29 + 4 * i) 5 = ((b : Nat) : Int)) (hz : ∀ j, zb (M 7 j)) : Met l y_TX_isBreakBehind ws_TX_isBreakBehind ({ frames := 1, cells := 0, slots := 0, locals := 21 } : Room) (va_Pc [.ref (ad (1)), .int (iI (((k : Nat) : Int))), .ref (ad (29 + 4 * i))] (ro_B D vwCl (pg_tys cs) (pg_w ad cs rp M))) (vp_Si (fun r => r = iI (bz (p_brk (M 7) b k) inferInstance))) 0 0 (fun _ => False) := by
  refine Met.ofW (cc := b_TX_isBreakBehind) (maxL := 3) (ret := (some .boolean)) (by decide) rfl ?_
  intro p e s m args below meth c s₁ B hml hv
  obtain ⟨rfl, hP, hK⟩ := hv
  have hx := B.exec
  have hb := B.bytes
  have hr := B.returns
  have hts := atoms_spec (ws := ws_TX_isBreakBehind) B.pre
  have hg : ∀ w ∈ gt, w.before _ s = true := fun w h => hts w (List.mem_cons_of_mem _ h)
  have hown : s.vm.findClass R_TX = some m.cls := findClass_of_methodNamed B.named
  have hlocks := B.notSynchronized
  have hl := lv_entry ([.ref (ad (1)), .int (iI (((k : Nat) : Int))), .ref (ad (29 + 4 * i))]) (n := 3) (Nat.le_of_ble_eq_true rfl)
  rw [lg_entry_eq]
  generalize (lg_sl ([.ref (ad (1)), .int (iI (((k : Nat) : Int))), .ref (ad (29 + 4 * i))]) ++ List.replicate (3 - (lg_sl ([.ref (ad (1)), .int (iI (((k : Nat) : Int))), .ref (ad (29 + 4 * i))])).length) Slot.unset).toArray = ls at hl ⊢
  have hl : lv_has ls 3 [(0, .ref (ad (1))), (1, .int (iI (((k : Nat) : Int)))), (2, .ref (ad (29 + 4 * i)))] := hl
  refine lv_iload_n hx hb d_TX_isBreakBehind_0 rfl (lv_at hl 1 rfl) ?_
  refine z_iconst hx hb (z := 1) d_TX_isBreakBehind_1 ?_
  refine z_iadd hx hb d_TX_isBreakBehind_2 (v := ((k + 1 : Nat) : Int)) (by omega) ?_
  refine lv_aload_n hx hb d_TX_isBreakBehind_3 rfl (lv_at hl 2 rfl) ?_
  refine z_get (ci := 6) (C := R_PA) (T := T_PA) (N := 6) (v := .int (iI (M (29 + 4 * i) 5))) hx hb hg in_PA hown hK hP (29 + 4 * i) (by omega) (pg_par _ _ _ _ _) rfl 5 (by decide) (hg _ (List.mem_append_right _ (List.mem_append_right _ (List.mem_append_left _ (List.mem_of_getElem? (i := 9) rfl))))) (fun _ h9 => h9) rfl d_TX_isBreakBehind_4 ?_
  refine z_icmp_ge hx hb (tgt := 22) d_TX_isBreakBehind_7 (by decide) ⟨by omega, by omega⟩ ⟨by omega, by omega⟩ (fun c_7 => ?_) (fun c_7 => ?_)
  · refine z_iconst hx hb (z := 1) d_TX_isBreakBehind_22 ?_
    exact W.zret (v := iI (1)) hx hb hr (by first | rfl | decide) (fun t ht hW => ⟨_, rfl, by first | (rw [bz_t (by omega)]; done) | (rw [bz_f (by omega)]; done), ht⟩) (fun q h => by cases h) d_TX_isBreakBehind_23
  · refine lv_aload_n hx hb d_TX_isBreakBehind_10 rfl (lv_at hl 0 rfl) ?_
    refine z_get (ci := 1) (C := R_TX) (T := T_TX) (N := 6) (v := .ref (ad (7))) hx hb hg in_TX hown hK hP (1) (by decide) rfl rfl 1 (by decide) (hg _ (List.mem_append_right _ (List.mem_append_right _ (List.mem_append_left _ (List.mem_of_getElem? (i := 20) rfl))))) (fun _ h9 => h9) rfl d_TX_isBreakBehind_11 ?_
    refine lv_iload_n hx hb d_TX_isBreakBehind_14 rfl (lv_at hl 1 rfl) ?_
    refine z_iconst hx hb (z := 1) d_TX_isBreakBehind_15 ?_
    refine z_iadd hx hb d_TX_isBreakBehind_16 (v := ((k + 1 : Nat) : Int)) (by omega) ?_
    refine z_iald hx hb hK hP (7) 0 (by decide) (fun _ => rfl) rfl (k + 1) rfl (by omega) (by decide) d_TX_isBreakBehind_17 ?_
    refine z_iconst hx hb (z := 2) d_TX_isBreakBehind_18 ?_
    refine z_icmp_ne hx hb (tgt := 24) d_TX_isBreakBehind_19 (by decide) (hz _) ⟨by decide, by decide⟩ (fun c_19 => ?_) (fun c_19 => ?_)
    · refine lv_aload_n hx hb d_TX_isBreakBehind_24 rfl (lv_at hl 0 rfl) ?_
      refine z_get (ci := 1) (C := R_TX) (T := T_TX) (N := 6) (v := .ref (ad (7))) hx hb hg in_TX hown hK hP (1) (by decide) rfl rfl 1 (by decide) (hg _ (List.mem_append_right _ (List.mem_append_right _ (List.mem_append_left _ (List.mem_of_getElem? (i := 20) rfl))))) (fun _ h9 => h9) rfl d_TX_isBreakBehind_25 ?_
      refine lv_iload_n hx hb d_TX_isBreakBehind_28 rfl (lv_at hl 1 rfl) ?_
      refine z_iald hx hb hK hP (7) 0 (by decide) (fun _ => rfl) rfl (k) rfl (by omega) (by decide) d_TX_isBreakBehind_29 ?_
      refine z_iconst hx hb (z := 1) d_TX_isBreakBehind_30 ?_
      refine z_icmp_eq hx hb (tgt := 62) d_TX_isBreakBehind_31 (by decide) (hz _) ⟨by decide, by decide⟩ (fun c_31 => ?_) (fun c_31 => ?_)
      · refine z_iconst hx hb (z := 1) d_TX_isBreakBehind_62 ?_
        refine lv_goto (tgt := 67) hx hb d_TX_isBreakBehind_63 (by decide) ?_
        exact W.zret (v := iI (1)) hx hb hr (by first | rfl | decide) (fun t ht hW => ⟨_, rfl, by first | (rw [bz_t (by omega)]; done) | (rw [bz_f (by omega)]; done), ht⟩) (fun q h => by cases h) d_TX_isBreakBehind_67
      · refine lv_aload_n hx hb d_TX_isBreakBehind_34 rfl (lv_at hl 0 rfl) ?_
        refine z_get (ci := 1) (C := R_TX) (T := T_TX) (N := 6) (v := .ref (ad (7))) hx hb hg in_TX hown hK hP (1) (by decide) rfl rfl 1 (by decide) (hg _ (List.mem_append_right _ (List.mem_append_right _ (List.mem_append_left _ (List.mem_of_getElem? (i := 20) rfl))))) (fun _ h9 => h9) rfl d_TX_isBreakBehind_35 ?_
        refine lv_iload_n hx hb d_TX_isBreakBehind_38 rfl (lv_at hl 1 rfl) ?_
        refine z_iald hx hb hK hP (7) 0 (by decide) (fun _ => rfl) rfl (k) rfl (by omega) (by decide) d_TX_isBreakBehind_39 ?_
        refine z_iconst hx hb (z := 3) d_TX_isBreakBehind_40 ?_
        refine z_icmp_eq hx hb (tgt := 62) d_TX_isBreakBehind_41 (by decide) (hz _) ⟨by decide, by decide⟩ (fun c_41 => ?_) (fun c_41 => ?_)
        · refine z_iconst hx hb (z := 1) d_TX_isBreakBehind_62 ?_
          refine lv_goto (tgt := 67) hx hb d_TX_isBreakBehind_63 (by decide) ?_
          exact W.zret (v := iI (1)) hx hb hr (by first | rfl | decide) (fun t ht hW => ⟨_, rfl, by first | (rw [bz_t (by omega)]; done) | (rw [bz_f (by omega)]; done), ht⟩) (fun q h => by cases h) d_TX_isBreakBehind_67
        · refine lv_aload_n hx hb d_TX_isBreakBehind_44 rfl (lv_at hl 0 rfl) ?_
          refine z_get (ci := 1) (C := R_TX) (T := T_TX) (N := 6) (v := .ref (ad (7))) hx hb hg in_TX hown hK hP (1) (by decide) rfl rfl 1 (by decide) (hg _ (List.mem_append_right _ (List.mem_append_right _ (List.mem_append_left _ (List.mem_of_getElem? (i := 20) rfl))))) (fun _ h9 => h9) rfl d_TX_isBreakBehind_45 ?_
          refine lv_iload_n hx hb d_TX_isBreakBehind_48 rfl (lv_at hl 1 rfl) ?_
          refine z_iald hx hb hK hP (7) 0 (by decide) (fun _ => rfl) rfl (k) rfl (by omega) (by decide) d_TX_isBreakBehind_49 ?_
          refine z_iconst hx hb (z := 4) d_TX_isBreakBehind_50 ?_
          refine z_icmp_eq hx hb (tgt := 62) d_TX_isBreakBehind_51 (by decide) (hz _) ⟨by decide, by decide⟩ (fun c_51 => ?_) (fun c_51 => ?_)
          · refine z_iconst hx hb (z := 1) d_TX_isBreakBehind_62 ?_
            refine lv_goto (tgt := 67) hx hb d_TX_isBreakBehind_63 (by decide) ?_
            exact W.zret (v := iI (1)) hx hb hr (by first | rfl | decide) (fun t ht hW => ⟨_, rfl, by first | (rw [bz_t (by omega)]; done) | (rw [bz_f (by omega)]; done), ht⟩) (fun q h => by cases h) d_TX_isBreakBehind_67
          · refine lv_aload_n hx hb d_TX_isBreakBehind_54 rfl (lv_at hl 0 rfl) ?_
            refine lv_iload_n hx hb d_TX_isBreakBehind_55 rfl (lv_at hl 1 rfl) ?_
            refine ro_V (As := [.int (iI (((k : Nat) : Int)))]) (rest := []) (z := bz (p_endl (M 7) (k)) inferInstance) ⟨hx, hb, hml, hown, hg⟩ (c_endsLine l (k) (by omega) hz) (cwV 1 hg (gt_V (List.mem_append_right _ (List.mem_append_right _ (List.mem_append_right _ (List.mem_append_right _ (List.mem_append_right _ (List.mem_append_left _ (List.mem_of_getElem? (i := 37) rfl))))))) (List.mem_append_right _ (List.mem_append_right _ (List.mem_append_right _ (List.mem_append_right _ (List.mem_append_right _ (List.mem_append_left _ (List.mem_of_getElem? (i := 38) rfl))))))) (List.mem_append_right _ (List.mem_append_right _ (List.mem_append_right _ (List.mem_append_right _ (List.mem_append_right _ (List.mem_append_left _ (List.mem_of_getElem? (i := 39) rfl))))))) (List.mem_append_right _ (List.mem_append_left _ (List.mem_of_getElem? (i := 3) rfl))) (List.mem_append_right _ (List.mem_append_right _ (List.mem_append_right _ (List.mem_append_right _ (List.mem_append_right _ (List.mem_append_right _ (List.mem_append_left _ (List.mem_of_getElem? (i := 0) rfl))))))))) rfl rfl rfl (by decide +kernel) ⟨Nat.le_of_ble_eq_true rfl, Nat.le_of_ble_eq_true rfl⟩) hK hP (va_recv hK hP (ci := 1) (q0 := 1) rfl (wl_atE (by decide) rfl)) rfl hl.1 rfl (Nat.le_of_ble_eq_true rfl) d_TX_isBreakBehind_56 ⟨Nat.zero_le _, Nat.zero_le _⟩ ?_
            refine z_ifb_eq hx hb (tgt := 66) d_TX_isBreakBehind_59 (by decide) (fun c_59 => ?_) (fun c_59 => ?_)
            · refine z_iconst hx hb (z := 0) d_TX_isBreakBehind_66 ?_
              exact W.zret (v := iI (0)) hx hb hr (by first | rfl | decide) (fun t ht hW => ⟨_, rfl, by first | (rw [bz_t (by omega)]; done) | (rw [bz_f (by omega)]; done), ht⟩) (fun q h => by cases h) d_TX_isBreakBehind_67
            · refine z_iconst hx hb (z := 1) d_TX_isBreakBehind_62 ?_
              refine lv_goto (tgt := 67) hx hb d_TX_isBreakBehind_63 (by decide) ?_
              exact W.zret (v := iI (1)) hx hb hr (by first | rfl | decide) (fun t ht hW => ⟨_, rfl, by first | (rw [bz_t (by omega)]; done) | (rw [bz_f (by omega)]; done), ht⟩) (fun q h => by cases h) d_TX_isBreakBehind_67
    · refine z_iconst hx hb (z := 1) d_TX_isBreakBehind_22 ?_
      exact W.zret (v := iI (1)) hx hb hr (by first | rfl | decide) (fun t ht hW => ⟨_, rfl, by first | (rw [bz_t (by omega)]; done) | (rw [bz_f (by omega)]; done), ht⟩) (fun q h => by cases h) d_TX_isBreakBehind_23
set_option maxHeartbeats 4000000 in
set_option maxRecDepth 100000 in
/-- Text.widthWithin -/
theorem c_widthWithin (l : Launch) {D : va_G} {ad : Nat → Nat} {cs : pg_C} {rp : Option Nat} {M : Nat → Nat → Int} (k : Nat) (la : Bool) (hk : k < 600) (hz : ∀ j, zb (M 7 j)) : Met l y_TX_widthWithin ws_TX_widthWithin ({ frames := 1, cells := 0, slots := 0, locals := 21 } : Room) (va_Pc [.ref (ad (1)), .int (iI (((k : Nat) : Int))), .int (iI (bz (la = true) inferInstance))] (ro_B D vwCl (pg_tys cs) (pg_w ad cs rp M))) (vp_Si (fun r => r = iI (p_wid (M 7) (M 8) k la))) 0 0 (fun _ => False) := by
  refine Met.ofW (cc := b_TX_widthWithin) (maxL := 3) (ret := (some .int)) (by decide) rfl ?_
  intro p e s m args below meth c s₁ B hml hv
  obtain ⟨rfl, hP, hK⟩ := hv
  have hx := B.exec
  have hb := B.bytes
  have hr := B.returns
  have hts := atoms_spec (ws := ws_TX_widthWithin) B.pre
  have hg : ∀ w ∈ gt, w.before _ s = true := fun w h => hts w (List.mem_cons_of_mem _ h)
  have hown : s.vm.findClass R_TX = some m.cls := findClass_of_methodNamed B.named
  have hlocks := B.notSynchronized
  have hl := lv_entry ([.ref (ad (1)), .int (iI (((k : Nat) : Int))), .int (iI (bz (la = true) inferInstance))]) (n := 3) (Nat.le_of_ble_eq_true rfl)
  rw [lg_entry_eq]
  generalize (lg_sl ([.ref (ad (1)), .int (iI (((k : Nat) : Int))), .int (iI (bz (la = true) inferInstance))]) ++ List.replicate (3 - (lg_sl ([.ref (ad (1)), .int (iI (((k : Nat) : Int))), .int (iI (bz (la = true) inferInstance))])).length) Slot.unset).toArray = ls at hl ⊢
  have hl : lv_has ls 3 [(0, .ref (ad (1))), (1, .int (iI (((k : Nat) : Int)))), (2, .int (iI (bz (la = true) inferInstance)))] := hl
  refine lv_aload_n hx hb d_TX_widthWithin_0 rfl (lv_at hl 0 rfl) ?_
  refine lv_iload_n hx hb d_TX_widthWithin_1 rfl (lv_at hl 1 rfl) ?_
  refine ro_V (As := [.int (iI (((k : Nat) : Int)))]) (rest := []) (z := bz (p_endl (M 7) (k)) inferInstance) ⟨hx, hb, hml, hown, hg⟩ (c_endsLine l (k) (by omega) hz) (cwV 1 hg (gt_V (List.mem_append_right _ (List.mem_append_right _ (List.mem_append_right _ (List.mem_append_right _ (List.mem_append_right _ (List.mem_append_left _ (List.mem_of_getElem? (i := 37) rfl))))))) (List.mem_append_right _ (List.mem_append_right _ (List.mem_append_right _ (List.mem_append_right _ (List.mem_append_right _ (List.mem_append_left _ (List.mem_of_getElem? (i := 38) rfl))))))) (List.mem_append_right _ (List.mem_append_right _ (List.mem_append_right _ (List.mem_append_right _ (List.mem_append_right _ (List.mem_append_left _ (List.mem_of_getElem? (i := 39) rfl))))))) (List.mem_append_right _ (List.mem_append_left _ (List.mem_of_getElem? (i := 3) rfl))) (List.mem_append_right _ (List.mem_append_right _ (List.mem_append_right _ (List.mem_append_right _ (List.mem_append_right _ (List.mem_append_right _ (List.mem_append_left _ (List.mem_of_getElem? (i := 0) rfl))))))))) rfl rfl rfl (by decide +kernel) ⟨Nat.le_of_ble_eq_true rfl, Nat.le_of_ble_eq_true rfl⟩) hK hP (va_recv hK hP (ci := 1) (q0 := 1) rfl (wl_atE (by decide) rfl)) rfl hl.1 rfl (Nat.le_of_ble_eq_true rfl) d_TX_widthWithin_2 ⟨Nat.zero_le _, Nat.zero_le _⟩ ?_
  refine z_ifb_ne hx hb (tgt := 22) d_TX_widthWithin_5 (by decide) (fun c_5 => ?_) (fun c_5 => ?_)
  · refine z_iconst hx hb (z := 0) d_TX_widthWithin_22 ?_
    exact W.iret (v := iI (0)) hx hb hr (fun t ht hW => ⟨_, rfl, by unfold p_wid; first | (rw [if_pos (by cases la <;> simp_all <;> omega)]; done) | (rw [if_neg (by cases la <;> simp_all <;> omega)]; done), ht⟩) (fun q h => by cases h) d_TX_widthWithin_23
  · refine lv_aload_n hx hb d_TX_widthWithin_8 rfl (lv_at hl 0 rfl) ?_
    refine z_get (ci := 1) (C := R_TX) (T := T_TX) (N := 6) (v := .ref (ad (7))) hx hb hg in_TX hown hK hP (1) (by decide) rfl rfl 1 (by decide) (hg _ (List.mem_append_right _ (List.mem_append_right _ (List.mem_append_left _ (List.mem_of_getElem? (i := 20) rfl))))) (fun _ h9 => h9) rfl d_TX_widthWithin_9 ?_
    refine lv_iload_n hx hb d_TX_widthWithin_12 rfl (lv_at hl 1 rfl) ?_
    refine z_iald hx hb hK hP (7) 0 (by decide) (fun _ => rfl) rfl (k) rfl (by omega) (by decide) d_TX_widthWithin_13 ?_
    refine z_iconst hx hb (z := 4) d_TX_widthWithin_14 ?_
    refine z_icmp_ne hx hb (tgt := 24) d_TX_widthWithin_15 (by decide) (hz _) ⟨by decide, by decide⟩ (fun c_15 => ?_) (fun c_15 => ?_)
    · refine lv_aload_n hx hb d_TX_widthWithin_24 rfl (lv_at hl 0 rfl) ?_
      refine z_get (ci := 1) (C := R_TX) (T := T_TX) (N := 6) (v := .ref (ad (8))) hx hb hg in_TX hown hK hP (1) (by decide) rfl rfl 2 (by decide) (hg _ (List.mem_append_right _ (List.mem_append_right _ (List.mem_append_left _ (List.mem_of_getElem? (i := 23) rfl))))) (fun _ h9 => h9) rfl d_TX_widthWithin_25 ?_
      refine lv_iload_n hx hb d_TX_widthWithin_28 rfl (lv_at hl 1 rfl) ?_
      refine z_iald hx hb hK hP (8) 0 (by decide) (fun _ => rfl) rfl (k) rfl (by omega) (by decide) d_TX_widthWithin_29 ?_
      exact W.iret (v := iI (M (8) (k))) hx hb hr (fun t ht hW => ⟨_, rfl, by unfold p_wid; first | (rw [if_pos (by cases la <;> simp_all <;> omega)]; done) | (rw [if_neg (by cases la <;> simp_all <;> omega)]; done), ht⟩) (fun q h => by cases h) d_TX_widthWithin_30
    · refine lv_iload_n hx hb d_TX_widthWithin_18 rfl (lv_at hl 2 rfl) ?_
      refine z_ifb_ne hx hb (tgt := 24) d_TX_widthWithin_19 (by decide) (fun c_19 => ?_) (fun c_19 => ?_)
      · refine lv_aload_n hx hb d_TX_widthWithin_24 rfl (lv_at hl 0 rfl) ?_
        refine z_get (ci := 1) (C := R_TX) (T := T_TX) (N := 6) (v := .ref (ad (8))) hx hb hg in_TX hown hK hP (1) (by decide) rfl rfl 2 (by decide) (hg _ (List.mem_append_right _ (List.mem_append_right _ (List.mem_append_left _ (List.mem_of_getElem? (i := 23) rfl))))) (fun _ h9 => h9) rfl d_TX_widthWithin_25 ?_
        refine lv_iload_n hx hb d_TX_widthWithin_28 rfl (lv_at hl 1 rfl) ?_
        refine z_iald hx hb hK hP (8) 0 (by decide) (fun _ => rfl) rfl (k) rfl (by omega) (by decide) d_TX_widthWithin_29 ?_
        exact W.iret (v := iI (M (8) (k))) hx hb hr (fun t ht hW => ⟨_, rfl, by unfold p_wid; first | (rw [if_pos (by cases la <;> simp_all <;> omega)]; done) | (rw [if_neg (by cases la <;> simp_all <;> omega)]; done), ht⟩) (fun q h => by cases h) d_TX_widthWithin_30
      · refine z_iconst hx hb (z := 0) d_TX_widthWithin_22 ?_
        exact W.iret (v := iI (0)) hx hb hr (fun t ht hW => ⟨_, rfl, by unfold p_wid; first | (rw [if_pos (by cases la <;> simp_all <;> omega)]; done) | (rw [if_neg (by cases la <;> simp_all <;> omega)]; done), ht⟩) (fun q h => by cases h) d_TX_widthWithin_23
set_option maxHeartbeats 4000000 in
set_option maxRecDepth 100000 in
theorem lp_solidBehind {p : Program} {l : Launch} {e : Env} {R : Room} {s : State} {m : MethodId} {args : Array Value} {below : List Frame} {meth : Method} {c : Code} {H : Heap} {locs : List Loc} {cells slots : Nat} {Q : State → Prop} {D : va_G} {ad : Nat → Nat} {cs : pg_C} {rp : Option Nat} {M : Nat → Nat → Int} (hx : p.tables.exec = Jvm.exec) (hb : c.code = b_TX_solidBehind) (hg : ∀ w ∈ gt, w.before args s = true) (hown : s.vm.findClass R_TX = some m.cls) (hK : va_K D vwCl (pg_tys cs) s) (hP : va_P D vwCl (pg_w ad cs rp M) H) (a b t : Nat) (ha : a ≤ 600) (hz : ∀ j, zb (M 7 j)) (kk : ∀ ls : Array Slot, lv_has ls 4 [(3, .int (iI (((t : Nat) : Int)))), (0, .ref (ad (1))), (1, .int (iI (((a : Nat) : Int)))), (2, .int (iI (((b : Nat) : Int))))] → W p l e R s m args below meth c H locs cells slots Q (F0 m 43 ls [])) : ∀ (f : Nat) (ls : Array Slot), f ≤ 600 → p_back (M 7) a f = t → lv_has ls 4 [(3, .int (iI (((f : Nat) : Int)))), (0, .ref (ad (1))), (1, .int (iI (((a : Nat) : Int)))), (2, .int (iI (((b : Nat) : Int))))] → W p l e R s m args below meth c H locs cells slots Q (F0 m 20 ls []) := by
  intro f
  induction f with
  | zero =>
    intro ls hf he hl
    refine lv_iload_n hx hb d_TX_solidBehind_20 rfl (lv_at hl 0 rfl) ?_
    refine lv_iload_n hx hb d_TX_solidBehind_21 rfl (lv_at hl 2 rfl) ?_
    refine z_icmp_le hx hb (tgt := 43) d_TX_solidBehind_22 (by decide) ⟨by omega, by omega⟩ ⟨by omega, by omega⟩ (fun c_22 => ?_) (fun c_22 => ?_)
    · have he : 0 = t := he
      subst he
      exact kk ls hl
    · exact absurd c_22 (by omega)
  | succ f ih =>
    intro ls hf he hl
    refine lv_iload_n hx hb d_TX_solidBehind_20 rfl (lv_at hl 0 rfl) ?_
    refine lv_iload_n hx hb d_TX_solidBehind_21 rfl (lv_at hl 2 rfl) ?_
    refine z_icmp_le hx hb (tgt := 43) d_TX_solidBehind_22 (by decide) ⟨by omega, by omega⟩ ⟨by omega, by omega⟩ (fun c_22 => ?_) (fun c_22 => ?_)
    · have he : f + 1 = t := by rw [← he]; unfold p_back; rw [if_neg (by omega)]
      subst he
      exact kk ls hl
    · refine lv_aload_n hx hb d_TX_solidBehind_25 rfl (lv_at hl 1 rfl) ?_
      refine z_get (ci := 1) (C := R_TX) (T := T_TX) (N := 6) (v := .ref (ad (7))) hx hb hg in_TX hown hK hP (1) (by decide) rfl rfl 1 (by decide) (hg _ (List.mem_append_right _ (List.mem_append_right _ (List.mem_append_left _ (List.mem_of_getElem? (i := 20) rfl))))) (fun _ h9 => h9) rfl d_TX_solidBehind_26 ?_
      refine lv_iload_n hx hb d_TX_solidBehind_29 rfl (lv_at hl 0 rfl) ?_
      refine z_iconst hx hb (z := 1) d_TX_solidBehind_30 ?_
      refine z_isub hx hb d_TX_solidBehind_31 (v := ((f : Nat) : Int)) (by omega) ?_
      refine z_iald hx hb hK hP (7) 0 (by decide) (fun _ => rfl) rfl (f) rfl (by omega) (by decide) d_TX_solidBehind_32 ?_
      refine z_iconst hx hb (z := 1) d_TX_solidBehind_33 ?_
      refine z_icmp_ne hx hb (tgt := 43) d_TX_solidBehind_34 (by decide) (hz _) ⟨by decide, by decide⟩ (fun c_34 => ?_) (fun c_34 => ?_)
      · have he : f + 1 = t := by rw [← he]; unfold p_back; rw [if_neg (by omega)]
        subst he
        exact kk ls hl
      · refine z_iinc (v := ((f : Nat) : Int)) (lv' := [(3, .int (iI (((f : Nat) : Int)))), (0, .ref (ad (1))), (1, .int (iI (((a : Nat) : Int)))), (2, .int (iI (((b : Nat) : Int))))]) hx hb d_TX_solidBehind_37 hl (k := 0) rfl (by omega) (by decide) rfl (fun ls hl => ?_)
        refine lv_goto (tgt := 20) hx hb d_TX_solidBehind_40 (by decide) ?_
        exact ih ls (by omega) (by rw [← he]; conv => rhs; unfold p_back; rw [if_pos ⟨by omega, by omega⟩]) hl
set_option maxHeartbeats 4000000 in
set_option maxRecDepth 100000 in
/-- Text.solidBehind -/
theorem c_solidBehind (l : Launch) {D : va_G} {ad : Nat → Nat} {cs : pg_C} {rp : Option Nat} {M : Nat → Nat → Int} (a b : Nat) (ha : a ≤ 600) (hb6 : b ≤ 600) (hz : ∀ j, zb (M 7 j)) : Met l y_TX_solidBehind ws_TX_solidBehind ({ frames := 1, cells := 0, slots := 0, locals := 21 } : Room) (va_Pc [.ref (ad (1)), .int (iI (((a : Nat) : Int))), .int (iI (((b : Nat) : Int)))] (ro_B D vwCl (pg_tys cs) (pg_w ad cs rp M))) (vp_Si (fun r => r = iI (((p_solid (M 7) a b : Nat) : Int)))) 0 0 (fun _ => False) := by
  refine Met.ofW (cc := b_TX_solidBehind) (maxL := 4) (ret := (some .int)) (by decide) rfl ?_
  intro p e s m args below meth c s₁ B hml hv
  obtain ⟨rfl, hP, hK⟩ := hv
  have hx := B.exec
  have hb := B.bytes
  have hr := B.returns
  have hts := atoms_spec (ws := ws_TX_solidBehind) B.pre
  have hg : ∀ w ∈ gt, w.before _ s = true := fun w h => hts w (List.mem_cons_of_mem _ h)
  have hown : s.vm.findClass R_TX = some m.cls := findClass_of_methodNamed B.named
  have hlocks := B.notSynchronized
  have hl := lv_entry ([.ref (ad (1)), .int (iI (((a : Nat) : Int))), .int (iI (((b : Nat) : Int)))]) (n := 4) (Nat.le_of_ble_eq_true rfl)
  rw [lg_entry_eq]
  generalize (lg_sl ([.ref (ad (1)), .int (iI (((a : Nat) : Int))), .int (iI (((b : Nat) : Int)))]) ++ List.replicate (4 - (lg_sl ([.ref (ad (1)), .int (iI (((a : Nat) : Int))), .int (iI (((b : Nat) : Int)))])).length) Slot.unset).toArray = ls at hl ⊢
  have hl : lv_has ls 4 [(0, .ref (ad (1))), (1, .int (iI (((a : Nat) : Int)))), (2, .int (iI (((b : Nat) : Int))))] := hl
  refine lv_iload_n hx hb d_TX_solidBehind_0 rfl (lv_at hl 2 rfl) ?_
  refine lv_istore_n (lv' := [(3, .int (iI (((b : Nat) : Int)))), (0, .ref (ad (1))), (1, .int (iI (((a : Nat) : Int)))), (2, .int (iI (((b : Nat) : Int))))]) hx hb d_TX_solidBehind_1 rfl hl (by decide) rfl (fun ls hl => ?_)
  refine lv_iload_n hx hb d_TX_solidBehind_2 rfl (lv_at hl 0 rfl) ?_
  refine lv_iload_n hx hb d_TX_solidBehind_3 rfl (lv_at hl 2 rfl) ?_
  refine z_icmp_le hx hb (tgt := 20) d_TX_solidBehind_4 (by decide) ⟨by omega, by omega⟩ ⟨by omega, by omega⟩ (fun c_4 => ?_) (fun c_4 => ?_)
  · refine lp_solidBehind hx hb hg hown hK hP a b (p_solid (M 7) a b) ha hz (fun ls hl => ?_) (b) ls (by omega) (by unfold p_solid; first | rw [if_pos ⟨by omega, by omega⟩] | rw [if_neg (by omega)]) (lv_sub hl [0, 1, 2, 3] rfl)
    refine lv_iload_n hx hb d_TX_solidBehind_43 rfl (lv_at hl 0 rfl) ?_
    exact W.iret (v := iI (((p_solid (M 7) a b : Nat) : Int))) hx hb hr (fun t ht hW => ⟨_, rfl, rfl, ht⟩) (fun q h => by cases h) d_TX_solidBehind_44
  · refine lv_aload_n hx hb d_TX_solidBehind_7 rfl (lv_at hl 1 rfl) ?_
    refine lv_iload_n hx hb d_TX_solidBehind_8 rfl (lv_at hl 0 rfl) ?_
    refine z_iconst hx hb (z := 1) d_TX_solidBehind_9 ?_
    refine z_isub hx hb d_TX_solidBehind_10 (v := ((b - 1 : Nat) : Int)) (by omega) ?_
    refine ro_V (As := [.int (iI (((b - 1 : Nat) : Int)))]) (rest := []) (z := bz (p_endl (M 7) (b - 1)) inferInstance) ⟨hx, hb, hml, hown, hg⟩ (c_endsLine l (b - 1) (by omega) hz) (cwV 1 hg (gt_V (List.mem_append_right _ (List.mem_append_right _ (List.mem_append_right _ (List.mem_append_right _ (List.mem_append_right _ (List.mem_append_left _ (List.mem_of_getElem? (i := 37) rfl))))))) (List.mem_append_right _ (List.mem_append_right _ (List.mem_append_right _ (List.mem_append_right _ (List.mem_append_right _ (List.mem_append_left _ (List.mem_of_getElem? (i := 38) rfl))))))) (List.mem_append_right _ (List.mem_append_right _ (List.mem_append_right _ (List.mem_append_right _ (List.mem_append_right _ (List.mem_append_left _ (List.mem_of_getElem? (i := 39) rfl))))))) (List.mem_append_right _ (List.mem_append_left _ (List.mem_of_getElem? (i := 3) rfl))) (List.mem_append_right _ (List.mem_append_right _ (List.mem_append_right _ (List.mem_append_right _ (List.mem_append_right _ (List.mem_append_right _ (List.mem_append_left _ (List.mem_of_getElem? (i := 0) rfl))))))))) rfl rfl rfl (by decide +kernel) ⟨Nat.le_of_ble_eq_true rfl, Nat.le_of_ble_eq_true rfl⟩) hK hP (va_recv hK hP (ci := 1) (q0 := 1) rfl (wl_atE (by decide) rfl)) rfl hl.1 rfl (Nat.le_of_ble_eq_true rfl) d_TX_solidBehind_11 ⟨Nat.zero_le _, Nat.zero_le _⟩ ?_
    refine z_ifb_eq hx hb (tgt := 20) d_TX_solidBehind_14 (by decide) (fun c_14 => ?_) (fun c_14 => ?_)
    · refine lp_solidBehind hx hb hg hown hK hP a b (p_solid (M 7) a b) ha hz (fun ls hl => ?_) (b) ls (by omega) (by unfold p_solid; first | rw [if_pos ⟨by omega, by omega⟩] | rw [if_neg (by omega)]) (lv_sub hl [0, 1, 2, 3] rfl)
      refine lv_iload_n hx hb d_TX_solidBehind_43 rfl (lv_at hl 0 rfl) ?_
      exact W.iret (v := iI (((p_solid (M 7) a b : Nat) : Int))) hx hb hr (fun t ht hW => ⟨_, rfl, rfl, ht⟩) (fun q h => by cases h) d_TX_solidBehind_44
    · refine z_iinc (v := ((b - 1 : Nat) : Int)) (lv' := [(3, .int (iI (((b - 1 : Nat) : Int)))), (0, .ref (ad (1))), (1, .int (iI (((a : Nat) : Int)))), (2, .int (iI (((b : Nat) : Int))))]) hx hb d_TX_solidBehind_17 hl (k := 0) rfl (by omega) (by decide) rfl (fun ls hl => ?_)
      refine lp_solidBehind hx hb hg hown hK hP a b (p_solid (M 7) a b) ha hz (fun ls hl => ?_) (b - 1) ls (by omega) (by unfold p_solid; first | rw [if_pos ⟨by omega, by omega⟩] | rw [if_neg (by omega)]) (lv_sub hl [0, 1, 2, 3] rfl)
      refine lv_iload_n hx hb d_TX_solidBehind_43 rfl (lv_at hl 0 rfl) ?_
      exact W.iret (v := iI (((p_solid (M 7) a b : Nat) : Int))) hx hb hr (fun t ht hW => ⟨_, rfl, rfl, ht⟩) (fun q h => by cases h) d_TX_solidBehind_44
