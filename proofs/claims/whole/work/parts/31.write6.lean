set_option maxHeartbeats 4000000 in
set_option maxRecDepth 100000 in
theorem lp_standLines {p : Program} {l : Launch} {e : Env} {s : State} {m : MethodId} {args : Array Value} {below : List Frame} {meth : Method} {c : Code} {Q : State → Prop} {A : Nat → Prop} {H0 : Heap} {D : va_G} {ad : Nat → Nat} {cs : pg_C} {rp : Option Nat} {M : Nat → Nat → Int} (hx : p.tables.exec = Jvm.exec) (hb : c.code = b_PG_standLines) (hml : c.maxLocals = 3) (hg : ∀ w ∈ gt, w.before args s = true) (hown : s.vm.findClass R_PG = some m.cls) (hK : va_K D vwCl (pg_tys cs) s) (hA : ∀ q, H0.size ≤ q → A q) (a nl : Nat) (hX : ∀ i, i < 30 → wfX M i) (hL : wfl M) (hT : wfT M) (hn : M 3 2 = ((nl : Nat) : Int)) (hn6 : nl ≤ 630) (res : Nat × (Nat → Nat → Int)) (kk : ∀ (H : Heap) (locs : List Loc) (ls : Array Slot), va_P D vwCl (pg_w ad cs rp res.2) H → va_D A (pg_w ad cs rp res.2) → va_S A H0 H locs → lv_has ls 3 [(2, .int (iI ((res.1 : Nat) : Int)))] → W p l e ({ frames := 2, cells := 0, slots := 0, locals := 43 } : Room) s m args below meth c H locs 0 0 Q (F0 m 85 ls [])) : ∀ (f b : Nat) (Mc : Nat → Nat → Int), (b + f = nl ∨ (f = 0 ∧ nl ≤ b)) → 1 ≤ b → b ≤ 631 → eqb 20 20 Mc M → 0 ≤ Mc 20 (b - 1) ∧ Mc 20 (b - 1) ≤ 12000 * ((b : Nat) : Int) → q_st M f b Mc = res → ∀ (H : Heap) (locs : List Loc) (ls : Array Slot), va_P D vwCl (pg_w ad cs rp Mc) H → va_D A (pg_w ad cs rp Mc) → va_S A H0 H locs → lv_has ls 3 [(2, .int (iI (((b : Nat) : Int)))), (0, .ref (ad (5))), (1, .int (iI (((a : Nat) : Int))))] → W p l e ({ frames := 2, cells := 0, slots := 0, locals := 43 } : Room) s m args below meth c H locs 0 0 Q (F0 m 17 ls []) := by
  intro f
  induction f with
  | zero =>
    intro b Mc hbf hb1 hb6 hsm hdn he H locs ls hP hD hS hl
    have h19 : eqb 19 20 Mc M := fun j hj => hsm j (by omega)
    have hL1 : wfl Mc := wfl_eq h19 hL
    have hX1 : ∀ i, i < 30 → wfX Mc i := fun i hi => wfX_eq h19 (hX i hi)
    have hT1 : wfT Mc := eqb_wfT h19 (by omega) hT
    have g3 : Mc 3 2 = ((nl : Nat) : Int) := by rw [hsm 3 (by omega)]; exact hn
    have g18 : Mc 18 = M 18 := hsm 18 (by omega)
    obtain ⟨hmu, -, hsp, -⟩ := q_same h19
    have hh1 := (hL b).2.2
    have hh2 := (hL (b - 1)).2.2
    have hsb := q_spb hX hL b
    have hhi := hT.2.2.2.2.1
    refine lv_iload_n hx hb d_PG_standLines_17 rfl (lv_at hl 0 rfl) ?_
    refine lv_aload_n hx hb d_PG_standLines_18 rfl (lv_at hl 1 rfl) ?_
    refine z_get (ci := 5) (C := R_PG) (T := T_PG) (N := 5) (v := .ref (ad (3))) hx hb hg in_PG hown hK hP (5) (by decide) rfl rfl 4 (by decide) (hg _ (List.mem_append_right _ (List.mem_append_right _ (List.mem_append_right _ (List.mem_append_right _ (List.mem_append_left _ (List.mem_of_getElem? (i := 33) rfl))))))) (fun _ h9 => h9) rfl d_PG_standLines_19 ?_
    refine z_get (ci := 3) (C := R_LN) (T := T_LN) (N := 6) (v := .int (iI (Mc (3) 2))) hx hb hg in_LN hown hK hP (3) (by decide) rfl rfl 2 (by decide) (hg _ (List.mem_append_right _ (List.mem_append_right _ (List.mem_append_right _ (List.mem_append_right _ (List.mem_append_left _ (List.mem_of_getElem? (i := 9) rfl))))))) (fun _ h9 => h9) rfl d_PG_standLines_22 ?_
    refine z_icmp_ge hx hb (tgt := 85) d_PG_standLines_25 (by decide) ⟨by omega, by omega⟩ ⟨by omega, by omega⟩ (fun c_25 => ?_) (fun c_25 => ?_)
    · have he : (b, Mc) = res := he
      subst he
      exact kk H locs ls hP hD hS (lv_sub hl [0] rfl)
    · exact absurd c_25 (by omega)
  | succ f ih =>
    intro b Mc hbf hb1 hb6 hsm hdn he H locs ls hP hD hS hl
    have h19 : eqb 19 20 Mc M := fun j hj => hsm j (by omega)
    have hL1 : wfl Mc := wfl_eq h19 hL
    have hX1 : ∀ i, i < 30 → wfX Mc i := fun i hi => wfX_eq h19 (hX i hi)
    have hT1 : wfT Mc := eqb_wfT h19 (by omega) hT
    have g3 : Mc 3 2 = ((nl : Nat) : Int) := by rw [hsm 3 (by omega)]; exact hn
    have g18 : Mc 18 = M 18 := hsm 18 (by omega)
    obtain ⟨hmu, -, hsp, -⟩ := q_same h19
    have hh1 := (hL b).2.2
    have hh2 := (hL (b - 1)).2.2
    have hsb := q_spb hX hL b
    have hhi := hT.2.2.2.2.1
    refine lv_iload_n hx hb d_PG_standLines_17 rfl (lv_at hl 0 rfl) ?_
    refine lv_aload_n hx hb d_PG_standLines_18 rfl (lv_at hl 1 rfl) ?_
    refine z_get (ci := 5) (C := R_PG) (T := T_PG) (N := 5) (v := .ref (ad (3))) hx hb hg in_PG hown hK hP (5) (by decide) rfl rfl 4 (by decide) (hg _ (List.mem_append_right _ (List.mem_append_right _ (List.mem_append_right _ (List.mem_append_right _ (List.mem_append_left _ (List.mem_of_getElem? (i := 33) rfl))))))) (fun _ h9 => h9) rfl d_PG_standLines_19 ?_
    refine z_get (ci := 3) (C := R_LN) (T := T_LN) (N := 6) (v := .int (iI (Mc (3) 2))) hx hb hg in_LN hown hK hP (3) (by decide) rfl rfl 2 (by decide) (hg _ (List.mem_append_right _ (List.mem_append_right _ (List.mem_append_right _ (List.mem_append_right _ (List.mem_append_left _ (List.mem_of_getElem? (i := 9) rfl))))))) (fun _ h9 => h9) rfl d_PG_standLines_22 ?_
    refine z_icmp_ge hx hb (tgt := 85) d_PG_standLines_25 (by decide) ⟨by omega, by omega⟩ ⟨by omega, by omega⟩ (fun c_25 => ?_) (fun c_25 => ?_)
    · exact absurd c_25 (by omega)
    · refine lv_aload_n hx hb d_PG_standLines_28 rfl (lv_at hl 1 rfl) ?_
      refine lv_iload_n hx hb d_PG_standLines_29 rfl (lv_at hl 0 rfl) ?_
      refine ro_V (As := [.int (iI (((b : Nat) : Int)))]) (rest := []) (z := bz (q_mu Mc (b)) inferInstance) ⟨hx, hb, hml, hown, hg⟩ (c_mustEndAhead l (b) (lq Mc (b)) (by omega) (by omega) (wfl_q hL1 _).2 (wfl_q hL1 _).1 (wfl_z hL1) (lf Mc (b - 1)) (lk Mc (b - 1)) (wfl_f hL1 _).1 (wfl_f hL1 _).2.1 (wfl_f hL1 _).2.2 (zb_7 hT1) (wfX_sh (hX1 _ (wfl_q hL1 _).2))) (cwV 1 hg (gt_V (List.mem_append_right _ (List.mem_append_right _ (List.mem_append_right _ (List.mem_append_right _ (List.mem_append_right _ (List.mem_append_right _ (List.mem_append_right _ (List.mem_append_right _ (List.mem_append_left _ (List.mem_of_getElem? (i := 1) rfl)))))))))) (List.mem_append_right _ (List.mem_append_right _ (List.mem_append_right _ (List.mem_append_right _ (List.mem_append_right _ (List.mem_append_right _ (List.mem_append_right _ (List.mem_append_right _ (List.mem_append_left _ (List.mem_of_getElem? (i := 2) rfl)))))))))) (List.mem_append_left _ (List.mem_of_getElem? (i := 15) rfl)) (List.mem_append_right _ (List.mem_append_left _ (List.mem_of_getElem? (i := 8) rfl))) (List.mem_append_right _ (List.mem_append_right _ (List.mem_append_right _ (List.mem_append_right _ (List.mem_append_right _ (List.mem_append_right _ (List.mem_append_right _ (List.mem_append_right _ (List.mem_append_left _ (List.mem_of_getElem? (i := 3) rfl))))))))))) rfl rfl rfl (by decide +kernel) ⟨Nat.le_of_ble_eq_true rfl, Nat.le_of_ble_eq_true rfl⟩) hK hP (va_recv hK hP (ci := 5) (q0 := 5) rfl (wl_atE (by decide) rfl)) rfl hl.1 rfl (Nat.le_of_ble_eq_true rfl) d_PG_standLines_30 ⟨Nat.zero_le _, Nat.zero_le _⟩ ?_
      refine z_ifb_ne hx hb (tgt := 85) d_PG_standLines_33 (by decide) (fun c_33 => ?_) (fun c_33 => ?_)
      · have he : (b, Mc) = res := by rw [← he]; unfold q_st; rw [if_pos (hmu b ▸ c_33)]
        subst he
        exact kk H locs ls hP hD hS (lv_sub hl [0] rfl)
      · refine lv_aload_n hx hb d_PG_standLines_36 rfl (lv_at hl 1 rfl) ?_
        refine z_get (ci := 5) (C := R_PG) (T := T_PG) (N := 5) (v := .ref (ad (3))) hx hb hg in_PG hown hK hP (5) (by decide) rfl rfl 4 (by decide) (hg _ (List.mem_append_right _ (List.mem_append_right _ (List.mem_append_right _ (List.mem_append_right _ (List.mem_append_left _ (List.mem_of_getElem? (i := 33) rfl))))))) (fun _ h9 => h9) rfl d_PG_standLines_37 ?_
        refine z_get (ci := 3) (C := R_LN) (T := T_LN) (N := 6) (v := .ref (ad (10))) hx hb hg in_LN hown hK hP (3) (by decide) rfl rfl 0 (by decide) (hg _ (List.mem_append_right _ (List.mem_append_right _ (List.mem_append_right _ (List.mem_append_right _ (List.mem_append_left _ (List.mem_of_getElem? (i := 4) rfl))))))) (fun _ h9 => h9) rfl d_PG_standLines_40 ?_
        refine z_bipush hx hb (z := 7) d_PG_standLines_43 (by decide) ?_
        refine z_aald hx hb hK hP (10) 1 (by decide) (fun _ => rfl) rfl rfl (7) rfl (by decide) (by decide) d_PG_standLines_45 ?_
        refine lv_iload_n hx hb d_PG_standLines_46 rfl (lv_at hl 0 rfl) ?_
        refine lv_aload_n hx hb d_PG_standLines_47 rfl (lv_at hl 1 rfl) ?_
        refine lv_iload_n hx hb d_PG_standLines_48 rfl (lv_at hl 0 rfl) ?_
        refine z_iconst hx hb (z := 1) d_PG_standLines_49 ?_
        refine z_isub hx hb d_PG_standLines_50 (v := ((b - 1 : Nat) : Int)) (by omega) ?_
        refine ro_V (As := [.int (iI (((b - 1 : Nat) : Int)))]) (rest := [.int (iI (((b : Nat) : Int))), .ref (ad (20))]) (z := (Mc 20 (b - 1) + Mc 18 (b - 1))) ⟨hx, hb, hml, hown, hg⟩ (c_bottomOf l (b - 1) (by omega)) (cwV 1 hg (gt_V (List.mem_append_right _ (List.mem_append_right _ (List.mem_append_right _ (List.mem_append_right _ (List.mem_append_right _ (List.mem_append_right _ (List.mem_append_right _ (List.mem_append_right _ (List.mem_append_left _ (List.mem_of_getElem? (i := 15) rfl)))))))))) (List.mem_append_right _ (List.mem_append_right _ (List.mem_append_right _ (List.mem_append_right _ (List.mem_append_right _ (List.mem_append_right _ (List.mem_append_right _ (List.mem_append_right _ (List.mem_append_left _ (List.mem_of_getElem? (i := 16) rfl)))))))))) (List.mem_append_left _ (List.mem_of_getElem? (i := 17) rfl)) (List.mem_append_right _ (List.mem_append_left _ (List.mem_of_getElem? (i := 8) rfl))) (List.mem_append_right _ (List.mem_append_right _ (List.mem_append_right _ (List.mem_append_right _ (List.mem_append_right _ (List.mem_append_right _ (List.mem_append_right _ (List.mem_append_right _ (List.mem_append_left _ (List.mem_of_getElem? (i := 17) rfl))))))))))) rfl rfl rfl (by decide +kernel) ⟨Nat.le_of_ble_eq_true rfl, Nat.le_of_ble_eq_true rfl⟩) hK hP (va_recv hK hP (ci := 5) (q0 := 5) rfl (wl_atE (by decide) rfl)) rfl hl.1 rfl (Nat.le_of_ble_eq_true rfl) d_PG_standLines_51 ⟨Nat.zero_le _, Nat.zero_le _⟩ ?_
        refine lv_aload_n hx hb d_PG_standLines_54 rfl (lv_at hl 1 rfl) ?_
        refine lv_iload_n hx hb d_PG_standLines_55 rfl (lv_at hl 0 rfl) ?_
        refine ro_V (As := [.int (iI (((b : Nat) : Int)))]) (rest := [.int (iI ((Mc 20 (b - 1) + Mc 18 (b - 1)))), .int (iI (((b : Nat) : Int))), .ref (ad (20))]) (z := q_sp Mc b) ⟨hx, hb, hml, hown, hg⟩ (c_spaceAhead l b (lq Mc (b - 1)) (lq Mc b) (by omega) (by omega) (wfl_q hL1 _).2 (wfl_q hL1 _).2 (wfl_q hL1 _).1 (wfl_q hL1 _).1 (wfl_z hL1)) (cwV 1 hg (gt_V (List.mem_append_right _ (List.mem_append_right _ (List.mem_append_right _ (List.mem_append_right _ (List.mem_append_right _ (List.mem_append_right _ (List.mem_append_right _ (List.mem_append_right _ (List.mem_append_left _ (List.mem_of_getElem? (i := 18) rfl)))))))))) (List.mem_append_right _ (List.mem_append_right _ (List.mem_append_right _ (List.mem_append_right _ (List.mem_append_right _ (List.mem_append_right _ (List.mem_append_right _ (List.mem_append_right _ (List.mem_append_left _ (List.mem_of_getElem? (i := 19) rfl)))))))))) (List.mem_append_left _ (List.mem_of_getElem? (i := 18) rfl)) (List.mem_append_right _ (List.mem_append_left _ (List.mem_of_getElem? (i := 8) rfl))) (List.mem_append_right _ (List.mem_append_right _ (List.mem_append_right _ (List.mem_append_right _ (List.mem_append_right _ (List.mem_append_right _ (List.mem_append_right _ (List.mem_append_right _ (List.mem_append_left _ (List.mem_of_getElem? (i := 20) rfl))))))))))) rfl rfl rfl (by decide +kernel) ⟨Nat.le_of_ble_eq_true rfl, Nat.le_of_ble_eq_true rfl⟩) hK hP (va_recv hK hP (ci := 5) (q0 := 5) rfl (wl_atE (by decide) rfl)) rfl hl.1 rfl (Nat.le_of_ble_eq_true rfl) d_PG_standLines_56 ⟨Nat.zero_le _, Nat.zero_le _⟩ ?_
        refine z_iadd hx hb d_PG_standLines_59 (v := ((Mc 20 (b - 1) + Mc 18 (b - 1)) + q_sp Mc b)) rfl ?_
        refine z_iast hx hb hK hP hD hS (20) 0 (by decide) (fun _ => rfl) rfl (v := ((Mc 20 (b - 1) + Mc 18 (b - 1)) + q_sp Mc b)) (b) rfl (by omega) (by decide) d_PG_standLines_60 (fun H locs hP hD hS => ?_)
        obtain ⟨M_1, eM_1⟩ : ∃ q_, q_ = mset Mc (20) (b) (((Mc 20 (b - 1) + Mc 18 (b - 1)) + q_sp Mc b)) := ⟨_, rfl⟩
        have hP : va_P D vwCl (pg_w ad cs rp M_1) H := by rw [eM_1]; exact hP
        have hD : va_D A (pg_w ad cs rp M_1) := by rw [eM_1]; exact hD
        have hM1 : M_1 = mset Mc 20 b (Mc 20 (b - 1) + M 18 (b - 1) + q_sp M b) := by rw [eM_1, g18, hsp]
        have k20 : M_1 20 b = Mc 20 (b - 1) + M 18 (b - 1) + q_sp M b := by rw [hM1]; exact mset_same _ _ _ _
        have k18 : M_1 18 b = M 18 b := by rw [hM1, mset_ne (by omega), g18]
        have k2 : M_1 2 1 = M 2 1 := by rw [hM1, mset_ne (by omega), hsm 2 (by omega)]
        refine lv_aload_n hx hb d_PG_standLines_61 rfl (lv_at hl 1 rfl) ?_
        refine lv_iload_n hx hb d_PG_standLines_62 rfl (lv_at hl 0 rfl) ?_
        refine ro_V (As := [.int (iI (((b : Nat) : Int)))]) (rest := []) (z := (M_1 20 (b) + M_1 18 (b))) ⟨hx, hb, hml, hown, hg⟩ (c_bottomOf l (b) (by omega)) (cwV 1 hg (gt_V (List.mem_append_right _ (List.mem_append_right _ (List.mem_append_right _ (List.mem_append_right _ (List.mem_append_right _ (List.mem_append_right _ (List.mem_append_right _ (List.mem_append_right _ (List.mem_append_left _ (List.mem_of_getElem? (i := 15) rfl)))))))))) (List.mem_append_right _ (List.mem_append_right _ (List.mem_append_right _ (List.mem_append_right _ (List.mem_append_right _ (List.mem_append_right _ (List.mem_append_right _ (List.mem_append_right _ (List.mem_append_left _ (List.mem_of_getElem? (i := 16) rfl)))))))))) (List.mem_append_left _ (List.mem_of_getElem? (i := 17) rfl)) (List.mem_append_right _ (List.mem_append_left _ (List.mem_of_getElem? (i := 8) rfl))) (List.mem_append_right _ (List.mem_append_right _ (List.mem_append_right _ (List.mem_append_right _ (List.mem_append_right _ (List.mem_append_right _ (List.mem_append_right _ (List.mem_append_right _ (List.mem_append_left _ (List.mem_of_getElem? (i := 17) rfl))))))))))) rfl rfl rfl (by decide +kernel) ⟨Nat.le_of_ble_eq_true rfl, Nat.le_of_ble_eq_true rfl⟩) hK hP (va_recv hK hP (ci := 5) (q0 := 5) rfl (wl_atE (by decide) rfl)) rfl hl.1 rfl (Nat.le_of_ble_eq_true rfl) d_PG_standLines_63 ⟨Nat.zero_le _, Nat.zero_le _⟩ ?_
        refine lv_aload_n hx hb d_PG_standLines_66 rfl (lv_at hl 1 rfl) ?_
        refine z_get (ci := 5) (C := R_PG) (T := T_PG) (N := 5) (v := .ref (ad (2))) hx hb hg in_PG hown hK hP (5) (by decide) rfl rfl 3 (by decide) (hg _ (List.mem_append_right _ (List.mem_append_right _ (List.mem_append_right _ (List.mem_append_right _ (List.mem_append_left _ (List.mem_of_getElem? (i := 32) rfl))))))) (fun _ h9 => h9) rfl d_PG_standLines_67 ?_
        refine z_get (ci := 2) (C := R_SH) (T := T_SH) (N := 3) (v := .int (iI (M_1 (2) 1))) hx hb hg in_SH hown hK hP (2) (by decide) rfl rfl 1 (by decide) (hg _ (List.mem_append_right _ (List.mem_append_right _ (List.mem_append_right _ (List.mem_append_left _ (List.mem_of_getElem? (i := 7) rfl)))))) (fun _ h9 => h9) rfl d_PG_standLines_70 ?_
        refine z_icmp_le hx hb (tgt := 79) d_PG_standLines_73 (by decide) ⟨by omega, by omega⟩ ⟨by omega, by omega⟩ (fun c_73 => ?_) (fun c_73 => ?_)
        · refine z_iinc (v := ((b + 1 : Nat) : Int)) (lv' := [(2, .int (iI (((b + 1 : Nat) : Int)))), (0, .ref (ad (5))), (1, .int (iI (((a : Nat) : Int))))]) hx hb d_PG_standLines_79 hl (k := 0) rfl (by omega) (by decide) rfl (fun ls hl => ?_)
          refine lv_goto (tgt := 17) hx hb d_PG_standLines_82 (by decide) ?_
          have hF : q_st M f (b + 1) M_1 = res := by rw [← he, hM1]; conv => rhs; unfold q_st; rw [if_neg (fun h => c_33 ((hmu b).symm ▸ h)), if_neg (by omega)]
          exact ih (b + 1) M_1 (by omega) (by omega) (by omega) (by rw [hM1]; exact eqb_set hsm (by omega) (by omega)) (by rw [show b + 1 - 1 = b by omega, k20]; omega) hF H locs ls hP hD hS (lv_sub hl [0, 1, 2] rfl)
        · refine lv_goto (tgt := 85) hx hb d_PG_standLines_76 (by decide) ?_
          have he : (b, M_1) = res := by rw [← he, hM1]; unfold q_st; rw [if_neg (fun h => c_33 ((hmu b).symm ▸ h)), if_pos (by omega)]
          subst he
          exact kk H locs ls hP hD hS (lv_sub hl [0] rfl)
set_option maxHeartbeats 4000000 in
set_option maxRecDepth 100000 in
/-- Pages.standLines -/
theorem c_standLines (l : Launch) {D : va_G} {ad : Nat → Nat} {cs : pg_C} {rp : Option Nat} {M : Nat → Nat → Int} (sz : Nat) (a nl : Nat) (hX : ∀ i, i < 30 → wfX M i) (hL : wfl M) (hT : wfT M) (hn : M 3 2 = ((nl : Nat) : Int)) (hn6 : nl ≤ 630) (ha : a < nl) : Met l y_PG_standLines ws_PG_standLines ({ frames := 2, cells := 0, slots := 0, locals := 43 } : Room) (va_Pc [.ref (ad (5)), .int (iI (((a : Nat) : Int)))] (rw_B D vwCl (pg_tys cs) (pg_w ad cs rp M) sz)) (va_Qi (fun (r : Int32) (_ : Unit) => r = iI ((((q_st0 M a).1 : Nat) : Int))) (rw_E D vwCl (pg_tys cs) (pg_w ad cs rp M) (pg_w ad cs rp ((q_st0 M a).2)) sz) (va_A (pg_w ad cs rp M) sz)) 0 0 (va_A (pg_w ad cs rp M) sz) := by
  refine Met.ofW (cc := b_PG_standLines) (maxL := 3) (ret := (some .int)) (by decide) rfl ?_
  intro p e s m args below meth c s₁ B hml hv
  obtain ⟨rfl, hsz, hP, hK, hD0⟩ := hv
  have hx := B.exec
  have hb := B.bytes
  have hr := B.returns
  have hts := atoms_spec (ws := ws_PG_standLines) B.pre
  have hg : ∀ w ∈ gt, w.before _ s = true := fun w h => hts w (List.mem_cons_of_mem _ h)
  have hown : s.vm.findClass R_PG = some m.cls := findClass_of_methodNamed B.named
  have hlocks := B.notSynchronized
  subst hsz
  have hD := hD0.self (sz := s.heap.size)
  have hA : ∀ q : Nat, s.heap.size ≤ q → va_A (pg_w ad cs rp M) s.heap.size q := fun q h => Or.inr h
  have hS : va_S (va_A (pg_w ad cs rp M) s.heap.size) s.heap s.heap [] := va_S.rf
  have hl := lv_entry ([.ref (ad (5)), .int (iI (((a : Nat) : Int)))]) (n := 3) (Nat.le_of_ble_eq_true rfl)
  rw [lg_entry_eq]
  generalize (lg_sl ([.ref (ad (5)), .int (iI (((a : Nat) : Int)))]) ++ List.replicate (3 - (lg_sl ([.ref (ad (5)), .int (iI (((a : Nat) : Int)))])).length) Slot.unset).toArray = ls at hl ⊢
  have hl : lv_has ls 3 [(0, .ref (ad (5))), (1, .int (iI (((a : Nat) : Int))))] := hl
  have enl : nlM M = nl := by unfold nlM; omega
  refine lv_aload_n hx hb d_PG_standLines_0 rfl (lv_at hl 0 rfl) ?_
  refine z_get (ci := 5) (C := R_PG) (T := T_PG) (N := 5) (v := .ref (ad (3))) hx hb hg in_PG hown hK hP (5) (by decide) rfl rfl 4 (by decide) (hg _ (List.mem_append_right _ (List.mem_append_right _ (List.mem_append_right _ (List.mem_append_right _ (List.mem_append_left _ (List.mem_of_getElem? (i := 33) rfl))))))) (fun _ h9 => h9) rfl d_PG_standLines_1 ?_
  refine z_get (ci := 3) (C := R_LN) (T := T_LN) (N := 6) (v := .ref (ad (10))) hx hb hg in_LN hown hK hP (3) (by decide) rfl rfl 0 (by decide) (hg _ (List.mem_append_right _ (List.mem_append_right _ (List.mem_append_right _ (List.mem_append_right _ (List.mem_append_left _ (List.mem_of_getElem? (i := 4) rfl))))))) (fun _ h9 => h9) rfl d_PG_standLines_4 ?_
  refine z_bipush hx hb (z := 7) d_PG_standLines_7 (by decide) ?_
  refine z_aald hx hb hK hP (10) 1 (by decide) (fun _ => rfl) rfl rfl (7) rfl (by decide) (by decide) d_PG_standLines_9 ?_
  refine lv_iload_n hx hb d_PG_standLines_10 rfl (lv_at hl 1 rfl) ?_
  refine z_iconst hx hb (z := 0) d_PG_standLines_11 ?_
  refine z_iast hx hb hK hP hD hS (20) 0 (by decide) (fun _ => rfl) rfl (v := 0) (a) rfl (by omega) (by decide) d_PG_standLines_12 (fun H locs hP hD hS => ?_)
  obtain ⟨M_1, eM_1⟩ : ∃ q_, q_ = mset M (20) (a) (0) := ⟨_, rfl⟩
  have hP : va_P D vwCl (pg_w ad cs rp M_1) H := by rw [eM_1]; exact hP
  have hD : va_D (va_A (pg_w ad cs rp M) s.heap.size) (pg_w ad cs rp M_1) := by rw [eM_1]; exact hD
  refine lv_iload_n hx hb d_PG_standLines_13 rfl (lv_at hl 1 rfl) ?_
  refine z_iconst hx hb (z := 1) d_PG_standLines_14 ?_
  refine z_iadd hx hb d_PG_standLines_15 (v := ((a + 1 : Nat) : Int)) (by omega) ?_
  refine lv_istore_n (lv' := [(2, .int (iI (((a + 1 : Nat) : Int)))), (0, .ref (ad (5))), (1, .int (iI (((a : Nat) : Int))))]) hx hb d_PG_standLines_16 rfl hl (by decide) rfl (fun ls hl => ?_)
  refine lp_standLines hx hb hml hg hown hK hA a nl hX hL hT hn hn6 (q_st0 M a) (fun H locs ls hP hD hS hl => ?_) (nl - (a + 1)) (a + 1) M_1 (by omega) (by omega) (by omega) (by rw [eM_1]; exact eqb_set eqb_rf (by omega) (by omega)) (by rw [show a + 1 - 1 = a by omega, eM_1, mset_same]; omega) (by rw [eM_1]; unfold q_st0; rw [enl]) H locs ls hP hD hS (lv_sub hl [0, 1, 2] rfl)
  refine lv_iload_n hx hb d_PG_standLines_85 rfl (lv_at hl 0 rfl) ?_
  have hM : (q_st0 M a).2 = (q_st0 M a).2 := rfl
  have eW : pg_w ad cs rp ((q_st0 M a).2) = pg_w ad cs rp ((q_st0 M a).2) := by rw [hM]
  have hP := Eq.mp (congrArg (fun q => va_P D vwCl q _) eW) hP
  have hD := Eq.mp (congrArg (va_D _) eW) hD
  exact W.iret (v := iI ((((q_st0 M a).1 : Nat) : Int))) hx hb hr (fun t ht hW => ⟨⟨_, (), rfl, rfl, by rw [ht]; exact hP, va_K.moved hW.alike hK, hD⟩, hS.F ht⟩) hS.2.2 d_PG_standLines_86
set_option maxHeartbeats 4000000 in
set_option maxRecDepth 100000 in
theorem lp_pageBehind {p : Program} {l : Launch} {e : Env} {s : State} {m : MethodId} {args : Array Value} {below : List Frame} {meth : Method} {c : Code} {H : Heap} {locs : List Loc} {Q : State → Prop} {D : va_G} {ad : Nat → Nat} {cs : pg_C} {rp : Option Nat} {M : Nat → Nat → Int} (hx : p.tables.exec = Jvm.exec) (hb : c.code = b_PG_pageBehind) (hml : c.maxLocals = 4) (hg : ∀ w ∈ gt, w.before args s = true) (hown : s.vm.findClass R_PG = some m.cls) (hK : va_K D vwCl (pg_tys cs) s) (hP : va_P D vwCl (pg_w ad cs rp M) H) (a nl can t : Nat) (hX : ∀ i, i < 30 → wfX M i) (hL : wfl M) (hn : M 3 2 = ((nl : Nat) : Int)) (hn6 : nl ≤ 630) (hc : can < nl) (ha : a ≤ 630) (kk : ∀ (ls : Array Slot), W p l e ({ frames := 3, cells := 0, slots := 0, locals := 65 } : Room) s m args below meth c H locs 0 0 Q (F0 m 43 ls [.int (iI ((t : Nat) : Int))])) (kk2 : ∀ (ls : Array Slot), W p l e ({ frames := 3, cells := 0, slots := 0, locals := 65 } : Room) s m args below meth c H locs 0 0 Q (F0 m 51 ls [.int (iI ((t : Nat) : Int))])) : ∀ (f : Nat) (ls : Array Slot), f ≤ can → q_dn M a can f = t → lv_has ls 4 [(3, .int (iI (((f : Nat) : Int)))), (2, .int (iI (((can : Nat) : Int)))), (0, .ref (ad (5))), (1, .int (iI (((a : Nat) : Int))))] → W p l e ({ frames := 3, cells := 0, slots := 0, locals := 65 } : Room) s m args below meth c H locs 0 0 Q (F0 m 29 ls []) := by
  have enl : nlM M = nl := by unfold nlM; omega
  subst enl
  intro f
  induction f with
  | zero =>
    intro ls hf he hl
    refine lv_iload_n hx hb d_PG_pageBehind_29 rfl (lv_at hl 0 rfl) ?_
    refine lv_iload_n hx hb d_PG_pageBehind_30 rfl (lv_at hl 3 rfl) ?_
    refine z_icmp_le hx hb (tgt := 50) d_PG_pageBehind_31 (by decide) ⟨by omega, by omega⟩ ⟨by omega, by omega⟩ (fun c_31 => ?_) (fun c_31 => ?_)
    · refine lv_iload_n hx hb d_PG_pageBehind_50 rfl (lv_at hl 1 rfl) ?_
      have he : can = t := he
      subst he
      exact kk2 ls
    · exact absurd c_31 (by omega)
  | succ f ih =>
    intro ls hf he hl
    refine lv_iload_n hx hb d_PG_pageBehind_29 rfl (lv_at hl 0 rfl) ?_
    refine lv_iload_n hx hb d_PG_pageBehind_30 rfl (lv_at hl 3 rfl) ?_
    refine z_icmp_le hx hb (tgt := 50) d_PG_pageBehind_31 (by decide) ⟨by omega, by omega⟩ ⟨by omega, by omega⟩ (fun c_31 => ?_) (fun c_31 => ?_)
    · refine lv_iload_n hx hb d_PG_pageBehind_50 rfl (lv_at hl 1 rfl) ?_
      have he : can = t := by rw [← he]; unfold q_dn; rw [if_neg (by omega)]
      subst he
      exact kk2 ls
    · refine lv_aload_n hx hb d_PG_pageBehind_34 rfl (lv_at hl 2 rfl) ?_
      refine lv_iload_n hx hb d_PG_pageBehind_35 rfl (lv_at hl 0 rfl) ?_
      refine ro_V (As := [.int (iI (((f + 1 : Nat) : Int)))]) (rest := []) (z := bz (q_ma M (f + 1)) inferInstance) ⟨hx, hb, hml, hown, hg⟩ (c_mayEndAhead l (f + 1) (lq M (f + 1 - 1)) (nlM M) (by omega) (by omega) (wfl_q hL _).2 (wfl_q hL _).1 hn6 hn (wfl_z hL) (wfX_sh (hX _ (wfl_q hL _).2))) (cwV 1 hg (gt_V (List.mem_append_right _ (List.mem_append_right _ (List.mem_append_right _ (List.mem_append_right _ (List.mem_append_right _ (List.mem_append_right _ (List.mem_append_right _ (List.mem_append_right _ (List.mem_append_left _ (List.mem_of_getElem? (i := 21) rfl)))))))))) (List.mem_append_right _ (List.mem_append_right _ (List.mem_append_right _ (List.mem_append_right _ (List.mem_append_right _ (List.mem_append_right _ (List.mem_append_right _ (List.mem_append_right _ (List.mem_append_left _ (List.mem_of_getElem? (i := 22) rfl)))))))))) (List.mem_append_left _ (List.mem_of_getElem? (i := 19) rfl)) (List.mem_append_right _ (List.mem_append_left _ (List.mem_of_getElem? (i := 8) rfl))) (List.mem_append_right _ (List.mem_append_right _ (List.mem_append_right _ (List.mem_append_right _ (List.mem_append_right _ (List.mem_append_right _ (List.mem_append_right _ (List.mem_append_right _ (List.mem_append_left _ (List.mem_of_getElem? (i := 23) rfl))))))))))) rfl rfl rfl (by decide +kernel) ⟨Nat.le_of_ble_eq_true rfl, Nat.le_of_ble_eq_true rfl⟩) hK hP (va_recv hK hP (ci := 5) (q0 := 5) rfl (wl_atE (by decide) rfl)) rfl hl.1 rfl (Nat.le_of_ble_eq_true rfl) d_PG_pageBehind_36 ⟨Nat.zero_le _, Nat.zero_le _⟩ ?_
      refine z_ifb_eq hx hb (tgt := 44) d_PG_pageBehind_39 (by decide) (fun c_39 => ?_) (fun c_39 => ?_)
      · refine z_iinc (v := ((f : Nat) : Int)) (lv' := [(3, .int (iI (((f : Nat) : Int)))), (2, .int (iI (((can : Nat) : Int)))), (0, .ref (ad (5))), (1, .int (iI (((a : Nat) : Int))))]) hx hb d_PG_pageBehind_44 hl (k := 0) rfl (by omega) (by decide) rfl (fun ls hl => ?_)
        refine lv_goto (tgt := 29) hx hb d_PG_pageBehind_47 (by decide) ?_
        exact ih ls (by omega) (by rw [← he]; conv => rhs; unfold q_dn; rw [if_pos (by omega), if_neg c_39]) hl
      · refine lv_iload_n hx hb d_PG_pageBehind_42 rfl (lv_at hl 0 rfl) ?_
        have he : f + 1 = t := by rw [← he]; unfold q_dn; rw [if_pos (by omega), if_pos c_39]
        subst he
        exact kk ls
set_option maxHeartbeats 4000000 in
set_option maxRecDepth 100000 in
/-- Pages.pageBehind -/
theorem c_pageBehind (l : Launch) {D : va_G} {ad : Nat → Nat} {cs : pg_C} {rp : Option Nat} {M : Nat → Nat → Int} (sz : Nat) (a nl : Nat) (hX : ∀ i, i < 30 → wfX M i) (hL : wfl M) (hT : wfT M) (hn : M 3 2 = ((nl : Nat) : Int)) (hn6 : nl ≤ 630) (ha : a < nl) : Met l y_PG_pageBehind ws_PG_pageBehind ({ frames := 3, cells := 0, slots := 0, locals := 65 } : Room) (va_Pc [.ref (ad (5)), .int (iI (((a : Nat) : Int)))] (rw_B D vwCl (pg_tys cs) (pg_w ad cs rp M) sz)) (va_Qi (fun (r : Int32) (_ : Unit) => r = iI (((q_pbv M a : Nat) : Int))) (rw_E D vwCl (pg_tys cs) (pg_w ad cs rp M) (pg_w ad cs rp ((q_st0 M a).2)) sz) (va_A (pg_w ad cs rp M) sz)) 0 0 (va_A (pg_w ad cs rp M) sz) := by
  refine Met.ofW (cc := b_PG_pageBehind) (maxL := 4) (ret := (some .int)) (by decide) rfl ?_
  intro p e s m args below meth c s₁ B hml hv
  obtain ⟨rfl, hsz, hP, hK, hD0⟩ := hv
  have hx := B.exec
  have hb := B.bytes
  have hr := B.returns
  have hts := atoms_spec (ws := ws_PG_pageBehind) B.pre
  have hg : ∀ w ∈ gt, w.before _ s = true := fun w h => hts w (List.mem_cons_of_mem _ h)
  have hown : s.vm.findClass R_PG = some m.cls := findClass_of_methodNamed B.named
  have hlocks := B.notSynchronized
  subst hsz
  have hD := hD0.self (sz := s.heap.size)
  have hA : ∀ q : Nat, s.heap.size ≤ q → va_A (pg_w ad cs rp M) s.heap.size q := fun q h => Or.inr h
  have hS : va_S (va_A (pg_w ad cs rp M) s.heap.size) s.heap s.heap [] := va_S.rf
  have hl := lv_entry ([.ref (ad (5)), .int (iI (((a : Nat) : Int)))]) (n := 4) (Nat.le_of_ble_eq_true rfl)
  rw [lg_entry_eq]
  generalize (lg_sl ([.ref (ad (5)), .int (iI (((a : Nat) : Int)))]) ++ List.replicate (4 - (lg_sl ([.ref (ad (5)), .int (iI (((a : Nat) : Int)))])).length) Slot.unset).toArray = ls at hl ⊢
  have hl : lv_has ls 4 [(0, .ref (ad (5))), (1, .int (iI (((a : Nat) : Int))))] := hl
  have enl : nlM M = nl := by unfold nlM; omega
  obtain ⟨ct, ect⟩ : ∃ q_, q_ = (q_st0 M a).1 := ⟨_, rfl⟩
  have hctb : a + 1 ≤ ct ∧ ct ≤ nl := by rw [ect]; unfold q_st0; have := q_st_b M (nlM M - (a + 1)) (a + 1) (mset M 20 a 0); omega
  refine lv_aload_n hx hb d_PG_pageBehind_0 rfl (lv_at hl 0 rfl) ?_
  refine lv_iload_n hx hb d_PG_pageBehind_1 rfl (lv_at hl 1 rfl) ?_
  refine rw_Vi (As := [.int (iI (((a : Nat) : Int)))]) (rest := []) (w' := (pg_w ad cs rp ((q_st0 M a).2))) (z := ((ct : Nat) : Int)) ⟨hx, hb, hml, hown, hg⟩ (ect ▸ c_standLines l _ a nl hX hL hT hn hn6 ha) (cwV 1 hg (gt_V (List.mem_append_right _ (List.mem_append_right _ (List.mem_append_right _ (List.mem_append_right _ (List.mem_append_right _ (List.mem_append_right _ (List.mem_append_right _ (List.mem_append_left _ (List.mem_of_getElem? (i := 38) rfl))))))))) (List.mem_append_right _ (List.mem_append_right _ (List.mem_append_right _ (List.mem_append_right _ (List.mem_append_right _ (List.mem_append_right _ (List.mem_append_right _ (List.mem_append_left _ (List.mem_of_getElem? (i := 39) rfl))))))))) (List.mem_append_left _ (List.mem_of_getElem? (i := 14) rfl)) (List.mem_append_right _ (List.mem_append_left _ (List.mem_of_getElem? (i := 8) rfl))) (List.mem_append_right _ (List.mem_append_right _ (List.mem_append_right _ (List.mem_append_right _ (List.mem_append_right _ (List.mem_append_right _ (List.mem_append_right _ (List.mem_append_right _ (List.mem_append_left _ (List.mem_of_getElem? (i := 0) rfl))))))))))) rfl rfl rfl (by decide +kernel) ⟨Nat.le_of_ble_eq_true rfl, Nat.le_of_ble_eq_true rfl⟩) hK hP hD hS hA (va_recv hK hP (ci := 5) (q0 := 5) rfl (wl_atE (by decide) rfl)) rfl hl.1 rfl (Nat.le_of_ble_eq_true rfl) d_PG_pageBehind_2 ⟨Nat.zero_le _, Nat.zero_le _⟩ (fun H locs hP hD hS => ?_)
  obtain ⟨M_1, eM_1⟩ : ∃ q_, q_ = (q_st0 M a).2 := ⟨_, rfl⟩
  have hP : va_P D vwCl (pg_w ad cs rp M_1) H := by rw [eM_1]; exact hP
  have hD : va_D (va_A (pg_w ad cs rp M) s.heap.size) (pg_w ad cs rp M_1) := by rw [eM_1]; exact hD
  have h19 : eqb 19 20 M_1 M := by rw [eM_1]; exact fun j hj => (q_st_eq _ _ _ _ j (by omega)).trans (mset_ne (by omega))
  have hL1 : wfl M_1 := wfl_eq h19 hL
  have hX1 : ∀ i, i < 30 → wfX M_1 i := fun i hi => wfX_eq h19 (hX i hi)
  have hT1 : wfT M_1 := eqb_wfT h19 (by omega) hT
  have g3 : M_1 3 2 = ((nl : Nat) : Int) := by rw [h19 3 (by omega)]; exact hn
  obtain ⟨hmu, hma, -, hnl2⟩ := q_same h19
  refine lv_istore_n (lv' := [(2, .int (iI (((ct : Nat) : Int)))), (0, .ref (ad (5))), (1, .int (iI (((a : Nat) : Int))))]) hx hb d_PG_pageBehind_5 rfl hl (by decide) rfl (fun ls hl => ?_)
  refine lv_iload_n hx hb d_PG_pageBehind_6 rfl (lv_at hl 0 rfl) ?_
  refine lv_aload_n hx hb d_PG_pageBehind_7 rfl (lv_at hl 1 rfl) ?_
  refine z_get (ci := 5) (C := R_PG) (T := T_PG) (N := 5) (v := .ref (ad (3))) hx hb hg in_PG hown hK hP (5) (by decide) rfl rfl 4 (by decide) (hg _ (List.mem_append_right _ (List.mem_append_right _ (List.mem_append_right _ (List.mem_append_right _ (List.mem_append_left _ (List.mem_of_getElem? (i := 33) rfl))))))) (fun _ h9 => h9) rfl d_PG_pageBehind_8 ?_
  refine z_get (ci := 3) (C := R_LN) (T := T_LN) (N := 6) (v := .int (iI (M_1 (3) 2))) hx hb hg in_LN hown hK hP (3) (by decide) rfl rfl 2 (by decide) (hg _ (List.mem_append_right _ (List.mem_append_right _ (List.mem_append_right _ (List.mem_append_right _ (List.mem_append_left _ (List.mem_of_getElem? (i := 9) rfl))))))) (fun _ h9 => h9) rfl d_PG_pageBehind_11 ?_
  refine z_icmp_ge hx hb (tgt := 25) d_PG_pageBehind_14 (by decide) ⟨by omega, by omega⟩ ⟨by omega, by omega⟩ (fun c_14 => ?_) (fun c_14 => ?_)
  · refine lv_iload_n hx hb d_PG_pageBehind_25 rfl (lv_at hl 0 rfl) ?_
    have hM : M_1 = (q_st0 M a).2 := by rw [eM_1]
    have eW : pg_w ad cs rp (M_1) = pg_w ad cs rp ((q_st0 M a).2) := by rw [hM]
    have hP := Eq.mp (congrArg (fun q => va_P D vwCl q _) eW) hP
    have hD := Eq.mp (congrArg (va_D _) eW) hD
    exact W.iret (v := iI (((ct : Nat) : Int))) hx hb hr (fun t ht hW => ⟨⟨_, (), rfl, by unfold q_pbv; rw [enl, ← ect, if_pos (Or.inl (by omega))], by rw [ht]; exact hP, va_K.moved hW.alike hK, hD⟩, hS.F ht⟩) hS.2.2 d_PG_pageBehind_26
  · refine lv_aload_n hx hb d_PG_pageBehind_17 rfl (lv_at hl 1 rfl) ?_
    refine lv_iload_n hx hb d_PG_pageBehind_18 rfl (lv_at hl 0 rfl) ?_
    refine ro_V (As := [.int (iI (((ct : Nat) : Int)))]) (rest := []) (z := bz (q_mu M_1 (ct)) inferInstance) ⟨hx, hb, hml, hown, hg⟩ (c_mustEndAhead l (ct) (lq M_1 (ct)) (by omega) (by omega) (wfl_q hL1 _).2 (wfl_q hL1 _).1 (wfl_z hL1) (lf M_1 (ct - 1)) (lk M_1 (ct - 1)) (wfl_f hL1 _).1 (wfl_f hL1 _).2.1 (wfl_f hL1 _).2.2 (zb_7 hT1) (wfX_sh (hX1 _ (wfl_q hL1 _).2))) (cwV 1 hg (gt_V (List.mem_append_right _ (List.mem_append_right _ (List.mem_append_right _ (List.mem_append_right _ (List.mem_append_right _ (List.mem_append_right _ (List.mem_append_right _ (List.mem_append_right _ (List.mem_append_left _ (List.mem_of_getElem? (i := 1) rfl)))))))))) (List.mem_append_right _ (List.mem_append_right _ (List.mem_append_right _ (List.mem_append_right _ (List.mem_append_right _ (List.mem_append_right _ (List.mem_append_right _ (List.mem_append_right _ (List.mem_append_left _ (List.mem_of_getElem? (i := 2) rfl)))))))))) (List.mem_append_left _ (List.mem_of_getElem? (i := 15) rfl)) (List.mem_append_right _ (List.mem_append_left _ (List.mem_of_getElem? (i := 8) rfl))) (List.mem_append_right _ (List.mem_append_right _ (List.mem_append_right _ (List.mem_append_right _ (List.mem_append_right _ (List.mem_append_right _ (List.mem_append_right _ (List.mem_append_right _ (List.mem_append_left _ (List.mem_of_getElem? (i := 3) rfl))))))))))) rfl rfl rfl (by decide +kernel) ⟨Nat.le_of_ble_eq_true rfl, Nat.le_of_ble_eq_true rfl⟩) hK hP (va_recv hK hP (ci := 5) (q0 := 5) rfl (wl_atE (by decide) rfl)) rfl hl.1 rfl (Nat.le_of_ble_eq_true rfl) d_PG_pageBehind_19 ⟨Nat.zero_le _, Nat.zero_le _⟩ ?_
    refine z_ifb_eq hx hb (tgt := 27) d_PG_pageBehind_22 (by decide) (fun c_22 => ?_) (fun c_22 => ?_)
    · refine lv_iload_n hx hb d_PG_pageBehind_27 rfl (lv_at hl 0 rfl) ?_
      refine lv_istore_n (lv' := [(3, .int (iI (((ct : Nat) : Int)))), (2, .int (iI (((ct : Nat) : Int)))), (0, .ref (ad (5))), (1, .int (iI (((a : Nat) : Int))))]) hx hb d_PG_pageBehind_28 rfl hl (by decide) rfl (fun ls hl => ?_)
      have hdn : q_dn M_1 a ct ct = q_pbv M a := by unfold q_pbv; rw [enl, ← ect, if_neg (fun h => h.elim (fun q => by omega) (fun q => c_22 ((hmu ct).symm ▸ q))), q_dn_cong hma]
      refine lp_pageBehind hx hb hml hg hown hK hP a nl ct (q_pbv M a) hX1 hL1 g3 hn6 (by omega) (by omega) (fun ls => ?_) (fun ls => ?_) ct ls (Nat.le_refl _) hdn (lv_sub hl [0, 1, 2, 3] rfl)
      · have hM : M_1 = (q_st0 M a).2 := by rw [eM_1]
        have eW : pg_w ad cs rp (M_1) = pg_w ad cs rp ((q_st0 M a).2) := by rw [hM]
        have hP := Eq.mp (congrArg (fun q => va_P D vwCl q _) eW) hP
        have hD := Eq.mp (congrArg (va_D _) eW) hD
        exact W.iret (v := iI (((q_pbv M a : Nat) : Int))) hx hb hr (fun t ht hW => ⟨⟨_, (), rfl, rfl, by rw [ht]; exact hP, va_K.moved hW.alike hK, hD⟩, hS.F ht⟩) hS.2.2 d_PG_pageBehind_43
      · have hM : M_1 = (q_st0 M a).2 := by rw [eM_1]
        have eW : pg_w ad cs rp (M_1) = pg_w ad cs rp ((q_st0 M a).2) := by rw [hM]
        have hP := Eq.mp (congrArg (fun q => va_P D vwCl q _) eW) hP
        have hD := Eq.mp (congrArg (va_D _) eW) hD
        exact W.iret (v := iI (((q_pbv M a : Nat) : Int))) hx hb hr (fun t ht hW => ⟨⟨_, (), rfl, rfl, by rw [ht]; exact hP, va_K.moved hW.alike hK, hD⟩, hS.F ht⟩) hS.2.2 d_PG_pageBehind_51
    · refine lv_iload_n hx hb d_PG_pageBehind_25 rfl (lv_at hl 0 rfl) ?_
      have hM : M_1 = (q_st0 M a).2 := by rw [eM_1]
      have eW : pg_w ad cs rp (M_1) = pg_w ad cs rp ((q_st0 M a).2) := by rw [hM]
      have hP := Eq.mp (congrArg (fun q => va_P D vwCl q _) eW) hP
      have hD := Eq.mp (congrArg (va_D _) eW) hD
      exact W.iret (v := iI (((ct : Nat) : Int))) hx hb hr (fun t ht hW => ⟨⟨_, (), rfl, by unfold q_pbv; rw [enl, ← ect, if_pos (Or.inr (hmu ct ▸ c_22))], by rw [ht]; exact hP, va_K.moved hW.alike hK, hD⟩, hS.F ht⟩) hS.2.2 d_PG_pageBehind_26
set_option maxHeartbeats 4000000 in
set_option maxRecDepth 100000 in
theorem lp_addPage {p : Program} {l : Launch} {e : Env} {s : State} {m : MethodId} {args : Array Value} {below : List Frame} {meth : Method} {c : Code} {Q : State → Prop} {A : Nat → Prop} {H0 : Heap} {D : va_G} {ad : Nat → Nat} {cs : pg_C} {rp : Option Nat} (hx : p.tables.exec = Jvm.exec) (hb : c.code = b_PG_addPage) (hml : c.maxLocals = 4) (hg : ∀ w ∈ gt, w.before args s = true) (hown : s.vm.findClass R_PG = some m.cls) (hK : va_K D vwCl (pg_tys cs) s) (hA : ∀ q, H0.size ≤ q → A q) (a b : Nat) (num : Int) (hb6 : b ≤ 630) (MF : Nat → Nat → Int) (kk : ∀ (H : Heap) (locs : List Loc) (ls : Array Slot), va_P D vwCl (pg_w ad cs rp MF) H → va_D A (pg_w ad cs rp MF) → va_S A H0 H locs → lv_has ls 4 [(0, .ref (ad (5))), (1, .int (iI (((a : Nat) : Int)))), (2, .int (iI (((b : Nat) : Int))))] → W p l e ({ frames := 1, cells := 0, slots := 0, locals := 21 } : Room) s m args below meth c H locs 0 0 Q (F0 m 29 ls [])) : ∀ (f k : Nat) (Mc : Nat → Nat → Int), (k + f = b ∨ (f = 0 ∧ b ≤ k)) → k ≤ 630 → Mc 5 1 = num → q_pg num f k Mc = MF → ∀ (H : Heap) (locs : List Loc) (ls : Array Slot), va_P D vwCl (pg_w ad cs rp Mc) H → va_D A (pg_w ad cs rp Mc) → va_S A H0 H locs → lv_has ls 4 [(3, .int (iI (((k : Nat) : Int)))), (0, .ref (ad (5))), (1, .int (iI (((a : Nat) : Int)))), (2, .int (iI (((b : Nat) : Int))))] → W p l e ({ frames := 1, cells := 0, slots := 0, locals := 21 } : Room) s m args below meth c H locs 0 0 Q (F0 m 2 ls []) := by
  intro f
  induction f with
  | zero =>
    intro k Mc hkf hk6 hnu he H locs ls hP hD hS hl
    refine lv_iload_n hx hb d_PG_addPage_2 rfl (lv_at hl 0 rfl) ?_
    refine lv_iload_n hx hb d_PG_addPage_3 rfl (lv_at hl 3 rfl) ?_
    refine z_icmp_ge hx hb (tgt := 29) d_PG_addPage_4 (by decide) ⟨by omega, by omega⟩ ⟨by omega, by omega⟩ (fun c_4 => ?_) (fun c_4 => ?_)
    · have he : Mc = MF := he
      subst he
      exact kk H locs ls hP hD hS (lv_sub hl [1, 2, 3] rfl)
    · exact absurd c_4 (by omega)
  | succ f ih =>
    intro k Mc hkf hk6 hnu he H locs ls hP hD hS hl
    refine lv_iload_n hx hb d_PG_addPage_2 rfl (lv_at hl 0 rfl) ?_
    refine lv_iload_n hx hb d_PG_addPage_3 rfl (lv_at hl 3 rfl) ?_
    refine z_icmp_ge hx hb (tgt := 29) d_PG_addPage_4 (by decide) ⟨by omega, by omega⟩ ⟨by omega, by omega⟩ (fun c_4 => ?_) (fun c_4 => ?_)
    · exact absurd c_4 (by omega)
    · refine lv_aload_n hx hb d_PG_addPage_7 rfl (lv_at hl 1 rfl) ?_
      refine z_get (ci := 5) (C := R_PG) (T := T_PG) (N := 5) (v := .ref (ad (3))) hx hb hg in_PG hown hK hP (5) (by decide) rfl rfl 4 (by decide) (hg _ (List.mem_append_right _ (List.mem_append_right _ (List.mem_append_right _ (List.mem_append_right _ (List.mem_append_left _ (List.mem_of_getElem? (i := 33) rfl))))))) (fun _ h9 => h9) rfl d_PG_addPage_8 ?_
      refine z_get (ci := 3) (C := R_LN) (T := T_LN) (N := 6) (v := .ref (ad (10))) hx hb hg in_LN hown hK hP (3) (by decide) rfl rfl 0 (by decide) (hg _ (List.mem_append_right _ (List.mem_append_right _ (List.mem_append_right _ (List.mem_append_right _ (List.mem_append_left _ (List.mem_of_getElem? (i := 4) rfl))))))) (fun _ h9 => h9) rfl d_PG_addPage_11 ?_
      refine z_bipush hx hb (z := 6) d_PG_addPage_14 (by decide) ?_
      refine z_aald hx hb hK hP (10) 1 (by decide) (fun _ => rfl) rfl rfl (6) rfl (by decide) (by decide) d_PG_addPage_16 ?_
      refine lv_iload_n hx hb d_PG_addPage_17 rfl (lv_at hl 0 rfl) ?_
      refine lv_aload_n hx hb d_PG_addPage_18 rfl (lv_at hl 1 rfl) ?_
      refine z_get (ci := 5) (C := R_PG) (T := T_PG) (N := 5) (v := .int (iI (Mc (5) 1))) hx hb hg in_PG hown hK hP (5) (by decide) rfl rfl 1 (by decide) (hg _ (List.mem_append_right _ (List.mem_append_right _ (List.mem_append_right _ (List.mem_append_right _ (List.mem_append_left _ (List.mem_of_getElem? (i := 29) rfl))))))) (fun _ h9 => h9) rfl d_PG_addPage_19 ?_
      refine z_iast hx hb hK hP hD hS (19) 0 (by decide) (fun _ => rfl) rfl (v := Mc (5) 1) (k) rfl (by omega) (by decide) d_PG_addPage_22 (fun H locs hP hD hS => ?_)
      obtain ⟨M_1, eM_1⟩ : ∃ q_, q_ = mset Mc (19) (k) (Mc (5) 1) := ⟨_, rfl⟩
      have hP : va_P D vwCl (pg_w ad cs rp M_1) H := by rw [eM_1]; exact hP
      have hD : va_D A (pg_w ad cs rp M_1) := by rw [eM_1]; exact hD
      refine z_iinc (v := ((k + 1 : Nat) : Int)) (lv' := [(3, .int (iI (((k + 1 : Nat) : Int)))), (0, .ref (ad (5))), (1, .int (iI (((a : Nat) : Int)))), (2, .int (iI (((b : Nat) : Int))))]) hx hb d_PG_addPage_23 hl (k := 0) rfl (by omega) (by decide) rfl (fun ls hl => ?_)
      refine lv_goto (tgt := 2) hx hb d_PG_addPage_26 (by decide) ?_
      exact ih (k + 1) M_1 (by omega) (by omega) (by rw [eM_1, mset_ne (by omega)]; exact hnu) (by rw [← he, eM_1, hnu]; rfl) H locs ls hP hD hS (lv_sub hl [0, 1, 2, 3] rfl)
set_option maxHeartbeats 4000000 in
set_option maxRecDepth 100000 in
/-- Pages.addPage -/
theorem c_addPage (l : Launch) {D : va_G} {ad : Nat → Nat} {cs : pg_C} {rp : Option Nat} {M : Nat → Nat → Int} (sz : Nat) (a b : Nat) (hab : a < b) (hb6 : b ≤ 630) (hnp : 0 ≤ M 5 1 ∧ M 5 1 < 630) : Met l y_PG_addPage ws_PG_addPage ({ frames := 1, cells := 0, slots := 0, locals := 21 } : Room) (va_Pc [.ref (ad (5)), .int (iI (((a : Nat) : Int))), .int (iI (((b : Nat) : Int)))] (rw_B D vwCl (pg_tys cs) (pg_w ad cs rp M) sz)) (va_Qv (fun _ : Unit => True) (rw_E D vwCl (pg_tys cs) (pg_w ad cs rp M) (pg_w ad cs rp (q_ap M a b)) sz) (va_A (pg_w ad cs rp M) sz)) 0 0 (va_A (pg_w ad cs rp M) sz) := by
  refine Met.ofW (cc := b_PG_addPage) (maxL := 4) (ret := none) (by decide) rfl ?_
  intro p e s m args below meth c s₁ B hml hv
  obtain ⟨rfl, hsz, hP, hK, hD0⟩ := hv
  have hx := B.exec
  have hb := B.bytes
  have hr := B.returns
  have hts := atoms_spec (ws := ws_PG_addPage) B.pre
  have hg : ∀ w ∈ gt, w.before _ s = true := fun w h => hts w (List.mem_cons_of_mem _ h)
  have hown : s.vm.findClass R_PG = some m.cls := findClass_of_methodNamed B.named
  have hlocks := B.notSynchronized
  subst hsz
  have hD := hD0.self (sz := s.heap.size)
  have hA : ∀ q : Nat, s.heap.size ≤ q → va_A (pg_w ad cs rp M) s.heap.size q := fun q h => Or.inr h
  have hS : va_S (va_A (pg_w ad cs rp M) s.heap.size) s.heap s.heap [] := va_S.rf
  have hl := lv_entry ([.ref (ad (5)), .int (iI (((a : Nat) : Int))), .int (iI (((b : Nat) : Int)))]) (n := 4) (Nat.le_of_ble_eq_true rfl)
  rw [lg_entry_eq]
  generalize (lg_sl ([.ref (ad (5)), .int (iI (((a : Nat) : Int))), .int (iI (((b : Nat) : Int)))]) ++ List.replicate (4 - (lg_sl ([.ref (ad (5)), .int (iI (((a : Nat) : Int))), .int (iI (((b : Nat) : Int)))])).length) Slot.unset).toArray = ls at hl ⊢
  have hl : lv_has ls 4 [(0, .ref (ad (5))), (1, .int (iI (((a : Nat) : Int)))), (2, .int (iI (((b : Nat) : Int))))] := hl
  have hnm : M 5 1 = ((npM M : Nat) : Int) := by unfold npM; omega
  have hnm6 : npM M < 630 := by unfold npM; omega
  refine lv_iload_n hx hb d_PG_addPage_0 rfl (lv_at hl 1 rfl) ?_
  refine lv_istore_n (lv' := [(3, .int (iI (((a : Nat) : Int)))), (0, .ref (ad (5))), (1, .int (iI (((a : Nat) : Int)))), (2, .int (iI (((b : Nat) : Int))))]) hx hb d_PG_addPage_1 rfl hl (by decide) rfl (fun ls hl => ?_)
  obtain ⟨MG, eMG⟩ : ∃ q_, q_ = q_pg (M 5 1) (b - a) a M := ⟨_, rfl⟩
  refine lp_addPage hx hb hml hg hown hK hA a b (M 5 1) hb6 MG (fun H locs ls hP hD hS hl => ?_) (b - a) a M (by omega) (by omega) rfl eMG.symm s.heap [] ls hP hD hS (lv_sub hl [0, 1, 2, 3] rfl)
  have k5_1 : MG 5 1 = ((npM M : Nat) : Int) := by rw [eMG, q_pg_eq _ _ _ _ 5 (by omega)]; exact hnm
  refine lv_aload_n hx hb d_PG_addPage_29 rfl (lv_at hl 0 rfl) ?_
  refine z_get (ci := 5) (C := R_PG) (T := T_PG) (N := 5) (v := .ref (ad (12))) hx hb hg in_PG hown hK hP (5) (by decide) rfl rfl 0 (by decide) (hg _ (List.mem_append_right _ (List.mem_append_right _ (List.mem_append_right _ (List.mem_append_right _ (List.mem_append_left _ (List.mem_of_getElem? (i := 27) rfl))))))) (fun _ h9 => h9) rfl d_PG_addPage_30 ?_
  refine z_iconst hx hb (z := 0) d_PG_addPage_33 ?_
  refine z_aald hx hb hK hP (12) 1 (by decide) (fun _ => rfl) rfl rfl (0) rfl (by decide) (by decide) d_PG_addPage_34 ?_
  refine lv_aload_n hx hb d_PG_addPage_35 rfl (lv_at hl 0 rfl) ?_
  refine z_get (ci := 5) (C := R_PG) (T := T_PG) (N := 5) (v := .int (iI (MG (5) 1))) hx hb hg in_PG hown hK hP (5) (by decide) rfl rfl 1 (by decide) (hg _ (List.mem_append_right _ (List.mem_append_right _ (List.mem_append_right _ (List.mem_append_right _ (List.mem_append_left _ (List.mem_of_getElem? (i := 29) rfl))))))) (fun _ h9 => h9) rfl d_PG_addPage_36 ?_
  refine lv_iload_n hx hb d_PG_addPage_39 rfl (lv_at hl 1 rfl) ?_
  refine z_iast hx hb hK hP hD hS (26) 0 (by decide) (fun _ => rfl) rfl (v := ((a : Nat) : Int)) (npM M) k5_1 (by omega) (by decide) d_PG_addPage_40 (fun H locs hP hD hS => ?_)
  obtain ⟨M_1, eM_1⟩ : ∃ q_, q_ = mset MG (26) (npM M) (((a : Nat) : Int)) := ⟨_, rfl⟩
  have hP : va_P D vwCl (pg_w ad cs rp M_1) H := by rw [eM_1]; exact hP
  have hD : va_D (va_A (pg_w ad cs rp M) s.heap.size) (pg_w ad cs rp M_1) := by rw [eM_1]; exact hD
  have k5_2 : M_1 5 1 = ((npM M : Nat) : Int) := by rw [eM_1, mset_ne (by omega)]; exact k5_1
  refine lv_aload_n hx hb d_PG_addPage_41 rfl (lv_at hl 0 rfl) ?_
  refine z_get (ci := 5) (C := R_PG) (T := T_PG) (N := 5) (v := .ref (ad (12))) hx hb hg in_PG hown hK hP (5) (by decide) rfl rfl 0 (by decide) (hg _ (List.mem_append_right _ (List.mem_append_right _ (List.mem_append_right _ (List.mem_append_right _ (List.mem_append_left _ (List.mem_of_getElem? (i := 27) rfl))))))) (fun _ h9 => h9) rfl d_PG_addPage_42 ?_
  refine z_iconst hx hb (z := 1) d_PG_addPage_45 ?_
  refine z_aald hx hb hK hP (12) 1 (by decide) (fun _ => rfl) rfl rfl (1) rfl (by decide) (by decide) d_PG_addPage_46 ?_
  refine lv_aload_n hx hb d_PG_addPage_47 rfl (lv_at hl 0 rfl) ?_
  refine z_get (ci := 5) (C := R_PG) (T := T_PG) (N := 5) (v := .int (iI (M_1 (5) 1))) hx hb hg in_PG hown hK hP (5) (by decide) rfl rfl 1 (by decide) (hg _ (List.mem_append_right _ (List.mem_append_right _ (List.mem_append_right _ (List.mem_append_right _ (List.mem_append_left _ (List.mem_of_getElem? (i := 29) rfl))))))) (fun _ h9 => h9) rfl d_PG_addPage_48 ?_
  refine lv_iload_n hx hb d_PG_addPage_51 rfl (lv_at hl 2 rfl) ?_
  refine lv_iload_n hx hb d_PG_addPage_52 rfl (lv_at hl 1 rfl) ?_
  refine z_isub hx hb d_PG_addPage_53 (v := (((b : Nat) : Int) - ((a : Nat) : Int))) rfl ?_
  refine z_iast hx hb hK hP hD hS (27) 0 (by decide) (fun _ => rfl) rfl (v := (((b : Nat) : Int) - ((a : Nat) : Int))) (npM M) k5_2 (by omega) (by decide) d_PG_addPage_54 (fun H locs hP hD hS => ?_)
  obtain ⟨M_2, eM_2⟩ : ∃ q_, q_ = mset M_1 (27) (npM M) ((((b : Nat) : Int) - ((a : Nat) : Int))) := ⟨_, rfl⟩
  have hP : va_P D vwCl (pg_w ad cs rp M_2) H := by rw [eM_2]; exact hP
  have hD : va_D (va_A (pg_w ad cs rp M) s.heap.size) (pg_w ad cs rp M_2) := by rw [eM_2]; exact hD
  have k5_3 : M_2 5 1 = ((npM M : Nat) : Int) := by rw [eM_2, mset_ne (by omega)]; exact k5_2
  refine lv_aload_n hx hb d_PG_addPage_55 rfl (lv_at hl 0 rfl) ?_
  refine z_get (ci := 5) (C := R_PG) (T := T_PG) (N := 5) (v := .ref (ad (12))) hx hb hg in_PG hown hK hP (5) (by decide) rfl rfl 0 (by decide) (hg _ (List.mem_append_right _ (List.mem_append_right _ (List.mem_append_right _ (List.mem_append_right _ (List.mem_append_left _ (List.mem_of_getElem? (i := 27) rfl))))))) (fun _ h9 => h9) rfl d_PG_addPage_56 ?_
  refine z_iconst hx hb (z := 2) d_PG_addPage_59 ?_
  refine z_aald hx hb hK hP (12) 1 (by decide) (fun _ => rfl) rfl rfl (2) rfl (by decide) (by decide) d_PG_addPage_60 ?_
  refine lv_aload_n hx hb d_PG_addPage_61 rfl (lv_at hl 0 rfl) ?_
  refine z_get (ci := 5) (C := R_PG) (T := T_PG) (N := 5) (v := .int (iI (M_2 (5) 1))) hx hb hg in_PG hown hK hP (5) (by decide) rfl rfl 1 (by decide) (hg _ (List.mem_append_right _ (List.mem_append_right _ (List.mem_append_right _ (List.mem_append_right _ (List.mem_append_left _ (List.mem_of_getElem? (i := 29) rfl))))))) (fun _ h9 => h9) rfl d_PG_addPage_62 ?_
  refine lv_aload_n hx hb d_PG_addPage_65 rfl (lv_at hl 0 rfl) ?_
  refine lv_iload_n hx hb d_PG_addPage_66 rfl (lv_at hl 2 rfl) ?_
  refine z_iconst hx hb (z := 1) d_PG_addPage_67 ?_
  refine z_isub hx hb d_PG_addPage_68 (v := ((b - 1 : Nat) : Int)) (by omega) ?_
  have v20 : M_2 20 = M 20 := by rw [eM_2, eM_1, eMG, mset_ne (by omega), mset_ne (by omega), q_pg_eq _ _ _ _ 20 (by omega)]
  have v18 : M_2 18 = M 18 := by rw [eM_2, eM_1, eMG, mset_ne (by omega), mset_ne (by omega), q_pg_eq _ _ _ _ 18 (by omega)]
  refine ro_V (As := [.int (iI (((b - 1 : Nat) : Int)))]) (rest := [.int (iI (M_2 (5) 1)), .ref (ad (28))]) (z := M 20 (b - 1) + M 18 (b - 1)) ⟨hx, hb, hml, hown, hg⟩ ((show M_2 20 (b - 1) + M_2 18 (b - 1) = M 20 (b - 1) + M 18 (b - 1) by rw [v20, v18]) ▸ c_bottomOf l (b - 1) (by omega)) (cwV 1 hg (gt_V (List.mem_append_right _ (List.mem_append_right _ (List.mem_append_right _ (List.mem_append_right _ (List.mem_append_right _ (List.mem_append_right _ (List.mem_append_right _ (List.mem_append_right _ (List.mem_append_left _ (List.mem_of_getElem? (i := 15) rfl)))))))))) (List.mem_append_right _ (List.mem_append_right _ (List.mem_append_right _ (List.mem_append_right _ (List.mem_append_right _ (List.mem_append_right _ (List.mem_append_right _ (List.mem_append_right _ (List.mem_append_left _ (List.mem_of_getElem? (i := 16) rfl)))))))))) (List.mem_append_left _ (List.mem_of_getElem? (i := 17) rfl)) (List.mem_append_right _ (List.mem_append_left _ (List.mem_of_getElem? (i := 8) rfl))) (List.mem_append_right _ (List.mem_append_right _ (List.mem_append_right _ (List.mem_append_right _ (List.mem_append_right _ (List.mem_append_right _ (List.mem_append_right _ (List.mem_append_right _ (List.mem_append_left _ (List.mem_of_getElem? (i := 17) rfl))))))))))) rfl rfl rfl (by decide +kernel) ⟨Nat.le_of_ble_eq_true rfl, Nat.le_of_ble_eq_true rfl⟩) hK hP (va_recv hK hP (ci := 5) (q0 := 5) rfl (wl_atE (by decide) rfl)) rfl hl.1 rfl (Nat.le_of_ble_eq_true rfl) d_PG_addPage_69 ⟨Nat.zero_le _, Nat.zero_le _⟩ ?_
  refine z_iast hx hb hK hP hD hS (28) 0 (by decide) (fun _ => rfl) rfl (v := M 20 (b - 1) + M 18 (b - 1)) (npM M) k5_3 (by omega) (by decide) d_PG_addPage_72 (fun H locs hP hD hS => ?_)
  obtain ⟨M_3, eM_3⟩ : ∃ q_, q_ = mset M_2 (28) (npM M) (M 20 (b - 1) + M 18 (b - 1)) := ⟨_, rfl⟩
  have hP : va_P D vwCl (pg_w ad cs rp M_3) H := by rw [eM_3]; exact hP
  have hD : va_D (va_A (pg_w ad cs rp M) s.heap.size) (pg_w ad cs rp M_3) := by rw [eM_3]; exact hD
  have k5_4 : M_3 5 1 = ((npM M : Nat) : Int) := by rw [eM_3, mset_ne (by omega)]; exact k5_3
  refine lv_aload_n hx hb d_PG_addPage_73 rfl (lv_at hl 0 rfl) ?_
  refine lv_dup hx hb d_PG_addPage_74 rfl ?_
  refine z_get (ci := 5) (C := R_PG) (T := T_PG) (N := 5) (v := .int (iI (M_3 (5) 1))) hx hb hg in_PG hown hK hP (5) (by decide) rfl rfl 1 (by decide) (hg _ (List.mem_append_right _ (List.mem_append_right _ (List.mem_append_right _ (List.mem_append_right _ (List.mem_append_left _ (List.mem_of_getElem? (i := 29) rfl))))))) (fun _ h9 => h9) rfl d_PG_addPage_75 ?_
  refine z_iconst hx hb (z := 1) d_PG_addPage_78 ?_
  refine z_iadd hx hb d_PG_addPage_79 (v := (M_3 (5) 1 + 1)) rfl ?_
  refine z_put (ci := 5) (C := R_PG) (T := T_PG) (N := 5) (v := .int (iI ((M_3 (5) 1 + 1)))) (ty := .int) (ce' := (pg_ce ad cs rp)) (r := va_up (M_3 (5)) 1 ((M_3 (5) 1 + 1))) hx hb hg in_PG ty_PG tk_PG nm_PG hown hK hP hD hS (5) (by decide) rfl rfl 1 (by decide) (hg _ (List.mem_append_right _ (List.mem_append_right _ (List.mem_append_right _ (List.mem_append_right _ (List.mem_append_left _ (List.mem_of_getElem? (i := 29) rfl))))))) (fun _ h9 => h9) rfl (by decide +kernel) rfl rfl (Nat.le_of_ble_eq_true rfl) (fun _ _ => rfl) rfl d_PG_addPage_80 (fun H locs hP hD hS => ?_)
  obtain ⟨M_4, eM_4⟩ : ∃ q_, q_ = mset M_3 (5) (1) ((M_3 (5) 1 + 1)) := ⟨_, rfl⟩
  have hP : va_P D vwCl (pg_w ad cs rp M_4) H := by rw [eM_4]; exact hP
  have hD : va_D (va_A (pg_w ad cs rp M) s.heap.size) (pg_w ad cs rp M_4) := by rw [eM_4]; exact hD
  have hM : M_4 = q_ap M a b := by rw [eM_4]; unfold q_ap; rw [k5_4, hnm, eM_3, eM_2, eM_1, eMG, hnm]
  have eW : pg_w ad cs rp (M_4) = pg_w ad cs rp (q_ap M a b) := by rw [hM]
  have hP := Eq.mp (congrArg (fun q => va_P D vwCl q _) eW) hP
  have hD := Eq.mp (congrArg (va_D _) eW) hD
  exact W.vret hx hb hr (fun t ht hW => ⟨⟨(), rfl, trivial, by rw [ht]; exact hP, va_K.moved hW.alike hK, hD⟩, hS.F ht⟩) hS.2.2 d_PG_addPage_83
set_option maxHeartbeats 4000000 in
set_option maxRecDepth 100000 in
theorem lp_fillAll {p : Program} {l : Launch} {e : Env} {s : State} {m : MethodId} {args : Array Value} {below : List Frame} {meth : Method} {c : Code} {Q : State → Prop} {A : Nat → Prop} {H0 : Heap} {D : va_G} {ad : Nat → Nat} {cs : pg_C} {rp : Option Nat} (hx : p.tables.exec = Jvm.exec) (hb : c.code = b_PG_fillAll) (hml : c.maxLocals = 3) (hg : ∀ w ∈ gt, w.before args s = true) (hown : s.vm.findClass R_PG = some m.cls) (hK : va_K D vwCl (pg_tys cs) s) (hA : ∀ q, H0.size ≤ q → A q) {M0 : Nat → Nat → Int} (nl : Nat) (hX : ∀ i, i < 30 → wfX M0 i) (hL : wfl M0) (hT : wfT M0) (hn : M0 3 2 = ((nl : Nat) : Int)) (hn6 : nl ≤ 630) (MF : Nat → Nat → Int) (kk : ∀ (H : Heap) (locs : List Loc) (ls : Array Slot), va_P D vwCl (pg_w ad cs rp MF) H → va_D A (pg_w ad cs rp MF) → va_S A H0 H locs → lv_has ls 3 [] → W p l e ({ frames := 4, cells := 0, slots := 0, locals := 88 } : Room) s m args below meth c H locs 0 0 Q (F0 m 41 ls [])) : ∀ (f a : Nat) (M : Nat → Nat → Int), nl ≤ a + f → a ≤ nl → eqG M M0 → 0 ≤ M 5 1 ∧ M 5 1 ≤ ((a : Nat) : Int) → q_fill f a M = MF → ∀ (H : Heap) (locs : List Loc) (ls : Array Slot), va_P D vwCl (pg_w ad cs rp M) H → va_D A (pg_w ad cs rp M) → va_S A H0 H locs → lv_has ls 3 [(1, .int (iI (((a : Nat) : Int)))), (0, .ref (ad (5)))] → W p l e ({ frames := 4, cells := 0, slots := 0, locals := 88 } : Room) s m args below meth c H locs 0 0 Q (F0 m 7 ls []) := by
  intro f
  induction f with
  | zero =>
    intro a M hf ha hq hnp he H locs ls hP hD hS hl
    have hL1 : wfl M := eqG_wfl hq hL
    have hX1 : ∀ i, i < 30 → wfX M i := fun i hi => eqG_wfX hq (hX i hi)
    have hT1 : wfT M := eqG_wfT hq hT
    have g3 : M 3 2 = ((nl : Nat) : Int) := by rw [hq 3 (by omega) (by omega) (by omega) (by omega)]; exact hn
    have enl : nlM M = nl := by unfold nlM; omega
    refine lv_iload_n hx hb d_PG_fillAll_7 rfl (lv_at hl 0 rfl) ?_
    refine lv_aload_n hx hb d_PG_fillAll_8 rfl (lv_at hl 1 rfl) ?_
    refine z_get (ci := 5) (C := R_PG) (T := T_PG) (N := 5) (v := .ref (ad (3))) hx hb hg in_PG hown hK hP (5) (by decide) rfl rfl 4 (by decide) (hg _ (List.mem_append_right _ (List.mem_append_right _ (List.mem_append_right _ (List.mem_append_right _ (List.mem_append_left _ (List.mem_of_getElem? (i := 33) rfl))))))) (fun _ h9 => h9) rfl d_PG_fillAll_9 ?_
    refine z_get (ci := 3) (C := R_LN) (T := T_LN) (N := 6) (v := .int (iI (M (3) 2))) hx hb hg in_LN hown hK hP (3) (by decide) rfl rfl 2 (by decide) (hg _ (List.mem_append_right _ (List.mem_append_right _ (List.mem_append_right _ (List.mem_append_right _ (List.mem_append_left _ (List.mem_of_getElem? (i := 9) rfl))))))) (fun _ h9 => h9) rfl d_PG_fillAll_12 ?_
    refine z_icmp_ge hx hb (tgt := 41) d_PG_fillAll_15 (by decide) ⟨by omega, by omega⟩ ⟨by omega, by omega⟩ (fun c_15 => ?_) (fun c_15 => ?_)
    · have he : M = MF := he
      subst he
      exact kk H locs ls hP hD hS (lv_sub hl [] rfl)
    · exact absurd c_15 (by omega)
  | succ f ih =>
    intro a M hf ha hq hnp he H locs ls hP hD hS hl
    have hL1 : wfl M := eqG_wfl hq hL
    have hX1 : ∀ i, i < 30 → wfX M i := fun i hi => eqG_wfX hq (hX i hi)
    have hT1 : wfT M := eqG_wfT hq hT
    have g3 : M 3 2 = ((nl : Nat) : Int) := by rw [hq 3 (by omega) (by omega) (by omega) (by omega)]; exact hn
    have enl : nlM M = nl := by unfold nlM; omega
    refine lv_iload_n hx hb d_PG_fillAll_7 rfl (lv_at hl 0 rfl) ?_
    refine lv_aload_n hx hb d_PG_fillAll_8 rfl (lv_at hl 1 rfl) ?_
    refine z_get (ci := 5) (C := R_PG) (T := T_PG) (N := 5) (v := .ref (ad (3))) hx hb hg in_PG hown hK hP (5) (by decide) rfl rfl 4 (by decide) (hg _ (List.mem_append_right _ (List.mem_append_right _ (List.mem_append_right _ (List.mem_append_right _ (List.mem_append_left _ (List.mem_of_getElem? (i := 33) rfl))))))) (fun _ h9 => h9) rfl d_PG_fillAll_9 ?_
    refine z_get (ci := 3) (C := R_LN) (T := T_LN) (N := 6) (v := .int (iI (M (3) 2))) hx hb hg in_LN hown hK hP (3) (by decide) rfl rfl 2 (by decide) (hg _ (List.mem_append_right _ (List.mem_append_right _ (List.mem_append_right _ (List.mem_append_right _ (List.mem_append_left _ (List.mem_of_getElem? (i := 9) rfl))))))) (fun _ h9 => h9) rfl d_PG_fillAll_12 ?_
    refine z_icmp_ge hx hb (tgt := 41) d_PG_fillAll_15 (by decide) ⟨by omega, by omega⟩ ⟨by omega, by omega⟩ (fun c_15 => ?_) (fun c_15 => ?_)
    · have he : M = MF := by rw [← he]; unfold q_fill; rw [if_neg (by omega)]
      subst he
      exact kk H locs ls hP hD hS (lv_sub hl [] rfl)
    · refine lv_iload_n hx hb d_PG_fillAll_18 rfl (lv_at hl 0 rfl) ?_
      refine z_iconst hx hb (z := 1) d_PG_fillAll_19 ?_
      refine z_iadd hx hb d_PG_fillAll_20 (v := ((a + 1 : Nat) : Int)) (by omega) ?_
      refine lv_aload_n hx hb d_PG_fillAll_21 rfl (lv_at hl 1 rfl) ?_
      refine lv_iload_n hx hb d_PG_fillAll_22 rfl (lv_at hl 0 rfl) ?_
      obtain ⟨bv, ebv⟩ : ∃ q_, q_ = q_pbv M a := ⟨_, rfl⟩
      have hbv : bv ≤ nl := by rw [ebv, ← enl]; exact q_pbv_le _ _ (by omega)
      obtain ⟨bx, ebx⟩ : ∃ q_, q_ = max (a + 1) bv := ⟨_, rfl⟩
      refine rw_Vi (As := [.int (iI (((a : Nat) : Int)))]) (rest := [.int (iI (((a + 1 : Nat) : Int)))]) (w' := (pg_w ad cs rp ((q_st0 M a).2))) (z := ((bv : Nat) : Int)) ⟨hx, hb, hml, hown, hg⟩ (ebv ▸ c_pageBehind l _ a nl hX1 hL1 hT1 g3 hn6 (by omega)) (cwV 1 hg (gt_V (List.mem_append_right _ (List.mem_append_right _ (List.mem_append_right _ (List.mem_append_right _ (List.mem_append_right _ (List.mem_append_right _ (List.mem_append_right _ (List.mem_append_left _ (List.mem_of_getElem? (i := 35) rfl))))))))) (List.mem_append_right _ (List.mem_append_right _ (List.mem_append_right _ (List.mem_append_right _ (List.mem_append_right _ (List.mem_append_right _ (List.mem_append_right _ (List.mem_append_left _ (List.mem_of_getElem? (i := 36) rfl))))))))) (List.mem_append_left _ (List.mem_of_getElem? (i := 13) rfl)) (List.mem_append_right _ (List.mem_append_left _ (List.mem_of_getElem? (i := 8) rfl))) (List.mem_append_right _ (List.mem_append_right _ (List.mem_append_right _ (List.mem_append_right _ (List.mem_append_right _ (List.mem_append_right _ (List.mem_append_right _ (List.mem_append_left _ (List.mem_of_getElem? (i := 37) rfl)))))))))) rfl rfl rfl (by decide +kernel) ⟨Nat.le_of_ble_eq_true rfl, Nat.le_of_ble_eq_true rfl⟩) hK hP hD hS hA (va_recv hK hP (ci := 5) (q0 := 5) rfl (wl_atE (by decide) rfl)) rfl hl.1 rfl (Nat.le_of_ble_eq_true rfl) d_PG_fillAll_23 ⟨Nat.zero_le _, Nat.zero_le _⟩ (fun H locs hP hD hS => ?_)
      obtain ⟨M_1, eM_1⟩ : ∃ q_, q_ = (q_st0 M a).2 := ⟨_, rfl⟩
      have hP : va_P D vwCl (pg_w ad cs rp M_1) H := by rw [eM_1]; exact hP
      have hD : va_D A (pg_w ad cs rp M_1) := by rw [eM_1]; exact hD
      have hs5 : M_1 5 = M 5 := by rw [eM_1]; exact (q_st_eq _ _ _ _ 5 (by omega)).trans (mset_ne (by omega))
      refine z_mmax hx hb (hml.trans hl.1.symm) hown (hg _ (List.mem_append_right _ (List.mem_append_right _ (List.mem_append_right _ (List.mem_append_right _ (List.mem_append_right _ (List.mem_append_right _ (List.mem_append_right _ (List.mem_append_right _ (List.mem_append_left _ (List.mem_of_getElem? (i := 28) rfl))))))))))) (hg _ (List.mem_append_right _ (List.mem_append_right _ (List.mem_append_right _ (List.mem_append_right _ (List.mem_append_right _ (List.mem_append_left _ (List.mem_of_getElem? (i := 28) rfl)))))))) (hg _ (List.mem_append_right _ (List.mem_append_left _ (List.mem_of_getElem? (i := 17) rfl)))) (hg _ (List.mem_append_right _ (List.mem_append_right _ (List.mem_append_right _ (List.mem_append_right _ (List.mem_append_right _ (List.mem_append_left _ (List.mem_of_getElem? (i := 29) rfl)))))))) (Nat.le_of_ble_eq_true rfl) (Nat.le_of_ble_eq_true rfl) (Nat.zero_le _) (Nat.zero_le _) ⟨by omega, by omega⟩ ⟨by omega, by omega⟩ d_PG_fillAll_26 (v := ((bx : Nat) : Int)) (by rw [ebx]; omega) ?_
      refine lv_istore_n (lv' := [(2, .int (iI (((bx : Nat) : Int)))), (1, .int (iI (((a : Nat) : Int)))), (0, .ref (ad (5)))]) hx hb d_PG_fillAll_29 rfl hl (by decide) rfl (fun ls hl => ?_)
      refine lv_aload_n hx hb d_PG_fillAll_30 rfl (lv_at hl 2 rfl) ?_
      refine lv_iload_n hx hb d_PG_fillAll_31 rfl (lv_at hl 1 rfl) ?_
      refine lv_iload_n hx hb d_PG_fillAll_32 rfl (lv_at hl 0 rfl) ?_
      refine rw_Vv (As := [.int (iI (((a : Nat) : Int))), .int (iI (((bx : Nat) : Int)))]) (rest := []) (w' := (pg_w ad cs rp (q_ap M_1 a bx))) ⟨hx, hb, hml, hown, hg⟩ (c_addPage l _ a bx (by omega) (by omega) (by rw [hs5]; omega)) (cwV 2 hg (gt_V (List.mem_append_right _ (List.mem_append_right _ (List.mem_append_right _ (List.mem_append_right _ (List.mem_append_right _ (List.mem_append_right _ (List.mem_append_right _ (List.mem_append_right _ (List.mem_append_left _ (List.mem_of_getElem? (i := 29) rfl)))))))))) (List.mem_append_right _ (List.mem_append_right _ (List.mem_append_right _ (List.mem_append_right _ (List.mem_append_right _ (List.mem_append_right _ (List.mem_append_right _ (List.mem_append_right _ (List.mem_append_left _ (List.mem_of_getElem? (i := 30) rfl)))))))))) (List.mem_append_left _ (List.mem_of_getElem? (i := 20) rfl)) (List.mem_append_right _ (List.mem_append_left _ (List.mem_of_getElem? (i := 8) rfl))) (List.mem_append_right _ (List.mem_append_right _ (List.mem_append_right _ (List.mem_append_right _ (List.mem_append_right _ (List.mem_append_right _ (List.mem_append_right _ (List.mem_append_right _ (List.mem_append_left _ (List.mem_of_getElem? (i := 31) rfl))))))))))) rfl rfl rfl (by decide +kernel) ⟨Nat.le_of_ble_eq_true rfl, Nat.le_of_ble_eq_true rfl⟩) hK hP hD hS hA (va_recv hK hP (ci := 5) (q0 := 5) rfl (wl_atE (by decide) rfl)) rfl hl.1 rfl (Nat.le_of_ble_eq_true rfl) d_PG_fillAll_33 ⟨Nat.zero_le _, Nat.zero_le _⟩ (fun H locs hP hD hS => ?_)
      obtain ⟨M_2, eM_2⟩ : ∃ q_, q_ = q_ap M_1 a bx := ⟨_, rfl⟩
      have hP : va_P D vwCl (pg_w ad cs rp M_2) H := by rw [eM_2]; exact hP
      have hD : va_D A (pg_w ad cs rp M_2) := by rw [eM_2]; exact hD
      refine lv_iload_n hx hb d_PG_fillAll_36 rfl (lv_at hl 0 rfl) ?_
      refine lv_istore_n (lv' := [(1, .int (iI (((bx : Nat) : Int)))), (2, .int (iI (((bx : Nat) : Int)))), (0, .ref (ad (5)))]) hx hb d_PG_fillAll_37 rfl hl (by decide) rfl (fun ls hl => ?_)
      refine lv_goto (tgt := 7) hx hb d_PG_fillAll_38 (by decide) ?_
      have hF : q_fill f bx M_2 = MF := by rw [← he]; conv => rhs; unfold q_fill; rw [if_pos (by omega), ← ebv, ← ebx, ← eM_1, ← eM_2]
      have h51 : M_2 5 1 = M 5 1 + 1 := by rw [eM_2]; unfold q_ap; rw [mset_same, hs5]
      exact ih bx M_2 (by omega) (by omega) (by rw [eM_2, eM_1]; exact eqG_tr (q_ap_eqG _ _ _) (eqG_tr (q_st0_eqG _ _) hq)) (by omega) hF H locs ls hP hD hS (lv_sub hl [0, 2] rfl)
set_option maxHeartbeats 4000000 in
set_option maxRecDepth 100000 in
/-- Pages.fillAll -/
theorem c_fillAll (l : Launch) {D : va_G} {ad : Nat → Nat} {cs : pg_C} {rp : Option Nat} {M : Nat → Nat → Int} (sz : Nat) (nl : Nat) (hX : ∀ i, i < 30 → wfX M i) (hL : wfl M) (hT : wfT M) (hn : M 3 2 = ((nl : Nat) : Int)) (hn6 : nl ≤ 630) : Met l y_PG_fillAll ws_PG_fillAll ({ frames := 4, cells := 0, slots := 0, locals := 88 } : Room) (va_Pc [.ref (ad (5))] (rw_B D vwCl (pg_tys cs) (pg_w ad cs rp M) sz)) (va_Qv (fun _ : Unit => True) (rw_E D vwCl (pg_tys cs) (pg_w ad cs rp M) (pg_w ad cs rp (q_fill nl 0 (mset M 5 1 0))) sz) (va_A (pg_w ad cs rp M) sz)) 0 0 (va_A (pg_w ad cs rp M) sz) := by
  refine Met.ofW (cc := b_PG_fillAll) (maxL := 3) (ret := none) (by decide) rfl ?_
  intro p e s m args below meth c s₁ B hml hv
  obtain ⟨rfl, hsz, hP, hK, hD0⟩ := hv
  have hx := B.exec
  have hb := B.bytes
  have hr := B.returns
  have hts := atoms_spec (ws := ws_PG_fillAll) B.pre
  have hg : ∀ w ∈ gt, w.before _ s = true := fun w h => hts w (List.mem_cons_of_mem _ h)
  have hown : s.vm.findClass R_PG = some m.cls := findClass_of_methodNamed B.named
  have hlocks := B.notSynchronized
  subst hsz
  have hD := hD0.self (sz := s.heap.size)
  have hA : ∀ q : Nat, s.heap.size ≤ q → va_A (pg_w ad cs rp M) s.heap.size q := fun q h => Or.inr h
  have hS : va_S (va_A (pg_w ad cs rp M) s.heap.size) s.heap s.heap [] := va_S.rf
  have hl := lv_entry ([.ref (ad (5))]) (n := 3) (Nat.le_of_ble_eq_true rfl)
  rw [lg_entry_eq]
  generalize (lg_sl ([.ref (ad (5))]) ++ List.replicate (3 - (lg_sl ([.ref (ad (5))])).length) Slot.unset).toArray = ls at hl ⊢
  have hl : lv_has ls 3 [(0, .ref (ad (5)))] := hl
  refine lv_aload_n hx hb d_PG_fillAll_0 rfl (lv_at hl 0 rfl) ?_
  refine z_iconst hx hb (z := 0) d_PG_fillAll_1 ?_
  refine z_put (ci := 5) (C := R_PG) (T := T_PG) (N := 5) (v := .int (iI (0))) (ty := .int) (ce' := (pg_ce ad cs rp)) (r := va_up (M (5)) 1 (0)) hx hb hg in_PG ty_PG tk_PG nm_PG hown hK hP hD hS (5) (by decide) rfl rfl 1 (by decide) (hg _ (List.mem_append_right _ (List.mem_append_right _ (List.mem_append_right _ (List.mem_append_right _ (List.mem_append_left _ (List.mem_of_getElem? (i := 29) rfl))))))) (fun _ h9 => h9) rfl (by decide +kernel) rfl rfl (Nat.le_of_ble_eq_true rfl) (fun _ _ => rfl) rfl d_PG_fillAll_2 (fun H locs hP hD hS => ?_)
  obtain ⟨M_1, eM_1⟩ : ∃ q_, q_ = mset M (5) (1) (0) := ⟨_, rfl⟩
  have hP : va_P D vwCl (pg_w ad cs rp M_1) H := by rw [eM_1]; exact hP
  have hD : va_D (va_A (pg_w ad cs rp M) s.heap.size) (pg_w ad cs rp M_1) := by rw [eM_1]; exact hD
  refine z_iconst hx hb (z := 0) d_PG_fillAll_5 ?_
  refine lv_istore_n (lv' := [(1, .int (iI (0))), (0, .ref (ad (5)))]) hx hb d_PG_fillAll_6 rfl hl (by decide) rfl (fun ls hl => ?_)
  refine lp_fillAll hx hb hml hg hown hK hA nl hX hL hT hn hn6 (q_fill nl 0 (mset M 5 1 0)) (fun H locs ls hP hD hS hl => ?_) nl 0 M_1 (by omega) (by omega) (by rw [eM_1]; exact fun j h5 _ _ _ => mset_ne h5) (by rw [eM_1, mset_same]; omega) (by rw [eM_1]) H locs ls hP hD hS (lv_sub hl [0, 1] rfl)
  have hM : q_fill nl 0 (mset M 5 1 0) = q_fill nl 0 (mset M 5 1 0) := rfl
  have eW : pg_w ad cs rp (q_fill nl 0 (mset M 5 1 0)) = pg_w ad cs rp (q_fill nl 0 (mset M 5 1 0)) := by rw [hM]
  have hP := Eq.mp (congrArg (fun q => va_P D vwCl q _) eW) hP
  have hD := Eq.mp (congrArg (va_D _) eW) hD
  exact W.vret hx hb hr (fun t ht hW => ⟨⟨(), rfl, trivial, by rw [ht]; exact hP, va_K.moved hW.alike hK, hD⟩, hS.F ht⟩) hS.2.2 d_PG_fillAll_41
