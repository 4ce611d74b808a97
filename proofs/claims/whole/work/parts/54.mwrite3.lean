set_option maxHeartbeats 4000000 in
set_option maxRecDepth 100000 in
theorem lr_lay1 {p : Program} {l : Launch} {e : Env} {s : State} {m : MethodId} {args : Array Value} {below : List Frame} {meth : Method} {c : Code} {Q : State → Prop} {A : Nat → Prop} {H0 : Heap} {D : va_G} {ad : Nat → Nat} {cs : ClassId} (hx : p.tables.exec = Jvm.exec) (hb : c.code = b_MO_lay) (hml : c.maxLocals = 5) (hg : ∀ w ∈ gt, w.before args s = true) (hown : s.vm.findClass R_MO = some m.cls) (hK : va_K D vwCl (mo_tys cs) s) (hA : ∀ q, H0.size ≤ q → A q) {M0 : Nat → Nat → Int} (q n eb np : Nat) (hi : rI M0 np) (hq : q < np) (hrn : rn M0 q = n) (heb0 : M0 1 (q + 1) = ((eb : Nat) : Int)) (MF : Nat → Nat → Int) (kk : ∀ (H : Heap) (locs : List Loc) (ls : Array Slot), va_P D vwCl (mo_w ad cs MF) H → va_D A (mo_w ad cs MF) → va_S A H0 H locs → lv_has ls 5 [(0, .ref (ad (0))), (1, .int (iI (((q : Nat) : Int))))] → W p l e ({ frames := 5, cells := 0, slots := 0, locals := 138 } : Room) s m args below meth c H locs 0 0 Q (F0 m 117 ls [])) : ∀ (f a : Nat) (M : Nat → Nat → Int), eb < a + f → a ≤ eb → eqR M M0 → 0 ≤ M 0 16 ∧ M 0 16 ≤ ((a : Nat) : Int) + ((q : Nat) : Int) → r_lines q n eb f a M = MF → ∀ (H : Heap) (locs : List Loc) (ls : Array Slot), va_P D vwCl (mo_w ad cs M) H → va_D A (mo_w ad cs M) → va_S A H0 H locs → lv_has ls 5 [(3, .int (iI (1))), (2, .int (iI (((a : Nat) : Int)))), (0, .ref (ad (0))), (1, .int (iI (((q : Nat) : Int))))] → W p l e ({ frames := 5, cells := 0, slots := 0, locals := 138 } : Room) s m args below meth c H locs 0 0 Q (F0 m 39 ls []) := by
  intro f
  induction f with
  | zero =>
    intro a M hf ha
    omega
  | succ f ih =>
    intro a M hf ha hsm hnl he H locs ls hP hD hS hl
    have h30 := hi.2.1
    have hbe := hi.2.2.2.2.2 q hq
    have heb : M 1 (q + 1) = ((eb : Nat) : Int) := by rw [hsm.1 1 (by omega) (by omega)]; exact heb0
    have hi1 : rI M np := eqR_rI hsm hi
    have ht := hi1.2.2.1
    obtain ⟨hs, hp0, h5, h10⟩ := hi1.2.2.2.1 q (by omega)
    have hp : rP M q n := by rw [← hrn]; unfold rn; rw [← hsm.1 3 (by omega) (by omega)]; exact hp0
    have hb1 : 0 ≤ M 1 q ∧ M 1 q ≤ 600 := by rw [hsm.1 1 (by omega) (by omega)]; omega
    have htb := r_to_b (n := n) heb ha
    obtain ⟨to, eto⟩ : ∃ q_, q_ = r_to M q n eb a := ⟨_, rfl⟩
    rw [← eto] at htb
    have hmeq := r_toM_eq M q n eb a
    obtain ⟨Mt, eMt⟩ : ∃ q_, q_ = r_toM M q n eb a := ⟨_, rfl⟩
    rw [← eMt] at hmeq
    obtain ⟨nl, enl⟩ : ∃ q_, q_ = rnM M := ⟨_, rfl⟩
    have hnn : M 0 16 = ((nl : Nat) : Int) := by rw [enl]; unfold rnM; omega
    have hn6 : nl < 640 := by omega
    have hln : r_la Mt q n a to nl (decide (to = eb)) = r_ln M q n eb a := by rw [eMt, enl, eto]; rfl
    refine lv_iload_n hx hb d_MO_lay_39 rfl (lv_at hl 0 rfl) ?_
    refine z_if_eq hx hb (tgt := 117) d_MO_lay_40 (by decide) ⟨by decide, by decide⟩ (fun c_40 => ?_) (fun c_40 => ?_)
    · exact absurd c_40 (by decide)
    · refine lv_iload_n hx hb d_MO_lay_43 rfl (lv_at hl 1 rfl) ?_
      refine lv_aload_n hx hb d_MO_lay_44 rfl (lv_at hl 2 rfl) ?_
      refine z_get (ci := 7) (C := R_MO) (T := T_MO) (N := 32) (v := .ref (ad (1))) hx hb hg in_MO hown hK hP (0) (by decide) rfl rfl 5 (by decide) (hg _ (List.mem_append_right _ (List.mem_append_right _ (List.mem_append_right _ (List.mem_append_right _ (List.mem_append_right _ (List.mem_append_right _ (List.mem_append_right _ (List.mem_append_right _ (List.mem_append_right _ (List.mem_append_right _ (List.mem_append_right _ (List.mem_append_right _ (List.mem_append_right _ (List.mem_append_left _ (List.mem_of_getElem? (i := 8) rfl)))))))))))))))) (fun _ h9 => h9) rfl d_MO_lay_45 ?_
      refine lv_iload_n hx hb d_MO_lay_48 rfl (lv_at hl 3 rfl) ?_
      refine z_iconst hx hb (z := 1) d_MO_lay_49 ?_
      refine z_iadd hx hb d_MO_lay_50 (v := ((q + 1 : Nat) : Int)) (by omega) ?_
      refine z_iald hx hb hK hP (1) 0 (by decide) (fun _ => rfl) rfl (q + 1) rfl (by omega) (by decide) d_MO_lay_51 ?_
      refine z_icmp_ge hx hb (tgt := 64) d_MO_lay_52 (by decide) ⟨by omega, by omega⟩ ⟨by omega, by omega⟩ (fun c_52 => ?_) (fun c_52 => ?_)
      · refine lv_iload_n hx hb d_MO_lay_64 rfl (lv_at hl 1 rfl) ?_
        have hta : a = to := by omega
        have htv : ((a : Nat) : Int) = ((to : Nat) : Int) := by rw [hta]
        refine lv_topi (fun y_ ey => ?_)
        have ey := ey.trans (congrArg iI htv)
        subst ey
        have hMt : M = Mt := by rw [eMt]; unfold r_toM; rw [if_neg (by omega)]
        have hP := Eq.mp (congrArg (fun q_ => va_P D vwCl (mo_w ad cs q_) H) hMt) hP
        have hD := Eq.mp (congrArg (fun q_ => va_D A (mo_w ad cs q_)) hMt) hD
        have hs5 : rS Mt q := by unfold rS; rw [hmeq 2 (by omega)]; exact hs
        have hb5 : 0 ≤ Mt 1 q ∧ Mt 1 q ≤ 600 := by rw [hmeq 1 (by omega)]; exact hb1
        have hp5 : rP Mt q n := eqb_rP hmeq hp
        have ht5 : rT Mt := eqb_rT hmeq ht
        have hn5 : Mt 0 16 = ((nl : Nat) : Int) := by rw [hmeq 0 (by omega)]; exact hnn
        have h55 : 0 ≤ Mt 2 (11 * q + 5) ∧ Mt 2 (11 * q + 5) ≤ 3 := by rw [hmeq 2 (by omega)]; exact h5
        have h105 : 0 ≤ Mt 2 (11 * q + 10) ∧ Mt 2 (11 * q + 10) ≤ 2000 := by rw [hmeq 2 (by omega)]; exact h10
        have heb5 : Mt 1 (q + 1) = ((eb : Nat) : Int) := by rw [hmeq 1 (by omega)]; exact heb
        refine lv_istore (lv' := [(4, .int (iI (((to : Nat) : Int)))), (3, .int (iI (1))), (2, .int (iI (((a : Nat) : Int)))), (0, .ref (ad (0))), (1, .int (iI (((q : Nat) : Int))))]) hx hb d_MO_lay_65 hl (by decide) rfl (fun ls hl => ?_)
        refine lv_aload_n hx hb d_MO_lay_67 rfl (lv_at hl 3 rfl) ?_
        refine lv_iload_n hx hb d_MO_lay_68 rfl (lv_at hl 4 rfl) ?_
        refine lv_iload_n hx hb d_MO_lay_69 rfl (lv_at hl 2 rfl) ?_
        refine lv_iload hx hb d_MO_lay_70 (lv_at hl 0 rfl) ?_
        refine lv_iload hx hb d_MO_lay_72 (lv_at hl 0 rfl) ?_
        refine lv_aload_n hx hb d_MO_lay_74 rfl (lv_at hl 3 rfl) ?_
        refine z_get (ci := 7) (C := R_MO) (T := T_MO) (N := 32) (v := .ref (ad (1))) hx hb hg in_MO hown hK hP (0) (by decide) rfl rfl 5 (by decide) (hg _ (List.mem_append_right _ (List.mem_append_right _ (List.mem_append_right _ (List.mem_append_right _ (List.mem_append_right _ (List.mem_append_right _ (List.mem_append_right _ (List.mem_append_right _ (List.mem_append_right _ (List.mem_append_right _ (List.mem_append_right _ (List.mem_append_right _ (List.mem_append_right _ (List.mem_append_left _ (List.mem_of_getElem? (i := 8) rfl)))))))))))))))) (fun _ h9 => h9) rfl d_MO_lay_75 ?_
        refine lv_iload_n hx hb d_MO_lay_78 rfl (lv_at hl 4 rfl) ?_
        refine z_iconst hx hb (z := 1) d_MO_lay_79 ?_
        refine z_iadd hx hb d_MO_lay_80 (v := ((q + 1 : Nat) : Int)) (by omega) ?_
        refine z_iald hx hb hK hP (1) 0 (by decide) (fun _ => rfl) rfl (q + 1) rfl (by omega) (by decide) d_MO_lay_81 ?_
        refine z_icmp_ne hx hb (tgt := 89) d_MO_lay_82 (by decide) ⟨by omega, by omega⟩ ⟨by omega, by omega⟩ (fun c_82 => ?_) (fun c_82 => ?_)
        · refine z_iconst hx hb (z := 0) d_MO_lay_89 ?_
          have hlb : (0 : Int) = bz (decide (to = eb) = true) inferInstance := by rw [bz_f (fun h => by have := of_decide_eq_true h; omega)]
          refine lv_topi (fun y_ ey => ?_)
          have ey := ey.trans (congrArg iI hlb)
          subst ey
          refine rw_Vv (As := [.int (iI (((q : Nat) : Int))), .int (iI (((a : Nat) : Int))), .int (iI (((to : Nat) : Int))), .int (iI (bz (decide (to = eb) = true) inferInstance))]) (rest := []) (w' := (mo_w ad cs (r_la Mt q n a to nl (decide (to = eb))))) ⟨hx, hb, hml, hown, hg⟩ (r_layLine l _ q n a to nl (decide (to = eb)) (by omega) (by omega) hs5 hb5 hp5 ht5 hn5 hn6 h55 h105) (cwV 4 hg (gt_V (List.mem_append_right _ (List.mem_append_right _ (List.mem_append_right _ (List.mem_append_right _ (List.mem_append_right _ (List.mem_append_right _ (List.mem_append_right _ (List.mem_append_right _ (List.mem_append_right _ (List.mem_append_right _ (List.mem_append_right _ (List.mem_append_right _ (List.mem_append_right _ (List.mem_append_right _ (List.mem_append_right _ (List.mem_append_right _ (List.mem_append_left _ (List.mem_of_getElem? (i := 24) rfl)))))))))))))))))) (List.mem_append_right _ (List.mem_append_right _ (List.mem_append_right _ (List.mem_append_right _ (List.mem_append_right _ (List.mem_append_right _ (List.mem_append_right _ (List.mem_append_right _ (List.mem_append_right _ (List.mem_append_right _ (List.mem_append_right _ (List.mem_append_right _ (List.mem_append_right _ (List.mem_append_right _ (List.mem_append_right _ (List.mem_append_right _ (List.mem_append_left _ (List.mem_of_getElem? (i := 25) rfl)))))))))))))))))) (List.mem_append_left _ (List.mem_of_getElem? (i := 34) rfl)) (List.mem_append_right _ (List.mem_append_left _ (List.mem_of_getElem? (i := 9) rfl))) (List.mem_append_right _ (List.mem_append_right _ (List.mem_append_right _ (List.mem_append_right _ (List.mem_append_right _ (List.mem_append_right _ (List.mem_append_right _ (List.mem_append_right _ (List.mem_append_right _ (List.mem_append_right _ (List.mem_append_right _ (List.mem_append_right _ (List.mem_append_right _ (List.mem_append_right _ (List.mem_append_right _ (List.mem_append_right _ (List.mem_append_left _ (List.mem_of_getElem? (i := 26) rfl))))))))))))))))))) rfl rfl rfl (by decide +kernel) ⟨Nat.le_of_ble_eq_true rfl, Nat.le_of_ble_eq_true rfl⟩) hK hP hD hS hA (va_recv hK hP (ci := 7) (q0 := 0) rfl (wl_atE (by decide) rfl)) rfl hl.1 rfl (Nat.le_of_ble_eq_true rfl) d_MO_lay_90 ⟨Nat.zero_le _, Nat.zero_le _⟩ (fun H locs hP hD hS => ?_)
          obtain ⟨M_1, eM_1⟩ : ∃ q_, q_ = r_la Mt q n a to nl (decide (to = eb)) := ⟨_, rfl⟩
          have hP : va_P D vwCl (mo_w ad cs M_1) H := by rw [eM_1]; exact hP
          have hD : va_D A (mo_w ad cs M_1) := by rw [eM_1]; exact hD
          rw [hln] at eM_1
          have hsm2 : eqR M_1 M := by rw [eM_1]; exact r_ln_eqR _ _ _ _ _
          have hebx : M_1 1 (q + 1) = ((eb : Nat) : Int) := by rw [hsm2.1 1 (by omega) (by omega)]; exact heb
          have hnx : M_1 0 16 = ((nl : Nat) : Int) + 1 := by rw [eM_1, ← hln]; exact r_la_n _ _ _ _ _ _ _
          refine lv_iload hx hb d_MO_lay_93 (lv_at hl 0 rfl) ?_
          refine lv_istore_n (lv' := [(2, .int (iI (((to : Nat) : Int)))), (4, .int (iI (((to : Nat) : Int)))), (3, .int (iI (1))), (0, .ref (ad (0))), (1, .int (iI (((q : Nat) : Int))))]) hx hb d_MO_lay_95 rfl hl (by decide) rfl (fun ls hl => ?_)
          refine lv_iload_n hx hb d_MO_lay_96 rfl (lv_at hl 0 rfl) ?_
          refine lv_aload_n hx hb d_MO_lay_97 rfl (lv_at hl 3 rfl) ?_
          refine z_get (ci := 7) (C := R_MO) (T := T_MO) (N := 32) (v := .ref (ad (1))) hx hb hg in_MO hown hK hP (0) (by decide) rfl rfl 5 (by decide) (hg _ (List.mem_append_right _ (List.mem_append_right _ (List.mem_append_right _ (List.mem_append_right _ (List.mem_append_right _ (List.mem_append_right _ (List.mem_append_right _ (List.mem_append_right _ (List.mem_append_right _ (List.mem_append_right _ (List.mem_append_right _ (List.mem_append_right _ (List.mem_append_right _ (List.mem_append_left _ (List.mem_of_getElem? (i := 8) rfl)))))))))))))))) (fun _ h9 => h9) rfl d_MO_lay_98 ?_
          refine lv_iload_n hx hb d_MO_lay_101 rfl (lv_at hl 4 rfl) ?_
          refine z_iconst hx hb (z := 1) d_MO_lay_102 ?_
          refine z_iadd hx hb d_MO_lay_103 (v := ((q + 1 : Nat) : Int)) (by omega) ?_
          refine z_iald hx hb hK hP (1) 0 (by decide) (fun _ => rfl) rfl (q + 1) rfl (by omega) (by decide) d_MO_lay_104 ?_
          refine z_icmp_ge hx hb (tgt := 112) d_MO_lay_105 (by decide) ⟨by omega, by omega⟩ ⟨by omega, by omega⟩ (fun c_105 => ?_) (fun c_105 => ?_)
          · refine z_iconst hx hb (z := 0) d_MO_lay_112 ?_
            refine lv_istore_n (lv' := [(3, .int (iI (0))), (2, .int (iI (((to : Nat) : Int)))), (4, .int (iI (((to : Nat) : Int)))), (0, .ref (ad (0))), (1, .int (iI (((q : Nat) : Int))))]) hx hb d_MO_lay_113 rfl hl (by decide) rfl (fun ls hl => ?_)
            refine lv_goto (tgt := 39) hx hb d_MO_lay_114 (by decide) ?_
            refine lv_iload_n hx hb d_MO_lay_39 rfl (lv_at hl 0 rfl) ?_
            refine z_if_eq hx hb (tgt := 117) d_MO_lay_40 (by decide) ⟨by decide, by decide⟩ (fun c_40' => ?_) (fun c_40' => ?_)
            · have he2 : M_1 = MF := by rw [← he, eM_1]; unfold r_lines; rw [if_neg (by rw [← eto]; omega)]
              subst he2
              exact kk H locs ls hP hD hS (lv_sub hl [3, 4] rfl)
            · exact absurd c_40' (by decide)
          · refine z_iconst hx hb (z := 1) d_MO_lay_108 ?_
            refine lv_goto (tgt := 113) hx hb d_MO_lay_109 (by decide) ?_
            refine lv_istore_n (lv' := [(3, .int (iI (1))), (2, .int (iI (((to : Nat) : Int)))), (4, .int (iI (((to : Nat) : Int)))), (0, .ref (ad (0))), (1, .int (iI (((q : Nat) : Int))))]) hx hb d_MO_lay_113 rfl hl (by decide) rfl (fun ls hl => ?_)
            refine lv_goto (tgt := 39) hx hb d_MO_lay_114 (by decide) ?_
            exact ih to M_1 (by omega) (by omega) (eqR_tr hsm2 hsm) (by rw [hnx]; omega) (by rw [← he, eM_1]; conv => rhs; unfold r_lines; rw [if_pos (by rw [← eto]; omega), ← eto]) H locs ls hP hD hS (lv_sub hl [0, 1, 3, 4] rfl)
        · refine z_iconst hx hb (z := 1) d_MO_lay_85 ?_
          refine lv_goto (tgt := 90) hx hb d_MO_lay_86 (by decide) ?_
          have hlb : (1 : Int) = bz (decide (to = eb) = true) inferInstance := by rw [bz_t (decide_eq_true (by omega))]
          refine lv_topi (fun y_ ey => ?_)
          have ey := ey.trans (congrArg iI hlb)
          subst ey
          refine rw_Vv (As := [.int (iI (((q : Nat) : Int))), .int (iI (((a : Nat) : Int))), .int (iI (((to : Nat) : Int))), .int (iI (bz (decide (to = eb) = true) inferInstance))]) (rest := []) (w' := (mo_w ad cs (r_la Mt q n a to nl (decide (to = eb))))) ⟨hx, hb, hml, hown, hg⟩ (r_layLine l _ q n a to nl (decide (to = eb)) (by omega) (by omega) hs5 hb5 hp5 ht5 hn5 hn6 h55 h105) (cwV 4 hg (gt_V (List.mem_append_right _ (List.mem_append_right _ (List.mem_append_right _ (List.mem_append_right _ (List.mem_append_right _ (List.mem_append_right _ (List.mem_append_right _ (List.mem_append_right _ (List.mem_append_right _ (List.mem_append_right _ (List.mem_append_right _ (List.mem_append_right _ (List.mem_append_right _ (List.mem_append_right _ (List.mem_append_right _ (List.mem_append_right _ (List.mem_append_left _ (List.mem_of_getElem? (i := 24) rfl)))))))))))))))))) (List.mem_append_right _ (List.mem_append_right _ (List.mem_append_right _ (List.mem_append_right _ (List.mem_append_right _ (List.mem_append_right _ (List.mem_append_right _ (List.mem_append_right _ (List.mem_append_right _ (List.mem_append_right _ (List.mem_append_right _ (List.mem_append_right _ (List.mem_append_right _ (List.mem_append_right _ (List.mem_append_right _ (List.mem_append_right _ (List.mem_append_left _ (List.mem_of_getElem? (i := 25) rfl)))))))))))))))))) (List.mem_append_left _ (List.mem_of_getElem? (i := 34) rfl)) (List.mem_append_right _ (List.mem_append_left _ (List.mem_of_getElem? (i := 9) rfl))) (List.mem_append_right _ (List.mem_append_right _ (List.mem_append_right _ (List.mem_append_right _ (List.mem_append_right _ (List.mem_append_right _ (List.mem_append_right _ (List.mem_append_right _ (List.mem_append_right _ (List.mem_append_right _ (List.mem_append_right _ (List.mem_append_right _ (List.mem_append_right _ (List.mem_append_right _ (List.mem_append_right _ (List.mem_append_right _ (List.mem_append_left _ (List.mem_of_getElem? (i := 26) rfl))))))))))))))))))) rfl rfl rfl (by decide +kernel) ⟨Nat.le_of_ble_eq_true rfl, Nat.le_of_ble_eq_true rfl⟩) hK hP hD hS hA (va_recv hK hP (ci := 7) (q0 := 0) rfl (wl_atE (by decide) rfl)) rfl hl.1 rfl (Nat.le_of_ble_eq_true rfl) d_MO_lay_90 ⟨Nat.zero_le _, Nat.zero_le _⟩ (fun H locs hP hD hS => ?_)
          obtain ⟨M_2, eM_2⟩ : ∃ q_, q_ = r_la Mt q n a to nl (decide (to = eb)) := ⟨_, rfl⟩
          have hP : va_P D vwCl (mo_w ad cs M_2) H := by rw [eM_2]; exact hP
          have hD : va_D A (mo_w ad cs M_2) := by rw [eM_2]; exact hD
          rw [hln] at eM_2
          have hsm2 : eqR M_2 M := by rw [eM_2]; exact r_ln_eqR _ _ _ _ _
          have hebx : M_2 1 (q + 1) = ((eb : Nat) : Int) := by rw [hsm2.1 1 (by omega) (by omega)]; exact heb
          have hnx : M_2 0 16 = ((nl : Nat) : Int) + 1 := by rw [eM_2, ← hln]; exact r_la_n _ _ _ _ _ _ _
          refine lv_iload hx hb d_MO_lay_93 (lv_at hl 0 rfl) ?_
          refine lv_istore_n (lv' := [(2, .int (iI (((to : Nat) : Int)))), (4, .int (iI (((to : Nat) : Int)))), (3, .int (iI (1))), (0, .ref (ad (0))), (1, .int (iI (((q : Nat) : Int))))]) hx hb d_MO_lay_95 rfl hl (by decide) rfl (fun ls hl => ?_)
          refine lv_iload_n hx hb d_MO_lay_96 rfl (lv_at hl 0 rfl) ?_
          refine lv_aload_n hx hb d_MO_lay_97 rfl (lv_at hl 3 rfl) ?_
          refine z_get (ci := 7) (C := R_MO) (T := T_MO) (N := 32) (v := .ref (ad (1))) hx hb hg in_MO hown hK hP (0) (by decide) rfl rfl 5 (by decide) (hg _ (List.mem_append_right _ (List.mem_append_right _ (List.mem_append_right _ (List.mem_append_right _ (List.mem_append_right _ (List.mem_append_right _ (List.mem_append_right _ (List.mem_append_right _ (List.mem_append_right _ (List.mem_append_right _ (List.mem_append_right _ (List.mem_append_right _ (List.mem_append_right _ (List.mem_append_left _ (List.mem_of_getElem? (i := 8) rfl)))))))))))))))) (fun _ h9 => h9) rfl d_MO_lay_98 ?_
          refine lv_iload_n hx hb d_MO_lay_101 rfl (lv_at hl 4 rfl) ?_
          refine z_iconst hx hb (z := 1) d_MO_lay_102 ?_
          refine z_iadd hx hb d_MO_lay_103 (v := ((q + 1 : Nat) : Int)) (by omega) ?_
          refine z_iald hx hb hK hP (1) 0 (by decide) (fun _ => rfl) rfl (q + 1) rfl (by omega) (by decide) d_MO_lay_104 ?_
          refine z_icmp_ge hx hb (tgt := 112) d_MO_lay_105 (by decide) ⟨by omega, by omega⟩ ⟨by omega, by omega⟩ (fun c_105 => ?_) (fun c_105 => ?_)
          · refine z_iconst hx hb (z := 0) d_MO_lay_112 ?_
            refine lv_istore_n (lv' := [(3, .int (iI (0))), (2, .int (iI (((to : Nat) : Int)))), (4, .int (iI (((to : Nat) : Int)))), (0, .ref (ad (0))), (1, .int (iI (((q : Nat) : Int))))]) hx hb d_MO_lay_113 rfl hl (by decide) rfl (fun ls hl => ?_)
            refine lv_goto (tgt := 39) hx hb d_MO_lay_114 (by decide) ?_
            refine lv_iload_n hx hb d_MO_lay_39 rfl (lv_at hl 0 rfl) ?_
            refine z_if_eq hx hb (tgt := 117) d_MO_lay_40 (by decide) ⟨by decide, by decide⟩ (fun c_40' => ?_) (fun c_40' => ?_)
            · have he2 : M_2 = MF := by rw [← he, eM_2]; unfold r_lines; rw [if_neg (by rw [← eto]; omega)]
              subst he2
              exact kk H locs ls hP hD hS (lv_sub hl [3, 4] rfl)
            · exact absurd c_40' (by decide)
          · refine z_iconst hx hb (z := 1) d_MO_lay_108 ?_
            refine lv_goto (tgt := 113) hx hb d_MO_lay_109 (by decide) ?_
            refine lv_istore_n (lv' := [(3, .int (iI (1))), (2, .int (iI (((to : Nat) : Int)))), (4, .int (iI (((to : Nat) : Int)))), (0, .ref (ad (0))), (1, .int (iI (((q : Nat) : Int))))]) hx hb d_MO_lay_113 rfl hl (by decide) rfl (fun ls hl => ?_)
            refine lv_goto (tgt := 39) hx hb d_MO_lay_114 (by decide) ?_
            exact ih to M_2 (by omega) (by omega) (eqR_tr hsm2 hsm) (by rw [hnx]; omega) (by rw [← he, eM_2]; conv => rhs; unfold r_lines; rw [if_pos (by rw [← eto]; omega), ← eto]) H locs ls hP hD hS (lv_sub hl [0, 1, 3, 4] rfl)
      · refine lv_aload_n hx hb d_MO_lay_55 rfl (lv_at hl 2 rfl) ?_
        refine lv_iload_n hx hb d_MO_lay_56 rfl (lv_at hl 3 rfl) ?_
        refine lv_iload_n hx hb d_MO_lay_57 rfl (lv_at hl 1 rfl) ?_
        refine rw_Vi (As := [.int (iI (((q : Nat) : Int))), .int (iI (((a : Nat) : Int)))]) (rest := []) (w' := (mo_w ad cs ((r_bk M q n a (eb - a) (a + 1) (-1) (-1) M).2.2))) (z := if (r_bk M q n a (eb - a) (a + 1) (-1) (-1) M).2.1 < 0 then (r_bk M q n a (eb - a) (a + 1) (-1) (-1) M).1 else (r_bk M q n a (eb - a) (a + 1) (-1) (-1) M).2.1) ⟨hx, hb, hml, hown, hg⟩ (r_broken l _ q n a eb ha (by omega) heb hs hb1 hp ht) (cwV 2 hg (gt_V (List.mem_append_right _ (List.mem_append_right _ (List.mem_append_right _ (List.mem_append_right _ (List.mem_append_right _ (List.mem_append_right _ (List.mem_append_right _ (List.mem_append_right _ (List.mem_append_right _ (List.mem_append_right _ (List.mem_append_right _ (List.mem_append_right _ (List.mem_append_right _ (List.mem_append_right _ (List.mem_append_right _ (List.mem_append_left _ (List.mem_of_getElem? (i := 34) rfl))))))))))))))))) (List.mem_append_right _ (List.mem_append_right _ (List.mem_append_right _ (List.mem_append_right _ (List.mem_append_right _ (List.mem_append_right _ (List.mem_append_right _ (List.mem_append_right _ (List.mem_append_right _ (List.mem_append_right _ (List.mem_append_right _ (List.mem_append_right _ (List.mem_append_right _ (List.mem_append_right _ (List.mem_append_right _ (List.mem_append_left _ (List.mem_of_getElem? (i := 35) rfl))))))))))))))))) (List.mem_append_left _ (List.mem_of_getElem? (i := 24) rfl)) (List.mem_append_right _ (List.mem_append_left _ (List.mem_of_getElem? (i := 9) rfl))) (List.mem_append_right _ (List.mem_append_right _ (List.mem_append_right _ (List.mem_append_right _ (List.mem_append_right _ (List.mem_append_right _ (List.mem_append_right _ (List.mem_append_right _ (List.mem_append_right _ (List.mem_append_right _ (List.mem_append_right _ (List.mem_append_right _ (List.mem_append_right _ (List.mem_append_right _ (List.mem_append_right _ (List.mem_append_left _ (List.mem_of_getElem? (i := 36) rfl)))))))))))))))))) rfl rfl rfl (by decide +kernel) ⟨Nat.le_of_ble_eq_true rfl, Nat.le_of_ble_eq_true rfl⟩) hK hP hD hS hA (va_recv hK hP (ci := 7) (q0 := 0) rfl (wl_atE (by decide) rfl)) rfl hl.1 rfl (Nat.le_of_ble_eq_true rfl) d_MO_lay_58 ⟨Nat.zero_le _, Nat.zero_le _⟩ (fun H locs hP hD hS => ?_)
        obtain ⟨M_3, eM_3⟩ : ∃ q_, q_ = (r_bk M q n a (eb - a) (a + 1) (-1) (-1) M).2.2 := ⟨_, rfl⟩
        have hP : va_P D vwCl (mo_w ad cs M_3) H := by rw [eM_3]; exact hP
        have hD : va_D A (mo_w ad cs M_3) := by rw [eM_3]; exact hD
        refine lv_goto (tgt := 65) hx hb d_MO_lay_61 (by decide) ?_
        have htv := htb.2.2.2 (by omega)
        refine lv_topi (fun y_ ey => ?_)
        have ey := ey.trans (congrArg iI htv)
        subst ey
        have hMt : M_3 = Mt := by rw [eM_3, eMt]; unfold r_toM; rw [if_pos (by omega)]; rfl
        rw [hMt] at hP hD
        have hs5 : rS Mt q := by unfold rS; rw [hmeq 2 (by omega)]; exact hs
        have hb5 : 0 ≤ Mt 1 q ∧ Mt 1 q ≤ 600 := by rw [hmeq 1 (by omega)]; exact hb1
        have hp5 : rP Mt q n := eqb_rP hmeq hp
        have ht5 : rT Mt := eqb_rT hmeq ht
        have hn5 : Mt 0 16 = ((nl : Nat) : Int) := by rw [hmeq 0 (by omega)]; exact hnn
        have h55 : 0 ≤ Mt 2 (11 * q + 5) ∧ Mt 2 (11 * q + 5) ≤ 3 := by rw [hmeq 2 (by omega)]; exact h5
        have h105 : 0 ≤ Mt 2 (11 * q + 10) ∧ Mt 2 (11 * q + 10) ≤ 2000 := by rw [hmeq 2 (by omega)]; exact h10
        have heb5 : Mt 1 (q + 1) = ((eb : Nat) : Int) := by rw [hmeq 1 (by omega)]; exact heb
        refine lv_istore (lv' := [(4, .int (iI (((to : Nat) : Int)))), (3, .int (iI (1))), (2, .int (iI (((a : Nat) : Int)))), (0, .ref (ad (0))), (1, .int (iI (((q : Nat) : Int))))]) hx hb d_MO_lay_65 hl (by decide) rfl (fun ls hl => ?_)
        refine lv_aload_n hx hb d_MO_lay_67 rfl (lv_at hl 3 rfl) ?_
        refine lv_iload_n hx hb d_MO_lay_68 rfl (lv_at hl 4 rfl) ?_
        refine lv_iload_n hx hb d_MO_lay_69 rfl (lv_at hl 2 rfl) ?_
        refine lv_iload hx hb d_MO_lay_70 (lv_at hl 0 rfl) ?_
        refine lv_iload hx hb d_MO_lay_72 (lv_at hl 0 rfl) ?_
        refine lv_aload_n hx hb d_MO_lay_74 rfl (lv_at hl 3 rfl) ?_
        refine z_get (ci := 7) (C := R_MO) (T := T_MO) (N := 32) (v := .ref (ad (1))) hx hb hg in_MO hown hK hP (0) (by decide) rfl rfl 5 (by decide) (hg _ (List.mem_append_right _ (List.mem_append_right _ (List.mem_append_right _ (List.mem_append_right _ (List.mem_append_right _ (List.mem_append_right _ (List.mem_append_right _ (List.mem_append_right _ (List.mem_append_right _ (List.mem_append_right _ (List.mem_append_right _ (List.mem_append_right _ (List.mem_append_right _ (List.mem_append_left _ (List.mem_of_getElem? (i := 8) rfl)))))))))))))))) (fun _ h9 => h9) rfl d_MO_lay_75 ?_
        refine lv_iload_n hx hb d_MO_lay_78 rfl (lv_at hl 4 rfl) ?_
        refine z_iconst hx hb (z := 1) d_MO_lay_79 ?_
        refine z_iadd hx hb d_MO_lay_80 (v := ((q + 1 : Nat) : Int)) (by omega) ?_
        refine z_iald hx hb hK hP (1) 0 (by decide) (fun _ => rfl) rfl (q + 1) rfl (by omega) (by decide) d_MO_lay_81 ?_
        refine z_icmp_ne hx hb (tgt := 89) d_MO_lay_82 (by decide) ⟨by omega, by omega⟩ ⟨by omega, by omega⟩ (fun c_82 => ?_) (fun c_82 => ?_)
        · refine z_iconst hx hb (z := 0) d_MO_lay_89 ?_
          have hlb : (0 : Int) = bz (decide (to = eb) = true) inferInstance := by rw [bz_f (fun h => by have := of_decide_eq_true h; omega)]
          refine lv_topi (fun y_ ey => ?_)
          have ey := ey.trans (congrArg iI hlb)
          subst ey
          refine rw_Vv (As := [.int (iI (((q : Nat) : Int))), .int (iI (((a : Nat) : Int))), .int (iI (((to : Nat) : Int))), .int (iI (bz (decide (to = eb) = true) inferInstance))]) (rest := []) (w' := (mo_w ad cs (r_la Mt q n a to nl (decide (to = eb))))) ⟨hx, hb, hml, hown, hg⟩ (r_layLine l _ q n a to nl (decide (to = eb)) (by omega) (by omega) hs5 hb5 hp5 ht5 hn5 hn6 h55 h105) (cwV 4 hg (gt_V (List.mem_append_right _ (List.mem_append_right _ (List.mem_append_right _ (List.mem_append_right _ (List.mem_append_right _ (List.mem_append_right _ (List.mem_append_right _ (List.mem_append_right _ (List.mem_append_right _ (List.mem_append_right _ (List.mem_append_right _ (List.mem_append_right _ (List.mem_append_right _ (List.mem_append_right _ (List.mem_append_right _ (List.mem_append_right _ (List.mem_append_left _ (List.mem_of_getElem? (i := 24) rfl)))))))))))))))))) (List.mem_append_right _ (List.mem_append_right _ (List.mem_append_right _ (List.mem_append_right _ (List.mem_append_right _ (List.mem_append_right _ (List.mem_append_right _ (List.mem_append_right _ (List.mem_append_right _ (List.mem_append_right _ (List.mem_append_right _ (List.mem_append_right _ (List.mem_append_right _ (List.mem_append_right _ (List.mem_append_right _ (List.mem_append_right _ (List.mem_append_left _ (List.mem_of_getElem? (i := 25) rfl)))))))))))))))))) (List.mem_append_left _ (List.mem_of_getElem? (i := 34) rfl)) (List.mem_append_right _ (List.mem_append_left _ (List.mem_of_getElem? (i := 9) rfl))) (List.mem_append_right _ (List.mem_append_right _ (List.mem_append_right _ (List.mem_append_right _ (List.mem_append_right _ (List.mem_append_right _ (List.mem_append_right _ (List.mem_append_right _ (List.mem_append_right _ (List.mem_append_right _ (List.mem_append_right _ (List.mem_append_right _ (List.mem_append_right _ (List.mem_append_right _ (List.mem_append_right _ (List.mem_append_right _ (List.mem_append_left _ (List.mem_of_getElem? (i := 26) rfl))))))))))))))))))) rfl rfl rfl (by decide +kernel) ⟨Nat.le_of_ble_eq_true rfl, Nat.le_of_ble_eq_true rfl⟩) hK hP hD hS hA (va_recv hK hP (ci := 7) (q0 := 0) rfl (wl_atE (by decide) rfl)) rfl hl.1 rfl (Nat.le_of_ble_eq_true rfl) d_MO_lay_90 ⟨Nat.zero_le _, Nat.zero_le _⟩ (fun H locs hP hD hS => ?_)
          obtain ⟨M_4, eM_4⟩ : ∃ q_, q_ = r_la Mt q n a to nl (decide (to = eb)) := ⟨_, rfl⟩
          have hP : va_P D vwCl (mo_w ad cs M_4) H := by rw [eM_4]; exact hP
          have hD : va_D A (mo_w ad cs M_4) := by rw [eM_4]; exact hD
          rw [hln] at eM_4
          have hsm2 : eqR M_4 M := by rw [eM_4]; exact r_ln_eqR _ _ _ _ _
          have hebx : M_4 1 (q + 1) = ((eb : Nat) : Int) := by rw [hsm2.1 1 (by omega) (by omega)]; exact heb
          have hnx : M_4 0 16 = ((nl : Nat) : Int) + 1 := by rw [eM_4, ← hln]; exact r_la_n _ _ _ _ _ _ _
          refine lv_iload hx hb d_MO_lay_93 (lv_at hl 0 rfl) ?_
          refine lv_istore_n (lv' := [(2, .int (iI (((to : Nat) : Int)))), (4, .int (iI (((to : Nat) : Int)))), (3, .int (iI (1))), (0, .ref (ad (0))), (1, .int (iI (((q : Nat) : Int))))]) hx hb d_MO_lay_95 rfl hl (by decide) rfl (fun ls hl => ?_)
          refine lv_iload_n hx hb d_MO_lay_96 rfl (lv_at hl 0 rfl) ?_
          refine lv_aload_n hx hb d_MO_lay_97 rfl (lv_at hl 3 rfl) ?_
          refine z_get (ci := 7) (C := R_MO) (T := T_MO) (N := 32) (v := .ref (ad (1))) hx hb hg in_MO hown hK hP (0) (by decide) rfl rfl 5 (by decide) (hg _ (List.mem_append_right _ (List.mem_append_right _ (List.mem_append_right _ (List.mem_append_right _ (List.mem_append_right _ (List.mem_append_right _ (List.mem_append_right _ (List.mem_append_right _ (List.mem_append_right _ (List.mem_append_right _ (List.mem_append_right _ (List.mem_append_right _ (List.mem_append_right _ (List.mem_append_left _ (List.mem_of_getElem? (i := 8) rfl)))))))))))))))) (fun _ h9 => h9) rfl d_MO_lay_98 ?_
          refine lv_iload_n hx hb d_MO_lay_101 rfl (lv_at hl 4 rfl) ?_
          refine z_iconst hx hb (z := 1) d_MO_lay_102 ?_
          refine z_iadd hx hb d_MO_lay_103 (v := ((q + 1 : Nat) : Int)) (by omega) ?_
          refine z_iald hx hb hK hP (1) 0 (by decide) (fun _ => rfl) rfl (q + 1) rfl (by omega) (by decide) d_MO_lay_104 ?_
          refine z_icmp_ge hx hb (tgt := 112) d_MO_lay_105 (by decide) ⟨by omega, by omega⟩ ⟨by omega, by omega⟩ (fun c_105 => ?_) (fun c_105 => ?_)
          · refine z_iconst hx hb (z := 0) d_MO_lay_112 ?_
            refine lv_istore_n (lv' := [(3, .int (iI (0))), (2, .int (iI (((to : Nat) : Int)))), (4, .int (iI (((to : Nat) : Int)))), (0, .ref (ad (0))), (1, .int (iI (((q : Nat) : Int))))]) hx hb d_MO_lay_113 rfl hl (by decide) rfl (fun ls hl => ?_)
            refine lv_goto (tgt := 39) hx hb d_MO_lay_114 (by decide) ?_
            refine lv_iload_n hx hb d_MO_lay_39 rfl (lv_at hl 0 rfl) ?_
            refine z_if_eq hx hb (tgt := 117) d_MO_lay_40 (by decide) ⟨by decide, by decide⟩ (fun c_40' => ?_) (fun c_40' => ?_)
            · have he2 : M_4 = MF := by rw [← he, eM_4]; unfold r_lines; rw [if_neg (by rw [← eto]; omega)]
              subst he2
              exact kk H locs ls hP hD hS (lv_sub hl [3, 4] rfl)
            · exact absurd c_40' (by decide)
          · refine z_iconst hx hb (z := 1) d_MO_lay_108 ?_
            refine lv_goto (tgt := 113) hx hb d_MO_lay_109 (by decide) ?_
            refine lv_istore_n (lv' := [(3, .int (iI (1))), (2, .int (iI (((to : Nat) : Int)))), (4, .int (iI (((to : Nat) : Int)))), (0, .ref (ad (0))), (1, .int (iI (((q : Nat) : Int))))]) hx hb d_MO_lay_113 rfl hl (by decide) rfl (fun ls hl => ?_)
            refine lv_goto (tgt := 39) hx hb d_MO_lay_114 (by decide) ?_
            exact ih to M_4 (by omega) (by omega) (eqR_tr hsm2 hsm) (by rw [hnx]; omega) (by rw [← he, eM_4]; conv => rhs; unfold r_lines; rw [if_pos (by rw [← eto]; omega), ← eto]) H locs ls hP hD hS (lv_sub hl [0, 1, 3, 4] rfl)
        · refine z_iconst hx hb (z := 1) d_MO_lay_85 ?_
          refine lv_goto (tgt := 90) hx hb d_MO_lay_86 (by decide) ?_
          have hlb : (1 : Int) = bz (decide (to = eb) = true) inferInstance := by rw [bz_t (decide_eq_true (by omega))]
          refine lv_topi (fun y_ ey => ?_)
          have ey := ey.trans (congrArg iI hlb)
          subst ey
          refine rw_Vv (As := [.int (iI (((q : Nat) : Int))), .int (iI (((a : Nat) : Int))), .int (iI (((to : Nat) : Int))), .int (iI (bz (decide (to = eb) = true) inferInstance))]) (rest := []) (w' := (mo_w ad cs (r_la Mt q n a to nl (decide (to = eb))))) ⟨hx, hb, hml, hown, hg⟩ (r_layLine l _ q n a to nl (decide (to = eb)) (by omega) (by omega) hs5 hb5 hp5 ht5 hn5 hn6 h55 h105) (cwV 4 hg (gt_V (List.mem_append_right _ (List.mem_append_right _ (List.mem_append_right _ (List.mem_append_right _ (List.mem_append_right _ (List.mem_append_right _ (List.mem_append_right _ (List.mem_append_right _ (List.mem_append_right _ (List.mem_append_right _ (List.mem_append_right _ (List.mem_append_right _ (List.mem_append_right _ (List.mem_append_right _ (List.mem_append_right _ (List.mem_append_right _ (List.mem_append_left _ (List.mem_of_getElem? (i := 24) rfl)))))))))))))))))) (List.mem_append_right _ (List.mem_append_right _ (List.mem_append_right _ (List.mem_append_right _ (List.mem_append_right _ (List.mem_append_right _ (List.mem_append_right _ (List.mem_append_right _ (List.mem_append_right _ (List.mem_append_right _ (List.mem_append_right _ (List.mem_append_right _ (List.mem_append_right _ (List.mem_append_right _ (List.mem_append_right _ (List.mem_append_right _ (List.mem_append_left _ (List.mem_of_getElem? (i := 25) rfl)))))))))))))))))) (List.mem_append_left _ (List.mem_of_getElem? (i := 34) rfl)) (List.mem_append_right _ (List.mem_append_left _ (List.mem_of_getElem? (i := 9) rfl))) (List.mem_append_right _ (List.mem_append_right _ (List.mem_append_right _ (List.mem_append_right _ (List.mem_append_right _ (List.mem_append_right _ (List.mem_append_right _ (List.mem_append_right _ (List.mem_append_right _ (List.mem_append_right _ (List.mem_append_right _ (List.mem_append_right _ (List.mem_append_right _ (List.mem_append_right _ (List.mem_append_right _ (List.mem_append_right _ (List.mem_append_left _ (List.mem_of_getElem? (i := 26) rfl))))))))))))))))))) rfl rfl rfl (by decide +kernel) ⟨Nat.le_of_ble_eq_true rfl, Nat.le_of_ble_eq_true rfl⟩) hK hP hD hS hA (va_recv hK hP (ci := 7) (q0 := 0) rfl (wl_atE (by decide) rfl)) rfl hl.1 rfl (Nat.le_of_ble_eq_true rfl) d_MO_lay_90 ⟨Nat.zero_le _, Nat.zero_le _⟩ (fun H locs hP hD hS => ?_)
          obtain ⟨M_5, eM_5⟩ : ∃ q_, q_ = r_la Mt q n a to nl (decide (to = eb)) := ⟨_, rfl⟩
          have hP : va_P D vwCl (mo_w ad cs M_5) H := by rw [eM_5]; exact hP
          have hD : va_D A (mo_w ad cs M_5) := by rw [eM_5]; exact hD
          rw [hln] at eM_5
          have hsm2 : eqR M_5 M := by rw [eM_5]; exact r_ln_eqR _ _ _ _ _
          have hebx : M_5 1 (q + 1) = ((eb : Nat) : Int) := by rw [hsm2.1 1 (by omega) (by omega)]; exact heb
          have hnx : M_5 0 16 = ((nl : Nat) : Int) + 1 := by rw [eM_5, ← hln]; exact r_la_n _ _ _ _ _ _ _
          refine lv_iload hx hb d_MO_lay_93 (lv_at hl 0 rfl) ?_
          refine lv_istore_n (lv' := [(2, .int (iI (((to : Nat) : Int)))), (4, .int (iI (((to : Nat) : Int)))), (3, .int (iI (1))), (0, .ref (ad (0))), (1, .int (iI (((q : Nat) : Int))))]) hx hb d_MO_lay_95 rfl hl (by decide) rfl (fun ls hl => ?_)
          refine lv_iload_n hx hb d_MO_lay_96 rfl (lv_at hl 0 rfl) ?_
          refine lv_aload_n hx hb d_MO_lay_97 rfl (lv_at hl 3 rfl) ?_
          refine z_get (ci := 7) (C := R_MO) (T := T_MO) (N := 32) (v := .ref (ad (1))) hx hb hg in_MO hown hK hP (0) (by decide) rfl rfl 5 (by decide) (hg _ (List.mem_append_right _ (List.mem_append_right _ (List.mem_append_right _ (List.mem_append_right _ (List.mem_append_right _ (List.mem_append_right _ (List.mem_append_right _ (List.mem_append_right _ (List.mem_append_right _ (List.mem_append_right _ (List.mem_append_right _ (List.mem_append_right _ (List.mem_append_right _ (List.mem_append_left _ (List.mem_of_getElem? (i := 8) rfl)))))))))))))))) (fun _ h9 => h9) rfl d_MO_lay_98 ?_
          refine lv_iload_n hx hb d_MO_lay_101 rfl (lv_at hl 4 rfl) ?_
          refine z_iconst hx hb (z := 1) d_MO_lay_102 ?_
          refine z_iadd hx hb d_MO_lay_103 (v := ((q + 1 : Nat) : Int)) (by omega) ?_
          refine z_iald hx hb hK hP (1) 0 (by decide) (fun _ => rfl) rfl (q + 1) rfl (by omega) (by decide) d_MO_lay_104 ?_
          refine z_icmp_ge hx hb (tgt := 112) d_MO_lay_105 (by decide) ⟨by omega, by omega⟩ ⟨by omega, by omega⟩ (fun c_105 => ?_) (fun c_105 => ?_)
          · refine z_iconst hx hb (z := 0) d_MO_lay_112 ?_
            refine lv_istore_n (lv' := [(3, .int (iI (0))), (2, .int (iI (((to : Nat) : Int)))), (4, .int (iI (((to : Nat) : Int)))), (0, .ref (ad (0))), (1, .int (iI (((q : Nat) : Int))))]) hx hb d_MO_lay_113 rfl hl (by decide) rfl (fun ls hl => ?_)
            refine lv_goto (tgt := 39) hx hb d_MO_lay_114 (by decide) ?_
            refine lv_iload_n hx hb d_MO_lay_39 rfl (lv_at hl 0 rfl) ?_
            refine z_if_eq hx hb (tgt := 117) d_MO_lay_40 (by decide) ⟨by decide, by decide⟩ (fun c_40' => ?_) (fun c_40' => ?_)
            · have he2 : M_5 = MF := by rw [← he, eM_5]; unfold r_lines; rw [if_neg (by rw [← eto]; omega)]
              subst he2
              exact kk H locs ls hP hD hS (lv_sub hl [3, 4] rfl)
            · exact absurd c_40' (by decide)
          · refine z_iconst hx hb (z := 1) d_MO_lay_108 ?_
            refine lv_goto (tgt := 113) hx hb d_MO_lay_109 (by decide) ?_
            refine lv_istore_n (lv' := [(3, .int (iI (1))), (2, .int (iI (((to : Nat) : Int)))), (4, .int (iI (((to : Nat) : Int)))), (0, .ref (ad (0))), (1, .int (iI (((q : Nat) : Int))))]) hx hb d_MO_lay_113 rfl hl (by decide) rfl (fun ls hl => ?_)
            refine lv_goto (tgt := 39) hx hb d_MO_lay_114 (by decide) ?_
            exact ih to M_5 (by omega) (by omega) (eqR_tr hsm2 hsm) (by rw [hnx]; omega) (by rw [← he, eM_5]; conv => rhs; unfold r_lines; rw [if_pos (by rw [← eto]; omega), ← eto]) H locs ls hP hD hS (lv_sub hl [0, 1, 3, 4] rfl)
set_option maxHeartbeats 4000000 in
set_option maxRecDepth 100000 in
theorem lr_lay2 {p : Program} {l : Launch} {e : Env} {s : State} {m : MethodId} {args : Array Value} {below : List Frame} {meth : Method} {c : Code} {Q : State → Prop} {A : Nat → Prop} {H0 : Heap} {D : va_G} {ad : Nat → Nat} {cs : ClassId} (hx : p.tables.exec = Jvm.exec) (hb : c.code = b_MO_lay) (hml : c.maxLocals = 5) (hg : ∀ w ∈ gt, w.before args s = true) (hown : s.vm.findClass R_MO = some m.cls) (hK : va_K D vwCl (mo_tys cs) s) (hA : ∀ q, H0.size ≤ q → A q) (np : Nat) (MF : Nat → Nat → Int) (kk : ∀ (H : Heap) (locs : List Loc) (ls : Array Slot), va_P D vwCl (mo_w ad cs MF) H → va_D A (mo_w ad cs MF) → va_S A H0 H locs → lv_has ls 5 [(0, .ref (ad (0)))] → W p l e ({ frames := 5, cells := 0, slots := 0, locals := 138 } : Room) s m args below meth c H locs 0 0 Q (F0 m 123 ls [])) : ∀ (f q : Nat) (M : Nat → Nat → Int), q + f = np → rI M np → 0 ≤ M 0 16 → (0 < f → M 0 16 ≤ M 1 q + ((q : Nat) : Int)) → r_pars f q M = MF → ∀ (H : Heap) (locs : List Loc) (ls : Array Slot), va_P D vwCl (mo_w ad cs M) H → va_D A (mo_w ad cs M) → va_S A H0 H locs → lv_has ls 5 [(1, .int (iI (((q : Nat) : Int)))), (0, .ref (ad (0)))] → W p l e ({ frames := 5, cells := 0, slots := 0, locals := 138 } : Room) s m args below meth c H locs 0 0 Q (F0 m 22 ls []) := by
  intro f
  induction f with
  | zero =>
    intro q M hf hi hn0 hn1 he H locs ls hP hD hS hl
    have hnp := hi.1
    have h30 := hi.2.1
    refine lv_iload_n hx hb d_MO_lay_22 rfl (lv_at hl 0 rfl) ?_
    refine lv_aload_n hx hb d_MO_lay_23 rfl (lv_at hl 1 rfl) ?_
    refine z_get (ci := 7) (C := R_MO) (T := T_MO) (N := 32) (v := .int (iI (M (0) 4))) hx hb hg in_MO hown hK hP (0) (by decide) rfl rfl 4 (by decide) (hg _ (List.mem_append_right _ (List.mem_append_right _ (List.mem_append_right _ (List.mem_append_right _ (List.mem_append_right _ (List.mem_append_right _ (List.mem_append_right _ (List.mem_append_right _ (List.mem_append_right _ (List.mem_append_right _ (List.mem_append_right _ (List.mem_append_right _ (List.mem_append_right _ (List.mem_append_left _ (List.mem_of_getElem? (i := 7) rfl)))))))))))))))) (fun _ h9 => h9) rfl d_MO_lay_24 ?_
    refine z_icmp_ge hx hb (tgt := 123) d_MO_lay_27 (by decide) ⟨by omega, by omega⟩ ⟨by omega, by omega⟩ (fun c_27 => ?_) (fun c_27 => ?_)
    · have he : M = MF := he
      subst he
      exact kk H locs ls hP hD hS (lv_sub hl [1] rfl)
    · exact absurd c_27 (by omega)
  | succ f ih =>
    intro q M hf hi hn0 hn1 he H locs ls hP hD hS hl
    have hnp := hi.1
    have h30 := hi.2.1
    have hq : q < np := by omega
    have hbe := rI_be hi hq
    have hn2 := hn1 (by omega)
    obtain ⟨aq, eaq⟩ : ∃ q_, q_ = re M q := ⟨_, rfl⟩
    obtain ⟨eb, eeb⟩ : ∃ q_, q_ = re M (q + 1) := ⟨_, rfl⟩
    rw [← eaq, ← eeb] at hbe
    obtain ⟨MG, eMG⟩ : ∃ q_, q_ = r_par M q := ⟨_, rfl⟩
    have hEQ : eqR MG M := by rw [eMG]; exact r_par_eqR M q
    have hNN : 0 ≤ MG 0 16 ∧ MG 0 16 ≤ ((eb : Nat) : Int) + ((q : Nat) : Int) + 1 := by rw [eMG]; unfold r_par; rw [← eeb, ← eaq]; exact r_lines_n q _ eb _ aq M hbe.2.1 hbe.2.2.1 ⟨hn0, by omega⟩
    refine lv_iload_n hx hb d_MO_lay_22 rfl (lv_at hl 0 rfl) ?_
    refine lv_aload_n hx hb d_MO_lay_23 rfl (lv_at hl 1 rfl) ?_
    refine z_get (ci := 7) (C := R_MO) (T := T_MO) (N := 32) (v := .int (iI (M (0) 4))) hx hb hg in_MO hown hK hP (0) (by decide) rfl rfl 4 (by decide) (hg _ (List.mem_append_right _ (List.mem_append_right _ (List.mem_append_right _ (List.mem_append_right _ (List.mem_append_right _ (List.mem_append_right _ (List.mem_append_right _ (List.mem_append_right _ (List.mem_append_right _ (List.mem_append_right _ (List.mem_append_right _ (List.mem_append_right _ (List.mem_append_right _ (List.mem_append_left _ (List.mem_of_getElem? (i := 7) rfl)))))))))))))))) (fun _ h9 => h9) rfl d_MO_lay_24 ?_
    refine z_icmp_ge hx hb (tgt := 123) d_MO_lay_27 (by decide) ⟨by omega, by omega⟩ ⟨by omega, by omega⟩ (fun c_27 => ?_) (fun c_27 => ?_)
    · exact absurd c_27 (by omega)
    · refine lv_aload_n hx hb d_MO_lay_30 rfl (lv_at hl 1 rfl) ?_
      refine z_get (ci := 7) (C := R_MO) (T := T_MO) (N := 32) (v := .ref (ad (1))) hx hb hg in_MO hown hK hP (0) (by decide) rfl rfl 5 (by decide) (hg _ (List.mem_append_right _ (List.mem_append_right _ (List.mem_append_right _ (List.mem_append_right _ (List.mem_append_right _ (List.mem_append_right _ (List.mem_append_right _ (List.mem_append_right _ (List.mem_append_right _ (List.mem_append_right _ (List.mem_append_right _ (List.mem_append_right _ (List.mem_append_right _ (List.mem_append_left _ (List.mem_of_getElem? (i := 8) rfl)))))))))))))))) (fun _ h9 => h9) rfl d_MO_lay_31 ?_
      refine lv_iload_n hx hb d_MO_lay_34 rfl (lv_at hl 0 rfl) ?_
      refine z_iald hx hb hK hP (1) 0 (by decide) (fun _ => rfl) rfl (q) rfl (by omega) (by decide) d_MO_lay_35 ?_
      refine lv_topi (fun y_ ey => ?_)
      have ey := ey.trans (congrArg iI hbe.1)
      subst ey
      refine lv_istore_n (lv' := [(2, .int (iI (((aq : Nat) : Int)))), (1, .int (iI (((q : Nat) : Int)))), (0, .ref (ad (0)))]) hx hb d_MO_lay_36 rfl hl (by decide) rfl (fun ls hl => ?_)
      refine z_iconst hx hb (z := 1) d_MO_lay_37 ?_
      refine lv_istore_n (lv' := [(3, .int (iI (1))), (2, .int (iI (((aq : Nat) : Int)))), (1, .int (iI (((q : Nat) : Int)))), (0, .ref (ad (0)))]) hx hb d_MO_lay_38 rfl hl (by decide) rfl (fun ls hl => ?_)
      refine lr_lay1 hx hb hml hg hown hK hA q (rn M q) eb np hi hq rfl hbe.2.1 MG (fun H locs ls hP hD hS hl => ?_) (eb - aq + 1) aq M (by omega) hbe.2.2.1 eqR_rf ⟨hn0, by omega⟩ (by rw [eMG]; unfold r_par; rw [← eeb, ← eaq]) H locs ls hP hD hS (lv_sub hl [0, 1, 3, 2] rfl)
      refine z_iinc (v := ((q + 1 : Nat) : Int)) (lv' := [(1, .int (iI (((q + 1 : Nat) : Int)))), (0, .ref (ad (0)))]) hx hb d_MO_lay_117 hl (k := 1) rfl (by omega) (by decide) rfl (fun ls hl => ?_)
      refine lv_goto (tgt := 22) hx hb d_MO_lay_120 (by decide) ?_
      exact ih (q + 1) MG (by omega) (eqR_rI hEQ hi) hNN.1 (fun _ => by rw [hEQ.1 1 (by omega) (by omega)]; omega) (by rw [← he, eMG]; rfl) H locs ls hP hD hS (lv_sub hl [0, 1] rfl)
set_option maxHeartbeats 4000000 in
set_option maxRecDepth 100000 in
theorem lr_lay3 {p : Program} {l : Launch} {e : Env} {s : State} {m : MethodId} {args : Array Value} {below : List Frame} {meth : Method} {c : Code} {Q : State → Prop} {A : Nat → Prop} {H0 : Heap} {D : va_G} {ad : Nat → Nat} {cs : ClassId} {M : Nat → Nat → Int} (hx : p.tables.exec = Jvm.exec) (hb : c.code = b_MO_lay) (hml : c.maxLocals = 5) (hg : ∀ w ∈ gt, w.before args s = true) (hown : s.vm.findClass R_MO = some m.cls) (hK : va_K D vwCl (mo_tys cs) s) (hA : ∀ q, H0.size ≤ q → A q) (a n : Nat) (pg : Int) (han : a + n < 640) (hL : rL M) (hZ : rZ M) (hpg : M 0 30 = pg) (MF : Nat → Nat → Int) (kk : ∀ (H : Heap) (locs : List Loc) (ls : Array Slot), va_P D vwCl (mo_w ad cs MF) H → va_D A (mo_w ad cs MF) → va_S A H0 H locs → lv_has ls 5 [(2, .int (iI (((n : Nat) : Int)))), (1, .int (iI (((a : Nat) : Int)))), (0, .ref (ad (0)))] → W p l e ({ frames := 5, cells := 0, slots := 0, locals := 138 } : Room) s m args below meth c H locs 0 0 Q (F0 m 216 ls [])) : ∀ (f k : Nat) (d : Int) (Mc : Nat → Nat → Int), k + f = a + n → a ≤ k → -40000 * ((k : Nat) : Int) ≤ d ∧ d ≤ 40000 * ((k : Nat) : Int) → eqb 17 18 Mc M → r_pg M a pg f k d Mc = MF → ∀ (H : Heap) (locs : List Loc) (ls : Array Slot), va_P D vwCl (mo_w ad cs Mc) H → va_D A (mo_w ad cs Mc) → va_S A H0 H locs → lv_has ls 5 [(4, .int (iI (((k : Nat) : Int)))), (3, .int (iI (d))), (2, .int (iI (((n : Nat) : Int)))), (1, .int (iI (((a : Nat) : Int)))), (0, .ref (ad (0)))] → W p l e ({ frames := 5, cells := 0, slots := 0, locals := 138 } : Room) s m args below meth c H locs 0 0 Q (F0 m 154 ls []) := by
  intro f
  induction f with
  | zero =>
    intro k d Mc hf hk hd hsm he H locs ls hP hD hS hl
    have hL1 : rL Mc := eqb_rL2 hsm hL
    have hbt : ∀ w, r_btw Mc w = r_btw M w := fun w => r_btw_eq (hsm 11 (by omega)) (hsm 2 (by omega)) w
    have hbb := r_btwb hZ k
    have hhb := (hL k).2.2
    have hp1 : Mc 0 30 = pg := by rw [hsm 0 (by omega)]; exact hpg
    refine lv_iload hx hb d_MO_lay_154 (lv_at hl 0 rfl) ?_
    refine lv_iload_n hx hb d_MO_lay_156 rfl (lv_at hl 3 rfl) ?_
    refine lv_iload_n hx hb d_MO_lay_157 rfl (lv_at hl 2 rfl) ?_
    refine z_iadd hx hb d_MO_lay_158 (v := ((a + n : Nat) : Int)) (by omega) ?_
    refine z_icmp_ge hx hb (tgt := 216) d_MO_lay_159 (by decide) ⟨by omega, by omega⟩ ⟨by omega, by omega⟩ (fun c_159 => ?_) (fun c_159 => ?_)
    · have he : Mc = MF := he
      subst he
      exact kk H locs ls hP hD hS (lv_sub hl [2, 3, 4] rfl)
    · exact absurd c_159 (by omega)
  | succ f ih =>
    intro k d Mc hf hk hd hsm he H locs ls hP hD hS hl
    have hL1 : rL Mc := eqb_rL2 hsm hL
    have hbt : ∀ w, r_btw Mc w = r_btw M w := fun w => r_btw_eq (hsm 11 (by omega)) (hsm 2 (by omega)) w
    have hbb := r_btwb hZ k
    have hhb := (hL k).2.2
    have hp1 : Mc 0 30 = pg := by rw [hsm 0 (by omega)]; exact hpg
    refine lv_iload hx hb d_MO_lay_154 (lv_at hl 0 rfl) ?_
    refine lv_iload_n hx hb d_MO_lay_156 rfl (lv_at hl 3 rfl) ?_
    refine lv_iload_n hx hb d_MO_lay_157 rfl (lv_at hl 2 rfl) ?_
    refine z_iadd hx hb d_MO_lay_158 (v := ((a + n : Nat) : Int)) (by omega) ?_
    refine z_icmp_ge hx hb (tgt := 216) d_MO_lay_159 (by decide) ⟨by omega, by omega⟩ ⟨by omega, by omega⟩ (fun c_159 => ?_) (fun c_159 => ?_)
    · exact absurd c_159 (by omega)
    · refine lv_iload_n hx hb d_MO_lay_162 rfl (lv_at hl 1 rfl) ?_
      refine lv_iload hx hb d_MO_lay_163 (lv_at hl 0 rfl) ?_
      refine lv_iload_n hx hb d_MO_lay_165 rfl (lv_at hl 3 rfl) ?_
      refine z_icmp_le hx hb (tgt := 178) d_MO_lay_166 (by decide) ⟨by omega, by omega⟩ ⟨by omega, by omega⟩ (fun c_166 => ?_) (fun c_166 => ?_)
      · refine z_iconst hx hb (z := 0) d_MO_lay_178 ?_
        obtain ⟨bw, ebw⟩ : ∃ q_ : Int, q_ = if a < k then r_btw M k else 0 := ⟨_, rfl⟩
        have hbw : -10000 ≤ bw ∧ bw ≤ 10000 := by rw [ebw]; split <;> omega
        have hbv : 0 = bw := by rw [ebw, if_neg (by omega)]
        refine lv_topi (fun y_ ey => ?_)
        have ey := ey.trans (congrArg iI hbv)
        subst ey
        refine z_iadd hx hb d_MO_lay_179 (v := (d + bw)) rfl ?_
        refine lv_istore_n (lv' := [(3, .int (iI ((d + bw)))), (4, .int (iI (((k : Nat) : Int)))), (2, .int (iI (((n : Nat) : Int)))), (1, .int (iI (((a : Nat) : Int)))), (0, .ref (ad (0)))]) hx hb d_MO_lay_180 rfl hl (by decide) rfl (fun ls hl => ?_)
        refine lv_aload_n hx hb d_MO_lay_181 rfl (lv_at hl 4 rfl) ?_
        refine z_get (ci := 7) (C := R_MO) (T := T_MO) (N := 32) (v := .ref (ad (17))) hx hb hg in_MO hown hK hP (0) (by decide) rfl rfl 23 (by decide) (hg _ (List.mem_append_right _ (List.mem_append_right _ (List.mem_append_right _ (List.mem_append_right _ (List.mem_append_right _ (List.mem_append_right _ (List.mem_append_right _ (List.mem_append_right _ (List.mem_append_right _ (List.mem_append_right _ (List.mem_append_right _ (List.mem_append_right _ (List.mem_append_right _ (List.mem_append_left _ (List.mem_of_getElem? (i := 26) rfl)))))))))))))))) (fun _ h9 => h9) rfl d_MO_lay_182 ?_
        refine lv_iload hx hb d_MO_lay_185 (lv_at hl 1 rfl) ?_
        refine lv_aload_n hx hb d_MO_lay_187 rfl (lv_at hl 4 rfl) ?_
        refine z_get (ci := 7) (C := R_MO) (T := T_MO) (N := 32) (v := .int (iI (Mc (0) 30))) hx hb hg in_MO hown hK hP (0) (by decide) rfl rfl 30 (by decide) (hg _ (List.mem_append_right _ (List.mem_append_right _ (List.mem_append_right _ (List.mem_append_right _ (List.mem_append_right _ (List.mem_append_right _ (List.mem_append_right _ (List.mem_append_right _ (List.mem_append_right _ (List.mem_append_right _ (List.mem_append_right _ (List.mem_append_right _ (List.mem_append_right _ (List.mem_append_left _ (List.mem_of_getElem? (i := 33) rfl)))))))))))))))) (fun _ h9 => h9) rfl d_MO_lay_188 ?_
        refine lv_topi (fun y_ ey => ?_)
        have ey := ey.trans (congrArg iI hp1)
        subst ey
        refine z_iast hx hb hK hP hD hS (17) 0 (by decide) (fun _ => rfl) rfl (v := pg) (k) rfl (by omega) (by decide) d_MO_lay_191 (fun H locs hP hD hS => ?_)
        obtain ⟨M_1, eM_1⟩ : ∃ q_, q_ = mset Mc (17) (k) (pg) := ⟨_, rfl⟩
        have hP : va_P D vwCl (mo_w ad cs M_1) H := by rw [eM_1]; exact hP
        have hD : va_D A (mo_w ad cs M_1) := by rw [eM_1]; exact hD
        refine lv_aload_n hx hb d_MO_lay_192 rfl (lv_at hl 4 rfl) ?_
        refine z_get (ci := 7) (C := R_MO) (T := T_MO) (N := 32) (v := .ref (ad (18))) hx hb hg in_MO hown hK hP (0) (by decide) rfl rfl 24 (by decide) (hg _ (List.mem_append_right _ (List.mem_append_right _ (List.mem_append_right _ (List.mem_append_right _ (List.mem_append_right _ (List.mem_append_right _ (List.mem_append_right _ (List.mem_append_right _ (List.mem_append_right _ (List.mem_append_right _ (List.mem_append_right _ (List.mem_append_right _ (List.mem_append_right _ (List.mem_append_left _ (List.mem_of_getElem? (i := 27) rfl)))))))))))))))) (fun _ h9 => h9) rfl d_MO_lay_193 ?_
        refine lv_iload hx hb d_MO_lay_196 (lv_at hl 1 rfl) ?_
        refine lv_iload_n hx hb d_MO_lay_198 rfl (lv_at hl 0 rfl) ?_
        refine z_iast hx hb hK hP hD hS (18) 0 (by decide) (fun _ => rfl) rfl (v := (d + bw)) (k) rfl (by omega) (by decide) d_MO_lay_199 (fun H locs hP hD hS => ?_)
        obtain ⟨M_2, eM_2⟩ : ∃ q_, q_ = mset M_1 (18) (k) ((d + bw)) := ⟨_, rfl⟩
        have hP : va_P D vwCl (mo_w ad cs M_2) H := by rw [eM_2]; exact hP
        have hD : va_D A (mo_w ad cs M_2) := by rw [eM_2]; exact hD
        refine lv_iload_n hx hb d_MO_lay_200 rfl (lv_at hl 0 rfl) ?_
        refine lv_aload_n hx hb d_MO_lay_201 rfl (lv_at hl 4 rfl) ?_
        refine z_get (ci := 7) (C := R_MO) (T := T_MO) (N := 32) (v := .ref (ad (16))) hx hb hg in_MO hown hK hP (0) (by decide) rfl rfl 22 (by decide) (hg _ (List.mem_append_right _ (List.mem_append_right _ (List.mem_append_right _ (List.mem_append_right _ (List.mem_append_right _ (List.mem_append_right _ (List.mem_append_right _ (List.mem_append_right _ (List.mem_append_right _ (List.mem_append_right _ (List.mem_append_right _ (List.mem_append_right _ (List.mem_append_right _ (List.mem_append_left _ (List.mem_of_getElem? (i := 25) rfl)))))))))))))))) (fun _ h9 => h9) rfl d_MO_lay_202 ?_
        refine lv_iload hx hb d_MO_lay_205 (lv_at hl 1 rfl) ?_
        refine z_iald hx hb hK hP (16) 0 (by decide) (fun _ => rfl) rfl (k) rfl (by omega) (by decide) d_MO_lay_207 ?_
        have hh16 : M_2 (16) (k) = M 16 k := by rw [eM_2, mset_ne (by omega), eM_1, mset_ne (by omega), hsm 16 (by omega)]
        refine lv_topi (fun y_ ey => ?_)
        have ey := ey.trans (congrArg iI hh16)
        subst ey
        refine z_iadd hx hb d_MO_lay_208 (v := ((d + bw) + M 16 k)) rfl ?_
        refine lv_istore_n (lv' := [(3, .int (iI (((d + bw) + M 16 k)))), (4, .int (iI (((k : Nat) : Int)))), (2, .int (iI (((n : Nat) : Int)))), (1, .int (iI (((a : Nat) : Int)))), (0, .ref (ad (0)))]) hx hb d_MO_lay_209 rfl hl (by decide) rfl (fun ls hl => ?_)
        refine z_iinc (v := ((k + 1 : Nat) : Int)) (lv' := [(4, .int (iI (((k + 1 : Nat) : Int)))), (3, .int (iI (((d + bw) + M 16 k)))), (2, .int (iI (((n : Nat) : Int)))), (1, .int (iI (((a : Nat) : Int)))), (0, .ref (ad (0)))]) hx hb d_MO_lay_210 hl (k := 1) rfl (by omega) (by decide) rfl (fun ls hl => ?_)
        refine lv_goto (tgt := 154) hx hb d_MO_lay_213 (by decide) ?_
        exact ih (k + 1) (d + bw + M 16 k) M_2 (by omega) (by omega) (by omega) (by rw [eM_2, eM_1]; exact eqb_set (eqb_set hsm (by omega) (by omega)) (by omega) (by omega)) (by rw [← he, eM_2, eM_1, ebw]; rfl) H locs ls hP hD hS (lv_sub hl [0, 1, 2, 3, 4] rfl)
      · refine lv_aload_n hx hb d_MO_lay_169 rfl (lv_at hl 4 rfl) ?_
        refine lv_iload hx hb d_MO_lay_170 (lv_at hl 0 rfl) ?_
        refine ro_V (As := [.int (iI (((k : Nat) : Int)))]) (rest := [.int (iI (d))]) (z := r_btw M k) ⟨hx, hb, hml, hown, hg⟩ (hbt k ▸ r_between l k (by omega) (by omega) hL1) (cwV 1 hg (gt_V (List.mem_append_right _ (List.mem_append_right _ (List.mem_append_right _ (List.mem_append_right _ (List.mem_append_right _ (List.mem_append_right _ (List.mem_append_right _ (List.mem_append_right _ (List.mem_append_right _ (List.mem_append_right _ (List.mem_append_right _ (List.mem_append_right _ (List.mem_append_right _ (List.mem_append_right _ (List.mem_append_right _ (List.mem_append_right _ (List.mem_append_left _ (List.mem_of_getElem? (i := 30) rfl)))))))))))))))))) (List.mem_append_right _ (List.mem_append_right _ (List.mem_append_right _ (List.mem_append_right _ (List.mem_append_right _ (List.mem_append_right _ (List.mem_append_right _ (List.mem_append_right _ (List.mem_append_right _ (List.mem_append_right _ (List.mem_append_right _ (List.mem_append_right _ (List.mem_append_right _ (List.mem_append_right _ (List.mem_append_right _ (List.mem_append_right _ (List.mem_append_left _ (List.mem_of_getElem? (i := 31) rfl)))))))))))))))))) (List.mem_append_left _ (List.mem_of_getElem? (i := 36) rfl)) (List.mem_append_right _ (List.mem_append_left _ (List.mem_of_getElem? (i := 9) rfl))) (List.mem_append_right _ (List.mem_append_right _ (List.mem_append_right _ (List.mem_append_right _ (List.mem_append_right _ (List.mem_append_right _ (List.mem_append_right _ (List.mem_append_right _ (List.mem_append_right _ (List.mem_append_right _ (List.mem_append_right _ (List.mem_append_right _ (List.mem_append_right _ (List.mem_append_right _ (List.mem_append_right _ (List.mem_append_right _ (List.mem_append_left _ (List.mem_of_getElem? (i := 32) rfl))))))))))))))))))) rfl rfl rfl (by decide +kernel) ⟨Nat.le_of_ble_eq_true rfl, Nat.le_of_ble_eq_true rfl⟩) hK hP (va_recv hK hP (ci := 7) (q0 := 0) rfl (wl_atE (by decide) rfl)) rfl hl.1 rfl (Nat.le_of_ble_eq_true rfl) d_MO_lay_172 ⟨Nat.zero_le _, Nat.zero_le _⟩ ?_
        refine lv_goto (tgt := 179) hx hb d_MO_lay_175 (by decide) ?_
        obtain ⟨bw, ebw⟩ : ∃ q_ : Int, q_ = if a < k then r_btw M k else 0 := ⟨_, rfl⟩
        have hbw : -10000 ≤ bw ∧ bw ≤ 10000 := by rw [ebw]; split <;> omega
        have hbv : r_btw M k = bw := by rw [ebw, if_pos (by omega)]
        refine lv_topi (fun y_ ey => ?_)
        have ey := ey.trans (congrArg iI hbv)
        subst ey
        refine z_iadd hx hb d_MO_lay_179 (v := (d + bw)) rfl ?_
        refine lv_istore_n (lv' := [(3, .int (iI ((d + bw)))), (4, .int (iI (((k : Nat) : Int)))), (2, .int (iI (((n : Nat) : Int)))), (1, .int (iI (((a : Nat) : Int)))), (0, .ref (ad (0)))]) hx hb d_MO_lay_180 rfl hl (by decide) rfl (fun ls hl => ?_)
        refine lv_aload_n hx hb d_MO_lay_181 rfl (lv_at hl 4 rfl) ?_
        refine z_get (ci := 7) (C := R_MO) (T := T_MO) (N := 32) (v := .ref (ad (17))) hx hb hg in_MO hown hK hP (0) (by decide) rfl rfl 23 (by decide) (hg _ (List.mem_append_right _ (List.mem_append_right _ (List.mem_append_right _ (List.mem_append_right _ (List.mem_append_right _ (List.mem_append_right _ (List.mem_append_right _ (List.mem_append_right _ (List.mem_append_right _ (List.mem_append_right _ (List.mem_append_right _ (List.mem_append_right _ (List.mem_append_right _ (List.mem_append_left _ (List.mem_of_getElem? (i := 26) rfl)))))))))))))))) (fun _ h9 => h9) rfl d_MO_lay_182 ?_
        refine lv_iload hx hb d_MO_lay_185 (lv_at hl 1 rfl) ?_
        refine lv_aload_n hx hb d_MO_lay_187 rfl (lv_at hl 4 rfl) ?_
        refine z_get (ci := 7) (C := R_MO) (T := T_MO) (N := 32) (v := .int (iI (Mc (0) 30))) hx hb hg in_MO hown hK hP (0) (by decide) rfl rfl 30 (by decide) (hg _ (List.mem_append_right _ (List.mem_append_right _ (List.mem_append_right _ (List.mem_append_right _ (List.mem_append_right _ (List.mem_append_right _ (List.mem_append_right _ (List.mem_append_right _ (List.mem_append_right _ (List.mem_append_right _ (List.mem_append_right _ (List.mem_append_right _ (List.mem_append_right _ (List.mem_append_left _ (List.mem_of_getElem? (i := 33) rfl)))))))))))))))) (fun _ h9 => h9) rfl d_MO_lay_188 ?_
        refine lv_topi (fun y_ ey => ?_)
        have ey := ey.trans (congrArg iI hp1)
        subst ey
        refine z_iast hx hb hK hP hD hS (17) 0 (by decide) (fun _ => rfl) rfl (v := pg) (k) rfl (by omega) (by decide) d_MO_lay_191 (fun H locs hP hD hS => ?_)
        obtain ⟨M_3, eM_3⟩ : ∃ q_, q_ = mset Mc (17) (k) (pg) := ⟨_, rfl⟩
        have hP : va_P D vwCl (mo_w ad cs M_3) H := by rw [eM_3]; exact hP
        have hD : va_D A (mo_w ad cs M_3) := by rw [eM_3]; exact hD
        refine lv_aload_n hx hb d_MO_lay_192 rfl (lv_at hl 4 rfl) ?_
        refine z_get (ci := 7) (C := R_MO) (T := T_MO) (N := 32) (v := .ref (ad (18))) hx hb hg in_MO hown hK hP (0) (by decide) rfl rfl 24 (by decide) (hg _ (List.mem_append_right _ (List.mem_append_right _ (List.mem_append_right _ (List.mem_append_right _ (List.mem_append_right _ (List.mem_append_right _ (List.mem_append_right _ (List.mem_append_right _ (List.mem_append_right _ (List.mem_append_right _ (List.mem_append_right _ (List.mem_append_right _ (List.mem_append_right _ (List.mem_append_left _ (List.mem_of_getElem? (i := 27) rfl)))))))))))))))) (fun _ h9 => h9) rfl d_MO_lay_193 ?_
        refine lv_iload hx hb d_MO_lay_196 (lv_at hl 1 rfl) ?_
        refine lv_iload_n hx hb d_MO_lay_198 rfl (lv_at hl 0 rfl) ?_
        refine z_iast hx hb hK hP hD hS (18) 0 (by decide) (fun _ => rfl) rfl (v := (d + bw)) (k) rfl (by omega) (by decide) d_MO_lay_199 (fun H locs hP hD hS => ?_)
        obtain ⟨M_4, eM_4⟩ : ∃ q_, q_ = mset M_3 (18) (k) ((d + bw)) := ⟨_, rfl⟩
        have hP : va_P D vwCl (mo_w ad cs M_4) H := by rw [eM_4]; exact hP
        have hD : va_D A (mo_w ad cs M_4) := by rw [eM_4]; exact hD
        refine lv_iload_n hx hb d_MO_lay_200 rfl (lv_at hl 0 rfl) ?_
        refine lv_aload_n hx hb d_MO_lay_201 rfl (lv_at hl 4 rfl) ?_
        refine z_get (ci := 7) (C := R_MO) (T := T_MO) (N := 32) (v := .ref (ad (16))) hx hb hg in_MO hown hK hP (0) (by decide) rfl rfl 22 (by decide) (hg _ (List.mem_append_right _ (List.mem_append_right _ (List.mem_append_right _ (List.mem_append_right _ (List.mem_append_right _ (List.mem_append_right _ (List.mem_append_right _ (List.mem_append_right _ (List.mem_append_right _ (List.mem_append_right _ (List.mem_append_right _ (List.mem_append_right _ (List.mem_append_right _ (List.mem_append_left _ (List.mem_of_getElem? (i := 25) rfl)))))))))))))))) (fun _ h9 => h9) rfl d_MO_lay_202 ?_
        refine lv_iload hx hb d_MO_lay_205 (lv_at hl 1 rfl) ?_
        refine z_iald hx hb hK hP (16) 0 (by decide) (fun _ => rfl) rfl (k) rfl (by omega) (by decide) d_MO_lay_207 ?_
        have hh16 : M_4 (16) (k) = M 16 k := by rw [eM_4, mset_ne (by omega), eM_3, mset_ne (by omega), hsm 16 (by omega)]
        refine lv_topi (fun y_ ey => ?_)
        have ey := ey.trans (congrArg iI hh16)
        subst ey
        refine z_iadd hx hb d_MO_lay_208 (v := ((d + bw) + M 16 k)) rfl ?_
        refine lv_istore_n (lv' := [(3, .int (iI (((d + bw) + M 16 k)))), (4, .int (iI (((k : Nat) : Int)))), (2, .int (iI (((n : Nat) : Int)))), (1, .int (iI (((a : Nat) : Int)))), (0, .ref (ad (0)))]) hx hb d_MO_lay_209 rfl hl (by decide) rfl (fun ls hl => ?_)
        refine z_iinc (v := ((k + 1 : Nat) : Int)) (lv' := [(4, .int (iI (((k + 1 : Nat) : Int)))), (3, .int (iI (((d + bw) + M 16 k)))), (2, .int (iI (((n : Nat) : Int)))), (1, .int (iI (((a : Nat) : Int)))), (0, .ref (ad (0)))]) hx hb d_MO_lay_210 hl (k := 1) rfl (by omega) (by decide) rfl (fun ls hl => ?_)
        refine lv_goto (tgt := 154) hx hb d_MO_lay_213 (by decide) ?_
        exact ih (k + 1) (d + bw + M 16 k) M_4 (by omega) (by omega) (by omega) (by rw [eM_4, eM_3]; exact eqb_set (eqb_set hsm (by omega) (by omega)) (by omega) (by omega)) (by rw [← he, eM_4, eM_3, ebw]; rfl) H locs ls hP hD hS (lv_sub hl [0, 1, 2, 3, 4] rfl)
set_option maxHeartbeats 4000000 in
set_option maxRecDepth 100000 in
theorem lr_lay4 {p : Program} {l : Launch} {e : Env} {s : State} {m : MethodId} {args : Array Value} {below : List Frame} {meth : Method} {c : Code} {Q : State → Prop} {A : Nat → Prop} {H0 : Heap} {D : va_G} {ad : Nat → Nat} {cs : ClassId} (hx : p.tables.exec = Jvm.exec) (hb : c.code = b_MO_lay) (hml : c.maxLocals = 5) (hg : ∀ w ∈ gt, w.before args s = true) (hown : s.vm.findClass R_MO = some m.cls) (hK : va_K D vwCl (mo_tys cs) s) (hA : ∀ q, H0.size ≤ q → A q) {M0 : Nat → Nat → Int} (nl : Nat) (hn6 : nl < 640) (hn : M0 0 16 = ((nl : Nat) : Int)) (hL : rL M0) (hZ : rZ M0) (hT : rT M0) (MF : Nat → Nat → Int) (kk : ∀ (H : Heap) (locs : List Loc) (ls : Array Slot), va_P D vwCl (mo_w ad cs MF) H → va_D A (mo_w ad cs MF) → va_S A H0 H locs → lv_has ls 5 [(0, .ref (ad (0)))] → W p l e ({ frames := 5, cells := 0, slots := 0, locals := 138 } : Room) s m args below meth c H locs 0 0 Q (F0 m 233 ls [])) : ∀ (f a : Nat) (M : Nat → Nat → Int), nl ≤ a + f → a ≤ nl → eqP M M0 → 0 ≤ M 0 30 ∧ M 0 30 ≤ ((a : Nat) : Int) → r_fill nl f a M = MF → ∀ (H : Heap) (locs : List Loc) (ls : Array Slot), va_P D vwCl (mo_w ad cs M) H → va_D A (mo_w ad cs M) → va_S A H0 H locs → lv_has ls 5 [(1, .int (iI (((a : Nat) : Int)))), (0, .ref (ad (0)))] → W p l e ({ frames := 5, cells := 0, slots := 0, locals := 138 } : Room) s m args below meth c H locs 0 0 Q (F0 m 125 ls []) := by
  intro f
  induction f with
  | zero =>
    intro a M hf ha hsm hpb he H locs ls hP hD hS hl
    have hL1 := eqP_rL hsm hL
    have hZ1 := eqP_rZ hsm hZ
    have hT1 := eqP_rT hsm hT
    have hn1 : M 0 16 = ((nl : Nat) : Int) := by rw [hsm.2 16 (by omega)]; exact hn
    obtain ⟨pg, epg⟩ : ∃ q_, q_ = rpM M := ⟨_, rfl⟩
    have hpg : M 0 30 = ((pg : Nat) : Int) := by rw [epg]; unfold rpM; omega
    refine lv_iload_n hx hb d_MO_lay_125 rfl (lv_at hl 0 rfl) ?_
    refine lv_aload_n hx hb d_MO_lay_126 rfl (lv_at hl 1 rfl) ?_
    refine z_get (ci := 7) (C := R_MO) (T := T_MO) (N := 32) (v := .int (iI (M (0) 16))) hx hb hg in_MO hown hK hP (0) (by decide) rfl rfl 16 (by decide) (hg _ (List.mem_append_right _ (List.mem_append_right _ (List.mem_append_right _ (List.mem_append_right _ (List.mem_append_right _ (List.mem_append_right _ (List.mem_append_right _ (List.mem_append_right _ (List.mem_append_right _ (List.mem_append_right _ (List.mem_append_right _ (List.mem_append_right _ (List.mem_append_right _ (List.mem_append_left _ (List.mem_of_getElem? (i := 19) rfl)))))))))))))))) (fun _ h9 => h9) rfl d_MO_lay_127 ?_
    refine z_icmp_ge hx hb (tgt := 233) d_MO_lay_130 (by decide) ⟨by omega, by omega⟩ ⟨by omega, by omega⟩ (fun c_130 => ?_) (fun c_130 => ?_)
    · have he : M = MF := he
      subst he
      exact kk H locs ls hP hD hS (lv_sub hl [1] rfl)
    · exact absurd c_130 (by omega)
  | succ f ih =>
    intro a M hf ha hsm hpb he H locs ls hP hD hS hl
    have hL1 := eqP_rL hsm hL
    have hZ1 := eqP_rZ hsm hZ
    have hT1 := eqP_rT hsm hT
    have hn1 : M 0 16 = ((nl : Nat) : Int) := by rw [hsm.2 16 (by omega)]; exact hn
    obtain ⟨pg, epg⟩ : ∃ q_, q_ = rpM M := ⟨_, rfl⟩
    have hpg : M 0 30 = ((pg : Nat) : Int) := by rw [epg]; unfold rpM; omega
    refine lv_iload_n hx hb d_MO_lay_125 rfl (lv_at hl 0 rfl) ?_
    refine lv_aload_n hx hb d_MO_lay_126 rfl (lv_at hl 1 rfl) ?_
    refine z_get (ci := 7) (C := R_MO) (T := T_MO) (N := 32) (v := .int (iI (M (0) 16))) hx hb hg in_MO hown hK hP (0) (by decide) rfl rfl 16 (by decide) (hg _ (List.mem_append_right _ (List.mem_append_right _ (List.mem_append_right _ (List.mem_append_right _ (List.mem_append_right _ (List.mem_append_right _ (List.mem_append_right _ (List.mem_append_right _ (List.mem_append_right _ (List.mem_append_right _ (List.mem_append_right _ (List.mem_append_right _ (List.mem_append_right _ (List.mem_append_left _ (List.mem_of_getElem? (i := 19) rfl)))))))))))))))) (fun _ h9 => h9) rfl d_MO_lay_127 ?_
    refine z_icmp_ge hx hb (tgt := 233) d_MO_lay_130 (by decide) ⟨by omega, by omega⟩ ⟨by omega, by omega⟩ (fun c_130 => ?_) (fun c_130 => ?_)
    · have he : M = MF := by rw [← he]; unfold r_fill; rw [if_neg (by omega)]
      subst he
      exact kk H locs ls hP hD hS (lv_sub hl [1] rfl)
    · refine lv_aload_n hx hb d_MO_lay_133 rfl (lv_at hl 1 rfl) ?_
      refine lv_iload_n hx hb d_MO_lay_134 rfl (lv_at hl 0 rfl) ?_
      have hfb := r_fil_b M (show a < nl by omega)
      obtain ⟨n, en⟩ : ∃ q_, q_ = r_fil M a nl := ⟨_, rfl⟩
      rw [← en] at hfb
      refine ro_V (As := [.int (iI (((a : Nat) : Int)))]) (rest := []) (z := ((n : Nat) : Int)) ⟨hx, hb, hml, hown, hg⟩ (en ▸ r_filled l a nl hn1 hn6 (by omega) hL1 hZ1 hT1) (cwV 1 hg (gt_V (List.mem_append_right _ (List.mem_append_right _ (List.mem_append_right _ (List.mem_append_right _ (List.mem_append_right _ (List.mem_append_right _ (List.mem_append_right _ (List.mem_append_right _ (List.mem_append_right _ (List.mem_append_right _ (List.mem_append_right _ (List.mem_append_right _ (List.mem_append_right _ (List.mem_append_right _ (List.mem_append_right _ (List.mem_append_right _ (List.mem_append_left _ (List.mem_of_getElem? (i := 27) rfl)))))))))))))))))) (List.mem_append_right _ (List.mem_append_right _ (List.mem_append_right _ (List.mem_append_right _ (List.mem_append_right _ (List.mem_append_right _ (List.mem_append_right _ (List.mem_append_right _ (List.mem_append_right _ (List.mem_append_right _ (List.mem_append_right _ (List.mem_append_right _ (List.mem_append_right _ (List.mem_append_right _ (List.mem_append_right _ (List.mem_append_right _ (List.mem_append_left _ (List.mem_of_getElem? (i := 28) rfl)))))))))))))))))) (List.mem_append_left _ (List.mem_of_getElem? (i := 35) rfl)) (List.mem_append_right _ (List.mem_append_left _ (List.mem_of_getElem? (i := 9) rfl))) (List.mem_append_right _ (List.mem_append_right _ (List.mem_append_right _ (List.mem_append_right _ (List.mem_append_right _ (List.mem_append_right _ (List.mem_append_right _ (List.mem_append_right _ (List.mem_append_right _ (List.mem_append_right _ (List.mem_append_right _ (List.mem_append_right _ (List.mem_append_right _ (List.mem_append_right _ (List.mem_append_right _ (List.mem_append_right _ (List.mem_append_left _ (List.mem_of_getElem? (i := 29) rfl))))))))))))))))))) rfl rfl rfl (by decide +kernel) ⟨Nat.le_of_ble_eq_true rfl, Nat.le_of_ble_eq_true rfl⟩) hK hP (va_recv hK hP (ci := 7) (q0 := 0) rfl (wl_atE (by decide) rfl)) rfl hl.1 rfl (Nat.le_of_ble_eq_true rfl) d_MO_lay_135 ⟨Nat.zero_le _, Nat.zero_le _⟩ ?_
      refine lv_istore_n (lv' := [(2, .int (iI (((n : Nat) : Int)))), (1, .int (iI (((a : Nat) : Int)))), (0, .ref (ad (0)))]) hx hb d_MO_lay_138 rfl hl (by decide) rfl (fun ls hl => ?_)
      refine lv_aload_n hx hb d_MO_lay_139 rfl (lv_at hl 2 rfl) ?_
      refine z_get (ci := 7) (C := R_MO) (T := T_MO) (N := 32) (v := .ref (ad (24))) hx hb hg in_MO hown hK hP (0) (by decide) rfl rfl 31 (by decide) (hg _ (List.mem_append_right _ (List.mem_append_right _ (List.mem_append_right _ (List.mem_append_right _ (List.mem_append_right _ (List.mem_append_right _ (List.mem_append_right _ (List.mem_append_right _ (List.mem_append_right _ (List.mem_append_right _ (List.mem_append_right _ (List.mem_append_right _ (List.mem_append_right _ (List.mem_append_left _ (List.mem_of_getElem? (i := 34) rfl)))))))))))))))) (fun _ h9 => h9) rfl d_MO_lay_140 ?_
      refine lv_aload_n hx hb d_MO_lay_143 rfl (lv_at hl 2 rfl) ?_
      refine z_get (ci := 7) (C := R_MO) (T := T_MO) (N := 32) (v := .int (iI (M (0) 30))) hx hb hg in_MO hown hK hP (0) (by decide) rfl rfl 30 (by decide) (hg _ (List.mem_append_right _ (List.mem_append_right _ (List.mem_append_right _ (List.mem_append_right _ (List.mem_append_right _ (List.mem_append_right _ (List.mem_append_right _ (List.mem_append_right _ (List.mem_append_right _ (List.mem_append_right _ (List.mem_append_right _ (List.mem_append_right _ (List.mem_append_right _ (List.mem_append_left _ (List.mem_of_getElem? (i := 33) rfl)))))))))))))))) (fun _ h9 => h9) rfl d_MO_lay_144 ?_
      refine lv_iload_n hx hb d_MO_lay_147 rfl (lv_at hl 1 rfl) ?_
      refine z_iast hx hb hK hP hD hS (24) 0 (by decide) (fun _ => rfl) rfl (v := ((a : Nat) : Int)) (pg) hpg (by omega) (by decide) d_MO_lay_148 (fun H locs hP hD hS => ?_)
      obtain ⟨M_1, eM_1⟩ : ∃ q_, q_ = mset M (24) (pg) (((a : Nat) : Int)) := ⟨_, rfl⟩
      have hP : va_P D vwCl (mo_w ad cs M_1) H := by rw [eM_1]; exact hP
      have hD : va_D A (mo_w ad cs M_1) := by rw [eM_1]; exact hD
      refine z_iconst hx hb (z := 0) d_MO_lay_149 ?_
      refine lv_istore_n (lv' := [(3, .int (iI (0))), (2, .int (iI (((n : Nat) : Int)))), (1, .int (iI (((a : Nat) : Int)))), (0, .ref (ad (0)))]) hx hb d_MO_lay_150 rfl hl (by decide) rfl (fun ls hl => ?_)
      refine lv_iload_n hx hb d_MO_lay_151 rfl (lv_at hl 2 rfl) ?_
      refine lv_istore (lv' := [(4, .int (iI (((a : Nat) : Int)))), (3, .int (iI (0))), (2, .int (iI (((n : Nat) : Int)))), (1, .int (iI (((a : Nat) : Int)))), (0, .ref (ad (0)))]) hx hb d_MO_lay_152 hl (by decide) rfl (fun ls hl => ?_)
      have hL2 : rL M_1 := fun j => by rw [eM_1, mset_ne (by omega), mset_ne (by omega), mset_ne (by omega), mset_ne (by omega)]; exact hL1 j
      have hZ2 : rZ M_1 := fun j => by rw [eM_1, mset_ne (by omega)]; exact hZ1 j
      have hp2 : M_1 0 30 = M 0 30 := by rw [eM_1, mset_ne (by omega)]
      obtain ⟨MG, eMG⟩ : ∃ q_, q_ = r_pg M_1 a (M 0 30) n a 0 M_1 := ⟨_, rfl⟩
      refine lr_lay3 hx hb hml hg hown hK hA a n (M 0 30) (by omega) hL2 hZ2 hp2 MG (fun H locs ls hP hD hS hl => ?_) n a 0 M_1 (by omega) (by omega) (by omega) eqb_rf eMG.symm H locs ls hP hD hS (lv_sub hl [0, 1, 2, 3, 4] rfl)
      have hp3 : MG 0 30 = M 0 30 := by rw [eMG, r_pg_eq _ _ _ _ _ _ _ 0 (by omega)]; exact hp2
      refine lv_iload_n hx hb d_MO_lay_216 rfl (lv_at hl 1 rfl) ?_
      refine lv_iload_n hx hb d_MO_lay_217 rfl (lv_at hl 0 rfl) ?_
      refine z_iadd hx hb d_MO_lay_218 (v := ((a + n : Nat) : Int)) (by omega) ?_
      refine lv_istore_n (lv' := [(1, .int (iI (((a + n : Nat) : Int)))), (2, .int (iI (((n : Nat) : Int)))), (0, .ref (ad (0)))]) hx hb d_MO_lay_219 rfl hl (by decide) rfl (fun ls hl => ?_)
      refine lv_aload_n hx hb d_MO_lay_220 rfl (lv_at hl 2 rfl) ?_
      refine lv_dup hx hb d_MO_lay_221 rfl ?_
      refine z_get (ci := 7) (C := R_MO) (T := T_MO) (N := 32) (v := .int (iI (MG (0) 30))) hx hb hg in_MO hown hK hP (0) (by decide) rfl rfl 30 (by decide) (hg _ (List.mem_append_right _ (List.mem_append_right _ (List.mem_append_right _ (List.mem_append_right _ (List.mem_append_right _ (List.mem_append_right _ (List.mem_append_right _ (List.mem_append_right _ (List.mem_append_right _ (List.mem_append_right _ (List.mem_append_right _ (List.mem_append_right _ (List.mem_append_right _ (List.mem_append_left _ (List.mem_of_getElem? (i := 33) rfl)))))))))))))))) (fun _ h9 => h9) rfl d_MO_lay_222 ?_
      refine z_iconst hx hb (z := 1) d_MO_lay_225 ?_
      refine z_iadd hx hb d_MO_lay_226 (v := (MG (0) 30 + 1)) rfl ?_
      refine z_put (ci := 7) (C := R_MO) (T := T_MO) (N := 32) (v := .int (iI ((MG (0) 30 + 1)))) (ty := .int) (ce' := (mo_ce ad cs)) (r := va_up (MG (0)) 30 ((MG (0) 30 + 1))) hx hb hg in_MO ty_MO tk_MO nm_MO hown hK hP hD hS (0) (by decide) rfl rfl 30 (by decide) (hg _ (List.mem_append_right _ (List.mem_append_right _ (List.mem_append_right _ (List.mem_append_right _ (List.mem_append_right _ (List.mem_append_right _ (List.mem_append_right _ (List.mem_append_right _ (List.mem_append_right _ (List.mem_append_right _ (List.mem_append_right _ (List.mem_append_right _ (List.mem_append_right _ (List.mem_append_left _ (List.mem_of_getElem? (i := 33) rfl)))))))))))))))) (fun _ h9 => h9) rfl (by decide +kernel) rfl rfl (Nat.le_of_ble_eq_true rfl) (fun _ _ => rfl) rfl d_MO_lay_227 (fun H locs hP hD hS => ?_)
      obtain ⟨M_2, eM_2⟩ : ∃ q_, q_ = mset MG (0) (30) ((MG (0) 30 + 1)) := ⟨_, rfl⟩
      have hP : va_P D vwCl (mo_w ad cs M_2) H := by rw [eM_2]; exact hP
      have hD : va_D A (mo_w ad cs M_2) := by rw [eM_2]; exact hD
      refine lv_goto (tgt := 125) hx hb d_MO_lay_230 (by decide) ?_
      have hMM : M_2 = r_pgs M a n := by rw [eM_2, hp3, eMG, eM_1]; unfold r_pgs; rw [← epg]
      have hEP : eqP M_2 M := by rw [hMM]; exact r_pgs_eqP _ _ _
      have hp4 : M_2 0 30 = M 0 30 + 1 := by rw [hMM]; exact mset_same _ _ _ _
      exact ih (a + n) M_2 (by omega) (by omega) (eqP_tr hEP hsm) (by rw [hp4]; omega) (by rw [← he, hMM, en]; conv => rhs; unfold r_fill; rw [if_pos (by omega)]) H locs ls hP hD hS (lv_sub hl [0, 2] rfl)
set_option maxHeartbeats 4000000 in
set_option maxRecDepth 100000 in
/-- lay -/
theorem r_layc (l : Launch) {D : va_G} {ad : Nat → Nat} {cs : ClassId} {M : Nat → Nat → Int} (sz : Nat) (np : Nat) (hi : rI M np) (hL : rL M) (h10 : 0 < np → 0 ≤ M 1 0) : Met l y_MO_lay ws_MO_lay ({ frames := 5, cells := 0, slots := 0, locals := 138 } : Room) (va_Pc [.ref (ad (0))] (rw_B D vwCl (mo_tys cs) (mo_w ad cs M) sz)) (va_Qi (fun (r : Int32) (_ : Unit) => r = iI (r_layP M np 0 30)) (rw_E D vwCl (mo_tys cs) (mo_w ad cs M) (mo_w ad cs (r_lay M np)) sz) (va_A (mo_w ad cs M) sz)) 0 0 (va_A (mo_w ad cs M) sz) := by
  refine Met.ofW (cc := b_MO_lay) (maxL := 5) (ret := (some .int)) (by decide) rfl ?_
  intro p e s m args below meth c s₁ B hml hv
  obtain ⟨rfl, hsz, hP, hK, hD0⟩ := hv
  have hx := B.exec
  have hb := B.bytes
  have hr := B.returns
  have hts := atoms_spec (ws := ws_MO_lay) B.pre
  have hg : ∀ w ∈ gt, w.before _ s = true := fun w h => hts w (List.mem_cons_of_mem _ h)
  have hown : s.vm.findClass R_MO = some m.cls := findClass_of_methodNamed B.named
  have hlocks := B.notSynchronized
  subst hsz
  have hD := hD0.self (sz := s.heap.size)
  have hA : ∀ q : Nat, s.heap.size ≤ q → va_A (mo_w ad cs M) s.heap.size q := fun q h => Or.inr h
  have hS : va_S (va_A (mo_w ad cs M) s.heap.size) s.heap s.heap [] := va_S.rf
  have hl := lv_entry ([.ref (ad (0))]) (n := 5) (Nat.le_of_ble_eq_true rfl)
  rw [lg_entry_eq]
  generalize (lg_sl ([.ref (ad (0))]) ++ List.replicate (5 - (lg_sl ([.ref (ad (0))])).length) Slot.unset).toArray = ls at hl ⊢
  have hl : lv_has ls 5 [(0, .ref (ad (0)))] := hl
  obtain ⟨Ma, eMa⟩ : ∃ q_, q_ = r_lay0 M := ⟨_, rfl⟩
  have h0j : ∀ j, j ≠ 0 → Ma j = M j := fun j hj => by rw [eMa]; unfold r_lay0; rw [mset_ne hj, mset_ne hj, mset_ne hj, mset_ne hj]
  have h0k : ∀ k, k ≠ 0 → k ≠ 15 → k ≠ 16 → k ≠ 30 → Ma 0 k = M 0 k := fun k k0 k1 k2 k3 => by rw [eMa]; unfold r_lay0; rw [mset_at, va_up_ne _ _ k3, mset_at, va_up_ne _ _ k2, mset_at, va_up_ne _ _ k1, mset_at, va_up_ne _ _ k0]
  have h016 : Ma 0 16 = 0 := by rw [eMa]; unfold r_lay0; rw [mset_at, va_up_ne _ _ (by omega), mset_same]
  have h030 : Ma 0 30 = 0 := by rw [eMa]; exact mset_same _ _ _ _
  have hia : rI Ma np := by
    obtain ⟨i1, i2, i3, i4, i5, i6⟩ := hi
    refine ⟨by rw [h0k 4 (by omega) (by omega) (by omega) (by omega)]; exact i1, i2, ?_, fun q hq => ?_, fun j => by rw [h0j 2 (by omega)]; exact i5 j, fun q hq => by rw [h0j 1 (by omega)]; exact i6 q hq⟩
    · unfold rT; rw [h0j 6 (by omega), h0j 7 (by omega), h0j 8 (by omega), h0k 1 (by omega) (by omega) (by omega) (by omega), h0k 2 (by omega) (by omega) (by omega) (by omega), h0k 3 (by omega) (by omega) (by omega) (by omega)]; exact i3
    · have hn : rn Ma q = rn M q := by unfold rn; rw [h0j 3 (by omega)]
      unfold rS rP; rw [hn, h0j 2 (by omega), h0j 3 (by omega), h0j 4 (by omega), h0j 5 (by omega)]; exact i4 q hq
  have hLa : rL Ma := fun j => by rw [h0j 11 (by omega), h0j 12 (by omega), h0j 13 (by omega), h0j 16 (by omega)]; exact hL j
  have hpn := r_pars_n np np 0 Ma (by omega) hia hLa (by omega) (fun h => by rw [h016, h0j 1 (by omega)]; have := h10 h; omega) (by omega)
  have hpe := r_pars_eqR np 0 Ma
  obtain ⟨Mb, eMb⟩ : ∃ q_, q_ = r_pars np 0 Ma := ⟨_, rfl⟩
  rw [← eMb] at hpn hpe
  have hib := eqR_rI hpe hia
  obtain ⟨nl, enl⟩ : ∃ q_, q_ = rnM Mb := ⟨_, rfl⟩
  have hnl : Mb 0 16 = ((nl : Nat) : Int) := by rw [enl]; unfold rnM; omega
  have hLb := hpn.2
  have h30b : Mb 0 30 = 0 := by rw [hpe.2 30 (by omega)]; exact h030
  obtain ⟨Mc, eMc⟩ : ∃ q_, q_ = r_fill nl nl 0 Mb := ⟨_, rfl⟩
  have hMc : r_layP M np = Mc := by rw [eMc, enl, eMb, eMa]; rfl
  have hnc := r_fill_n nl nl 0 Mb (by omega) (by omega)
  rw [← eMc] at hnc
  obtain ⟨pg, epg⟩ : ∃ q_, q_ = rpM Mc := ⟨_, rfl⟩
  have hpg : Mc 0 30 = ((pg : Nat) : Int) := by rw [epg]; unfold rpM; omega
  have hRL : r_lay M np = mset Mc 24 pg (Mc 0 16) := by unfold r_lay; rw [hMc, ← epg]
  refine lv_aload_n hx hb d_MO_lay_0 rfl (lv_at hl 0 rfl) ?_
  refine z_iconst hx hb (z := 0) d_MO_lay_1 ?_
  refine z_put (ci := 7) (C := R_MO) (T := T_MO) (N := 32) (v := .int (iI (0))) (ty := .int) (ce' := (mo_ce ad cs)) (r := va_up (M (0)) 0 (0)) hx hb hg in_MO ty_MO tk_MO nm_MO hown hK hP hD hS (0) (by decide) rfl rfl 0 (by decide) (hg _ (List.mem_append_right _ (List.mem_append_right _ (List.mem_append_right _ (List.mem_append_right _ (List.mem_append_right _ (List.mem_append_right _ (List.mem_append_right _ (List.mem_append_right _ (List.mem_append_right _ (List.mem_append_right _ (List.mem_append_right _ (List.mem_append_right _ (List.mem_append_right _ (List.mem_append_left _ (List.mem_of_getElem? (i := 3) rfl)))))))))))))))) (fun _ h9 => h9) rfl (by decide +kernel) rfl rfl (Nat.le_of_ble_eq_true rfl) (fun _ _ => rfl) rfl d_MO_lay_2 (fun H locs hP hD hS => ?_)
  obtain ⟨M_1, eM_1⟩ : ∃ q_, q_ = mset M (0) (0) (0) := ⟨_, rfl⟩
  have hP : va_P D vwCl (mo_w ad cs M_1) H := by rw [eM_1]; exact hP
  have hD : va_D (va_A (mo_w ad cs M) s.heap.size) (mo_w ad cs M_1) := by rw [eM_1]; exact hD
  refine lv_aload_n hx hb d_MO_lay_5 rfl (lv_at hl 0 rfl) ?_
  refine z_iconst hx hb (z := 1) d_MO_lay_6 ?_
  refine z_put (ci := 7) (C := R_MO) (T := T_MO) (N := 32) (v := .int (iI (1))) (ty := .boolean) (ce' := (mo_ce ad cs)) (r := va_up (M_1 (0)) 15 (1)) hx hb hg in_MO ty_MO tk_MO nm_MO hown hK hP hD hS (0) (by decide) rfl rfl 15 (by decide) (hg _ (List.mem_append_right _ (List.mem_append_right _ (List.mem_append_right _ (List.mem_append_right _ (List.mem_append_right _ (List.mem_append_right _ (List.mem_append_right _ (List.mem_append_right _ (List.mem_append_right _ (List.mem_append_right _ (List.mem_append_right _ (List.mem_append_right _ (List.mem_append_right _ (List.mem_append_left _ (List.mem_of_getElem? (i := 18) rfl)))))))))))))))) (fun _ h9 => h9) rfl (by decide +kernel) rfl rfl (Nat.le_of_ble_eq_true rfl) (fun _ _ => rfl) rfl d_MO_lay_7 (fun H locs hP hD hS => ?_)
  obtain ⟨M_2, eM_2⟩ : ∃ q_, q_ = mset M_1 (0) (15) (1) := ⟨_, rfl⟩
  have hP : va_P D vwCl (mo_w ad cs M_2) H := by rw [eM_2]; exact hP
  have hD : va_D (va_A (mo_w ad cs M) s.heap.size) (mo_w ad cs M_2) := by rw [eM_2]; exact hD
  refine lv_aload_n hx hb d_MO_lay_10 rfl (lv_at hl 0 rfl) ?_
  refine z_iconst hx hb (z := 0) d_MO_lay_11 ?_
  refine z_put (ci := 7) (C := R_MO) (T := T_MO) (N := 32) (v := .int (iI (0))) (ty := .int) (ce' := (mo_ce ad cs)) (r := va_up (M_2 (0)) 16 (0)) hx hb hg in_MO ty_MO tk_MO nm_MO hown hK hP hD hS (0) (by decide) rfl rfl 16 (by decide) (hg _ (List.mem_append_right _ (List.mem_append_right _ (List.mem_append_right _ (List.mem_append_right _ (List.mem_append_right _ (List.mem_append_right _ (List.mem_append_right _ (List.mem_append_right _ (List.mem_append_right _ (List.mem_append_right _ (List.mem_append_right _ (List.mem_append_right _ (List.mem_append_right _ (List.mem_append_left _ (List.mem_of_getElem? (i := 19) rfl)))))))))))))))) (fun _ h9 => h9) rfl (by decide +kernel) rfl rfl (Nat.le_of_ble_eq_true rfl) (fun _ _ => rfl) rfl d_MO_lay_12 (fun H locs hP hD hS => ?_)
  obtain ⟨M_3, eM_3⟩ : ∃ q_, q_ = mset M_2 (0) (16) (0) := ⟨_, rfl⟩
  have hP : va_P D vwCl (mo_w ad cs M_3) H := by rw [eM_3]; exact hP
  have hD : va_D (va_A (mo_w ad cs M) s.heap.size) (mo_w ad cs M_3) := by rw [eM_3]; exact hD
  refine lv_aload_n hx hb d_MO_lay_15 rfl (lv_at hl 0 rfl) ?_
  refine z_iconst hx hb (z := 0) d_MO_lay_16 ?_
  refine z_put (ci := 7) (C := R_MO) (T := T_MO) (N := 32) (v := .int (iI (0))) (ty := .int) (ce' := (mo_ce ad cs)) (r := va_up (M_3 (0)) 30 (0)) hx hb hg in_MO ty_MO tk_MO nm_MO hown hK hP hD hS (0) (by decide) rfl rfl 30 (by decide) (hg _ (List.mem_append_right _ (List.mem_append_right _ (List.mem_append_right _ (List.mem_append_right _ (List.mem_append_right _ (List.mem_append_right _ (List.mem_append_right _ (List.mem_append_right _ (List.mem_append_right _ (List.mem_append_right _ (List.mem_append_right _ (List.mem_append_right _ (List.mem_append_right _ (List.mem_append_left _ (List.mem_of_getElem? (i := 33) rfl)))))))))))))))) (fun _ h9 => h9) rfl (by decide +kernel) rfl rfl (Nat.le_of_ble_eq_true rfl) (fun _ _ => rfl) rfl d_MO_lay_17 (fun H locs hP hD hS => ?_)
  obtain ⟨M_4, eM_4⟩ : ∃ q_, q_ = mset M_3 (0) (30) (0) := ⟨_, rfl⟩
  have hP : va_P D vwCl (mo_w ad cs M_4) H := by rw [eM_4]; exact hP
  have hD : va_D (va_A (mo_w ad cs M) s.heap.size) (mo_w ad cs M_4) := by rw [eM_4]; exact hD
  refine z_iconst hx hb (z := 0) d_MO_lay_20 ?_
  refine lv_istore_n (lv' := [(1, .int (iI (0))), (0, .ref (ad (0)))]) hx hb d_MO_lay_21 rfl hl (by decide) rfl (fun ls hl => ?_)
  have hMa : M_4 = Ma := by rw [eM_4, eM_3, eM_2, eM_1, eMa]; rfl
  rw [hMa] at hP hD
  refine lr_lay2 hx hb hml hg hown hK hA np Mb (fun H locs ls hP hD hS hl => ?_) np 0 Ma (by omega) hia (by omega) (fun h => by rw [h016, h0j 1 (by omega)]; have := h10 h; omega) eMb.symm H locs ls hP hD hS (lv_sub hl [0, 1] rfl)
  refine z_iconst hx hb (z := 0) d_MO_lay_123 ?_
  refine lv_istore_n (lv' := [(1, .int (iI (0))), (0, .ref (ad (0)))]) hx hb d_MO_lay_124 rfl hl (by decide) rfl (fun ls hl => ?_)
  refine lr_lay4 hx hb hml hg hown hK hA nl (by omega) hnl hLb hib.2.2.2.2.1 hib.2.2.1 Mc (fun H locs ls hP hD hS hl => ?_) nl 0 Mb (by omega) (by omega) eqP_rf (by omega) eMc.symm H locs ls hP hD hS (lv_sub hl [0, 1] rfl)
  refine lv_aload_n hx hb d_MO_lay_233 rfl (lv_at hl 0 rfl) ?_
  refine z_get (ci := 7) (C := R_MO) (T := T_MO) (N := 32) (v := .ref (ad (24))) hx hb hg in_MO hown hK hP (0) (by decide) rfl rfl 31 (by decide) (hg _ (List.mem_append_right _ (List.mem_append_right _ (List.mem_append_right _ (List.mem_append_right _ (List.mem_append_right _ (List.mem_append_right _ (List.mem_append_right _ (List.mem_append_right _ (List.mem_append_right _ (List.mem_append_right _ (List.mem_append_right _ (List.mem_append_right _ (List.mem_append_right _ (List.mem_append_left _ (List.mem_of_getElem? (i := 34) rfl)))))))))))))))) (fun _ h9 => h9) rfl d_MO_lay_234 ?_
  refine lv_aload_n hx hb d_MO_lay_237 rfl (lv_at hl 0 rfl) ?_
  refine z_get (ci := 7) (C := R_MO) (T := T_MO) (N := 32) (v := .int (iI (Mc (0) 30))) hx hb hg in_MO hown hK hP (0) (by decide) rfl rfl 30 (by decide) (hg _ (List.mem_append_right _ (List.mem_append_right _ (List.mem_append_right _ (List.mem_append_right _ (List.mem_append_right _ (List.mem_append_right _ (List.mem_append_right _ (List.mem_append_right _ (List.mem_append_right _ (List.mem_append_right _ (List.mem_append_right _ (List.mem_append_right _ (List.mem_append_right _ (List.mem_append_left _ (List.mem_of_getElem? (i := 33) rfl)))))))))))))))) (fun _ h9 => h9) rfl d_MO_lay_238 ?_
  refine lv_aload_n hx hb d_MO_lay_241 rfl (lv_at hl 0 rfl) ?_
  refine z_get (ci := 7) (C := R_MO) (T := T_MO) (N := 32) (v := .int (iI (Mc (0) 16))) hx hb hg in_MO hown hK hP (0) (by decide) rfl rfl 16 (by decide) (hg _ (List.mem_append_right _ (List.mem_append_right _ (List.mem_append_right _ (List.mem_append_right _ (List.mem_append_right _ (List.mem_append_right _ (List.mem_append_right _ (List.mem_append_right _ (List.mem_append_right _ (List.mem_append_right _ (List.mem_append_right _ (List.mem_append_right _ (List.mem_append_right _ (List.mem_append_left _ (List.mem_of_getElem? (i := 19) rfl)))))))))))))))) (fun _ h9 => h9) rfl d_MO_lay_242 ?_
  refine z_iast hx hb hK hP hD hS (24) 0 (by decide) (fun _ => rfl) rfl (v := Mc (0) 16) (pg) hpg (by omega) (by decide) d_MO_lay_245 (fun H locs hP hD hS => ?_)
  obtain ⟨M_5, eM_5⟩ : ∃ q_, q_ = mset Mc (24) (pg) (Mc (0) 16) := ⟨_, rfl⟩
  have hP : va_P D vwCl (mo_w ad cs M_5) H := by rw [eM_5]; exact hP
  have hD : va_D (va_A (mo_w ad cs M) s.heap.size) (mo_w ad cs M_5) := by rw [eM_5]; exact hD
  refine lv_aload_n hx hb d_MO_lay_246 rfl (lv_at hl 0 rfl) ?_
  refine z_get (ci := 7) (C := R_MO) (T := T_MO) (N := 32) (v := .int (iI (M_5 (0) 30))) hx hb hg in_MO hown hK hP (0) (by decide) rfl rfl 30 (by decide) (hg _ (List.mem_append_right _ (List.mem_append_right _ (List.mem_append_right _ (List.mem_append_right _ (List.mem_append_right _ (List.mem_append_right _ (List.mem_append_right _ (List.mem_append_right _ (List.mem_append_right _ (List.mem_append_right _ (List.mem_append_right _ (List.mem_append_right _ (List.mem_append_right _ (List.mem_append_left _ (List.mem_of_getElem? (i := 33) rfl)))))))))))))))) (fun _ h9 => h9) rfl d_MO_lay_247 ?_
  have hM : M_5 = r_lay M np := by rw [hRL, eM_5]
  have eW : mo_w ad cs (M_5) = mo_w ad cs (r_lay M np) := by rw [hM]
  have hP := Eq.mp (congrArg (fun q => va_P D vwCl q _) eW) hP
  have hD := Eq.mp (congrArg (va_D _) eW) hD
  exact W.iret (v := iI (M_5 (0) 30)) hx hb hr (fun t ht hW => ⟨⟨_, (), rfl, by rw [hMc, eM_5, mset_ne (by omega)], by rw [ht]; exact hP, va_K.moved hW.alike hK, hD⟩, hS.F ht⟩) hS.2.2 d_MO_lay_250
