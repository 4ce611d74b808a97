set_option maxHeartbeats 4000000 in
set_option maxRecDepth 100000 in
theorem lp_placeSigns {p : Program} {l : Launch} {e : Env} {s : State} {m : MethodId} {args : Array Value} {below : List Frame} {meth : Method} {c : Code} {Q : State → Prop} {A : Nat → Prop} {H0 : Heap} {D : va_G} {ad : Nat → Nat} {cs : pg_C} {rp : Option Nat} {M : Nat → Nat → Int} (hx : p.tables.exec = Jvm.exec) (hb : c.code = b_LN_placeSigns) (hml : c.maxLocals = 9) (hg : ∀ w ∈ gt, w.before args s = true) (hown : s.vm.findClass R_LN = some m.cls) (hK : va_K D vwCl (pg_tys cs) s) (hA : ∀ q, H0.size ≤ q → A q) (i n a b so : Nat) (x0 : Int) (hb6 : b ≤ 600) (hso : so ≤ 600) (hp : wfP M i n) (ht : wfT M) (MF : Nat → Nat → Int) (kk : ∀ (H : Heap) (locs : List Loc) (ls : Array Slot), va_P D vwCl (pg_w ad cs rp MF) H → va_D A (pg_w ad cs rp MF) → va_S A H0 H locs → lv_has ls 9 [] → W p l e ({ frames := 3, cells := 0, slots := 0, locals := 68 } : Room) s m args below meth c H locs 0 0 Q (F0 m 135 ls [])) : ∀ (f k : Nat) (x : Int) (Mc : Nat → Nat → Int), k + f = b → 0 ≤ x → x + 60000 * ((f : Nat) : Int) ≤ 39000000 → eqb 23 25 Mc M → q_ps (M 7) (M 8) (p_tabs M i n) (M 3 2) so b f k x Mc = MF → ∀ (H : Heap) (locs : List Loc) (ls : Array Slot), va_P D vwCl (pg_w ad cs rp Mc) H → va_D A (pg_w ad cs rp Mc) → va_S A H0 H locs → lv_has ls 9 [(7, .int (iI (((k : Nat) : Int)))), (6, .int (iI (x))), (5, .int (iI (((so : Nat) : Int)))), (0, .ref (ad (3))), (1, .ref (ad (29 + 4 * i))), (2, .int (iI (((a : Nat) : Int)))), (3, .int (iI (((b : Nat) : Int)))), (4, .int (iI (x0)))] → W p l e ({ frames := 3, cells := 0, slots := 0, locals := 68 } : Room) s m args below meth c H locs 0 0 Q (F0 m 18 ls []) := by
  obtain ⟨hi, hn, hs, hz, hz2⟩ := id hp
  have hst := ht.2.2.2.2.2
  intro f
  induction f with
  | zero =>
    intro k x Mc hkf hx0 hxB hsm he H locs ls hP hD hS hl
    have g7 : Mc 7 = M 7 := hsm 7 (by omega)
    have g8 : Mc 8 = M 8 := hsm 8 (by omega)
    have g3 : Mc 3 = M 3 := hsm 3 (by omega)
    have g2 : Mc 2 = M 2 := hsm 2 (by omega)
    have g31 : Mc (31 + 4 * i) = M (31 + 4 * i) := hsm _ (by omega)
    have g32 : Mc (32 + 4 * i) = M (32 + 4 * i) := hsm _ (by omega)
    have ht1 : wfT Mc := eqb_wfT hsm (by omega) ht
    have hp1 : wfP Mc i n := eqb_wfP hsm (by omega) hp
    obtain ⟨-, -, hs1, hz1, hz21⟩ := id hp1
    have hst1 := ht1.2.2.2.2.2
    have hwb := p_wbtb (kd := M 7) (wd := M 8) (so := so) (b := b) ht.2.1 (so - (k + 1)) (k + 1) 0
    have hzk : ∀ j, zb (Mc (32 + 4 * i) j) := fun j => ⟨by have := hz21 j; omega, by have := hz21 j; omega⟩
    refine lv_iload hx hb d_LN_placeSigns_18 (lv_at hl 0 rfl) ?_
    refine lv_iload_n hx hb d_LN_placeSigns_20 rfl (lv_at hl 6 rfl) ?_
    refine z_icmp_ge hx hb (tgt := 135) d_LN_placeSigns_21 (by decide) ⟨by omega, by omega⟩ ⟨by omega, by omega⟩ (fun c_21 => ?_) (fun c_21 => ?_)
    · have he : Mc = MF := he
      subst he
      exact kk H locs ls hP hD hS (lv_sub hl [] rfl)
    · exact absurd c_21 (by omega)
  | succ f ih =>
    intro k x Mc hkf hx0 hxB hsm he H locs ls hP hD hS hl
    have g7 : Mc 7 = M 7 := hsm 7 (by omega)
    have g8 : Mc 8 = M 8 := hsm 8 (by omega)
    have g3 : Mc 3 = M 3 := hsm 3 (by omega)
    have g2 : Mc 2 = M 2 := hsm 2 (by omega)
    have g31 : Mc (31 + 4 * i) = M (31 + 4 * i) := hsm _ (by omega)
    have g32 : Mc (32 + 4 * i) = M (32 + 4 * i) := hsm _ (by omega)
    have ht1 : wfT Mc := eqb_wfT hsm (by omega) ht
    have hp1 : wfP Mc i n := eqb_wfP hsm (by omega) hp
    obtain ⟨-, -, hs1, hz1, hz21⟩ := id hp1
    have hst1 := ht1.2.2.2.2.2
    have hwb := p_wbtb (kd := M 7) (wd := M 8) (so := so) (b := b) ht.2.1 (so - (k + 1)) (k + 1) 0
    have hzk : ∀ j, zb (Mc (32 + 4 * i) j) := fun j => ⟨by have := hz21 j; omega, by have := hz21 j; omega⟩
    refine lv_iload hx hb d_LN_placeSigns_18 (lv_at hl 0 rfl) ?_
    refine lv_iload_n hx hb d_LN_placeSigns_20 rfl (lv_at hl 6 rfl) ?_
    refine z_icmp_ge hx hb (tgt := 135) d_LN_placeSigns_21 (by decide) ⟨by omega, by omega⟩ ⟨by omega, by omega⟩ (fun c_21 => ?_) (fun c_21 => ?_)
    · exact absurd c_21 (by omega)
    · refine lv_aload_n hx hb d_LN_placeSigns_24 rfl (lv_at hl 3 rfl) ?_
      refine z_get (ci := 3) (C := R_LN) (T := T_LN) (N := 6) (v := .ref (ad (1))) hx hb hg in_LN hown hK hP (3) (by decide) rfl rfl 3 (by decide) (hg _ (List.mem_append_right _ (List.mem_append_right _ (List.mem_append_right _ (List.mem_append_right _ (List.mem_append_left _ (List.mem_of_getElem? (i := 11) rfl))))))) (fun _ h9 => h9) rfl d_LN_placeSigns_25 ?_
      refine z_get (ci := 1) (C := R_TX) (T := T_TX) (N := 6) (v := .ref (ad (7))) hx hb hg in_TX hown hK hP (1) (by decide) rfl rfl 1 (by decide) (hg _ (List.mem_append_right _ (List.mem_append_right _ (List.mem_append_left _ (List.mem_of_getElem? (i := 22) rfl))))) (fun _ h9 => h9) rfl d_LN_placeSigns_28 ?_
      refine lv_iload hx hb d_LN_placeSigns_31 (lv_at hl 0 rfl) ?_
      refine z_iald hx hb hK hP (7) 0 (by decide) (fun _ => rfl) rfl (k) rfl (by omega) (by decide) d_LN_placeSigns_33 ?_
      refine z_iconst hx hb (z := 2) d_LN_placeSigns_34 ?_
      refine z_icmp_ne hx hb (tgt := 63) d_LN_placeSigns_35 (by decide) (zb_7 ht1 _) ⟨by decide, by decide⟩ (fun c_35 => ?_) (fun c_35 => ?_)
      · refine lv_aload_n hx hb d_LN_placeSigns_63 rfl (lv_at hl 3 rfl) ?_
        refine z_get (ci := 3) (C := R_LN) (T := T_LN) (N := 6) (v := .ref (ad (1))) hx hb hg in_LN hown hK hP (3) (by decide) rfl rfl 3 (by decide) (hg _ (List.mem_append_right _ (List.mem_append_right _ (List.mem_append_right _ (List.mem_append_right _ (List.mem_append_left _ (List.mem_of_getElem? (i := 11) rfl))))))) (fun _ h9 => h9) rfl d_LN_placeSigns_64 ?_
        refine lv_iload hx hb d_LN_placeSigns_67 (lv_at hl 0 rfl) ?_
        refine lv_iload hx hb d_LN_placeSigns_69 (lv_at hl 0 rfl) ?_
        refine lv_iload_n hx hb d_LN_placeSigns_71 rfl (lv_at hl 6 rfl) ?_
        refine z_iconst hx hb (z := 1) d_LN_placeSigns_72 ?_
        refine z_isub hx hb d_LN_placeSigns_73 (v := (((b : Nat) : Int) - 1)) rfl ?_
        refine z_icmp_ne hx hb (tgt := 81) d_LN_placeSigns_74 (by decide) ⟨by omega, by omega⟩ ⟨by omega, by omega⟩ (fun c_74 => ?_) (fun c_74 => ?_)
        · refine z_iconst hx hb (z := 0) d_LN_placeSigns_81 ?_
          refine ro_V (As := [.int (iI (((k : Nat) : Int))), .int (iI (0))]) (rest := []) (z := p_wid (M 7) (M 8) k false) ⟨hx, hb, hml, hown, hg⟩ ((show p_wid (Mc 7) (Mc 8) k false = p_wid (M 7) (M 8) k false by rw [g7, g8]) ▸ c_widthWithin l k false (by omega) (zb_7 ht1)) (cwV 2 hg (gt_V (List.mem_append_right _ (List.mem_append_right _ (List.mem_append_right _ (List.mem_append_right _ (List.mem_append_right _ (List.mem_append_right _ (List.mem_append_left _ (List.mem_of_getElem? (i := 7) rfl)))))))) (List.mem_append_right _ (List.mem_append_right _ (List.mem_append_right _ (List.mem_append_right _ (List.mem_append_right _ (List.mem_append_right _ (List.mem_append_left _ (List.mem_of_getElem? (i := 8) rfl)))))))) (List.mem_append_right _ (List.mem_append_right _ (List.mem_append_right _ (List.mem_append_right _ (List.mem_append_right _ (List.mem_append_right _ (List.mem_append_left _ (List.mem_of_getElem? (i := 9) rfl)))))))) (List.mem_append_right _ (List.mem_append_left _ (List.mem_of_getElem? (i := 3) rfl))) (List.mem_append_right _ (List.mem_append_right _ (List.mem_append_right _ (List.mem_append_right _ (List.mem_append_right _ (List.mem_append_right _ (List.mem_append_left _ (List.mem_of_getElem? (i := 10) rfl))))))))) rfl rfl rfl (by decide +kernel) ⟨Nat.le_of_ble_eq_true rfl, Nat.le_of_ble_eq_true rfl⟩) hK hP (va_recv hK hP (ci := 1) (q0 := 1) rfl (wl_atE (by decide) rfl)) rfl hl.1 rfl (Nat.le_of_ble_eq_true rfl) d_LN_placeSigns_82 ⟨Nat.zero_le _, Nat.zero_le _⟩ ?_
          have hwd : p_wid (M 7) (M 8) k false = q_wide (M 7) (M 8) (p_tabs M i n) so b k x := by unfold q_wide; rw [if_neg (by rw [← g7]; exact c_35), decide_eq_false (show ¬ k + 1 = b by omega)]
          obtain ⟨qw, eqw⟩ : ∃ q_, q_ = q_wide (M 7) (M 8) (p_tabs M i n) so b k x := ⟨_, rfl⟩
          have hqb : 0 ≤ qw ∧ qw ≤ 60000 := by rw [eqw, ← hwd]; first | exact p_tabb hx0 (by omega) hst hz | (have := p_widb (kd := M 7) (wd := M 8) (i := k) (la := true) (ht.2.1 k); omega) | (have := p_widb (kd := M 7) (wd := M 8) (i := k) (la := false) (ht.2.1 k); omega)
          rw [hwd, ← eqw]
          refine lv_istore (lv' := [(8, .int (iI (qw))), (7, .int (iI (((k : Nat) : Int)))), (6, .int (iI (x))), (5, .int (iI (((so : Nat) : Int)))), (0, .ref (ad (3))), (1, .ref (ad (29 + 4 * i))), (2, .int (iI (((a : Nat) : Int)))), (3, .int (iI (((b : Nat) : Int)))), (4, .int (iI (x0)))]) hx hb d_LN_placeSigns_85 hl (by decide) rfl (fun ls hl => ?_)
          refine lv_aload_n hx hb d_LN_placeSigns_87 rfl (lv_at hl 4 rfl) ?_
          refine z_get (ci := 3) (C := R_LN) (T := T_LN) (N := 6) (v := .ref (ad (11))) hx hb hg in_LN hown hK hP (3) (by decide) rfl rfl 1 (by decide) (hg _ (List.mem_append_right _ (List.mem_append_right _ (List.mem_append_right _ (List.mem_append_right _ (List.mem_append_left _ (List.mem_of_getElem? (i := 6) rfl))))))) (fun _ h9 => h9) rfl d_LN_placeSigns_88 ?_
          refine z_iconst hx hb (z := 0) d_LN_placeSigns_91 ?_
          refine z_aald hx hb hK hP (11) 1 (by decide) (fun _ => rfl) rfl rfl (0) rfl (by decide) (by decide) d_LN_placeSigns_92 ?_
          refine lv_iload hx hb d_LN_placeSigns_93 (lv_at hl 1 rfl) ?_
          refine lv_aload_n hx hb d_LN_placeSigns_95 rfl (lv_at hl 4 rfl) ?_
          refine z_get (ci := 3) (C := R_LN) (T := T_LN) (N := 6) (v := .int (iI (Mc (3) 2))) hx hb hg in_LN hown hK hP (3) (by decide) rfl rfl 2 (by decide) (hg _ (List.mem_append_right _ (List.mem_append_right _ (List.mem_append_right _ (List.mem_append_right _ (List.mem_append_left _ (List.mem_of_getElem? (i := 8) rfl))))))) (fun _ h9 => h9) rfl d_LN_placeSigns_96 ?_
          refine z_iast hx hb hK hP hD hS (23) 0 (by decide) (fun _ => rfl) rfl (v := Mc (3) 2) (k) rfl (by omega) (by decide) d_LN_placeSigns_99 (fun H locs hP hD hS => ?_)
          obtain ⟨M_1, eM_1⟩ : ∃ q_, q_ = mset Mc (23) (k) (Mc (3) 2) := ⟨_, rfl⟩
          have hP : va_P D vwCl (pg_w ad cs rp M_1) H := by rw [eM_1]; exact hP
          have hD : va_D A (pg_w ad cs rp M_1) := by rw [eM_1]; exact hD
          refine lv_aload_n hx hb d_LN_placeSigns_100 rfl (lv_at hl 4 rfl) ?_
          refine z_get (ci := 3) (C := R_LN) (T := T_LN) (N := 6) (v := .ref (ad (11))) hx hb hg in_LN hown hK hP (3) (by decide) rfl rfl 1 (by decide) (hg _ (List.mem_append_right _ (List.mem_append_right _ (List.mem_append_right _ (List.mem_append_right _ (List.mem_append_left _ (List.mem_of_getElem? (i := 6) rfl))))))) (fun _ h9 => h9) rfl d_LN_placeSigns_101 ?_
          refine z_iconst hx hb (z := 1) d_LN_placeSigns_104 ?_
          refine z_aald hx hb hK hP (11) 1 (by decide) (fun _ => rfl) rfl rfl (1) rfl (by decide) (by decide) d_LN_placeSigns_105 ?_
          refine lv_iload hx hb d_LN_placeSigns_106 (lv_at hl 1 rfl) ?_
          refine lv_iload hx hb d_LN_placeSigns_108 (lv_at hl 2 rfl) ?_
          refine z_iast hx hb hK hP hD hS (24) 0 (by decide) (fun _ => rfl) rfl (v := x) (k) rfl (by omega) (by decide) d_LN_placeSigns_110 (fun H locs hP hD hS => ?_)
          obtain ⟨M_2, eM_2⟩ : ∃ q_, q_ = mset M_1 (24) (k) (x) := ⟨_, rfl⟩
          have hP : va_P D vwCl (pg_w ad cs rp M_2) H := by rw [eM_2]; exact hP
          have hD : va_D A (pg_w ad cs rp M_2) := by rw [eM_2]; exact hD
          refine lv_aload_n hx hb d_LN_placeSigns_111 rfl (lv_at hl 4 rfl) ?_
          refine z_get (ci := 3) (C := R_LN) (T := T_LN) (N := 6) (v := .ref (ad (11))) hx hb hg in_LN hown hK hP (3) (by decide) rfl rfl 1 (by decide) (hg _ (List.mem_append_right _ (List.mem_append_right _ (List.mem_append_right _ (List.mem_append_right _ (List.mem_append_left _ (List.mem_of_getElem? (i := 6) rfl))))))) (fun _ h9 => h9) rfl d_LN_placeSigns_112 ?_
          refine z_iconst hx hb (z := 2) d_LN_placeSigns_115 ?_
          refine z_aald hx hb hK hP (11) 1 (by decide) (fun _ => rfl) rfl rfl (2) rfl (by decide) (by decide) d_LN_placeSigns_116 ?_
          refine lv_iload hx hb d_LN_placeSigns_117 (lv_at hl 1 rfl) ?_
          refine lv_iload hx hb d_LN_placeSigns_119 (lv_at hl 0 rfl) ?_
          refine z_iast hx hb hK hP hD hS (25) 0 (by decide) (fun _ => rfl) rfl (v := qw) (k) rfl (by omega) (by decide) d_LN_placeSigns_121 (fun H locs hP hD hS => ?_)
          obtain ⟨M_3, eM_3⟩ : ∃ q_, q_ = mset M_2 (25) (k) (qw) := ⟨_, rfl⟩
          have hP : va_P D vwCl (pg_w ad cs rp M_3) H := by rw [eM_3]; exact hP
          have hD : va_D A (pg_w ad cs rp M_3) := by rw [eM_3]; exact hD
          refine lv_iload hx hb d_LN_placeSigns_122 (lv_at hl 2 rfl) ?_
          refine lv_iload hx hb d_LN_placeSigns_124 (lv_at hl 0 rfl) ?_
          refine z_iadd hx hb d_LN_placeSigns_126 (v := (x + qw)) rfl ?_
          refine lv_istore (lv' := [(6, .int (iI ((x + qw)))), (8, .int (iI (qw))), (7, .int (iI (((k : Nat) : Int)))), (5, .int (iI (((so : Nat) : Int)))), (0, .ref (ad (3))), (1, .ref (ad (29 + 4 * i))), (2, .int (iI (((a : Nat) : Int)))), (3, .int (iI (((b : Nat) : Int)))), (4, .int (iI (x0)))]) hx hb d_LN_placeSigns_127 hl (by decide) rfl (fun ls hl => ?_)
          refine z_iinc (v := ((k + 1 : Nat) : Int)) (lv' := [(7, .int (iI (((k + 1 : Nat) : Int)))), (6, .int (iI ((x + qw)))), (8, .int (iI (qw))), (5, .int (iI (((so : Nat) : Int)))), (0, .ref (ad (3))), (1, .ref (ad (29 + 4 * i))), (2, .int (iI (((a : Nat) : Int)))), (3, .int (iI (((b : Nat) : Int)))), (4, .int (iI (x0)))]) hx hb d_LN_placeSigns_129 hl (k := 2) rfl (by omega) (by decide) rfl (fun ls hl => ?_)
          refine lv_goto (tgt := 18) hx hb d_LN_placeSigns_132 (by decide) ?_
          have hF : q_ps (M 7) (M 8) (p_tabs M i n) (M 3 2) so b f (k + 1) (x + qw) M_3 = MF := by rw [← he, eM_3, eM_2, eM_1, g3]; conv => rhs; unfold q_ps; rw [← eqw]
          exact ih (k + 1) (x + qw) M_3 (by omega) (by omega) (by omega) (by rw [eM_3, eM_2, eM_1]; exact eqb_set (eqb_set (eqb_set hsm (by omega) (by omega)) (by omega) (by omega)) (by omega) (by omega)) hF H locs ls hP hD hS (lv_sub hl [0, 1, 3, 4, 5, 6, 7, 8] rfl)
        · refine z_iconst hx hb (z := 1) d_LN_placeSigns_77 ?_
          refine lv_goto (tgt := 82) hx hb d_LN_placeSigns_78 (by decide) ?_
          refine ro_V (As := [.int (iI (((k : Nat) : Int))), .int (iI (1))]) (rest := []) (z := p_wid (M 7) (M 8) k true) ⟨hx, hb, hml, hown, hg⟩ ((show p_wid (Mc 7) (Mc 8) k true = p_wid (M 7) (M 8) k true by rw [g7, g8]) ▸ c_widthWithin l k true (by omega) (zb_7 ht1)) (cwV 2 hg (gt_V (List.mem_append_right _ (List.mem_append_right _ (List.mem_append_right _ (List.mem_append_right _ (List.mem_append_right _ (List.mem_append_right _ (List.mem_append_left _ (List.mem_of_getElem? (i := 7) rfl)))))))) (List.mem_append_right _ (List.mem_append_right _ (List.mem_append_right _ (List.mem_append_right _ (List.mem_append_right _ (List.mem_append_right _ (List.mem_append_left _ (List.mem_of_getElem? (i := 8) rfl)))))))) (List.mem_append_right _ (List.mem_append_right _ (List.mem_append_right _ (List.mem_append_right _ (List.mem_append_right _ (List.mem_append_right _ (List.mem_append_left _ (List.mem_of_getElem? (i := 9) rfl)))))))) (List.mem_append_right _ (List.mem_append_left _ (List.mem_of_getElem? (i := 3) rfl))) (List.mem_append_right _ (List.mem_append_right _ (List.mem_append_right _ (List.mem_append_right _ (List.mem_append_right _ (List.mem_append_right _ (List.mem_append_left _ (List.mem_of_getElem? (i := 10) rfl))))))))) rfl rfl rfl (by decide +kernel) ⟨Nat.le_of_ble_eq_true rfl, Nat.le_of_ble_eq_true rfl⟩) hK hP (va_recv hK hP (ci := 1) (q0 := 1) rfl (wl_atE (by decide) rfl)) rfl hl.1 rfl (Nat.le_of_ble_eq_true rfl) d_LN_placeSigns_82 ⟨Nat.zero_le _, Nat.zero_le _⟩ ?_
          have hwd : p_wid (M 7) (M 8) k true = q_wide (M 7) (M 8) (p_tabs M i n) so b k x := by unfold q_wide; rw [if_neg (by rw [← g7]; exact c_35), decide_eq_true (show k + 1 = b by omega)]
          obtain ⟨qw, eqw⟩ : ∃ q_, q_ = q_wide (M 7) (M 8) (p_tabs M i n) so b k x := ⟨_, rfl⟩
          have hqb : 0 ≤ qw ∧ qw ≤ 60000 := by rw [eqw, ← hwd]; first | exact p_tabb hx0 (by omega) hst hz | (have := p_widb (kd := M 7) (wd := M 8) (i := k) (la := true) (ht.2.1 k); omega) | (have := p_widb (kd := M 7) (wd := M 8) (i := k) (la := false) (ht.2.1 k); omega)
          rw [hwd, ← eqw]
          refine lv_istore (lv' := [(8, .int (iI (qw))), (7, .int (iI (((k : Nat) : Int)))), (6, .int (iI (x))), (5, .int (iI (((so : Nat) : Int)))), (0, .ref (ad (3))), (1, .ref (ad (29 + 4 * i))), (2, .int (iI (((a : Nat) : Int)))), (3, .int (iI (((b : Nat) : Int)))), (4, .int (iI (x0)))]) hx hb d_LN_placeSigns_85 hl (by decide) rfl (fun ls hl => ?_)
          refine lv_aload_n hx hb d_LN_placeSigns_87 rfl (lv_at hl 4 rfl) ?_
          refine z_get (ci := 3) (C := R_LN) (T := T_LN) (N := 6) (v := .ref (ad (11))) hx hb hg in_LN hown hK hP (3) (by decide) rfl rfl 1 (by decide) (hg _ (List.mem_append_right _ (List.mem_append_right _ (List.mem_append_right _ (List.mem_append_right _ (List.mem_append_left _ (List.mem_of_getElem? (i := 6) rfl))))))) (fun _ h9 => h9) rfl d_LN_placeSigns_88 ?_
          refine z_iconst hx hb (z := 0) d_LN_placeSigns_91 ?_
          refine z_aald hx hb hK hP (11) 1 (by decide) (fun _ => rfl) rfl rfl (0) rfl (by decide) (by decide) d_LN_placeSigns_92 ?_
          refine lv_iload hx hb d_LN_placeSigns_93 (lv_at hl 1 rfl) ?_
          refine lv_aload_n hx hb d_LN_placeSigns_95 rfl (lv_at hl 4 rfl) ?_
          refine z_get (ci := 3) (C := R_LN) (T := T_LN) (N := 6) (v := .int (iI (Mc (3) 2))) hx hb hg in_LN hown hK hP (3) (by decide) rfl rfl 2 (by decide) (hg _ (List.mem_append_right _ (List.mem_append_right _ (List.mem_append_right _ (List.mem_append_right _ (List.mem_append_left _ (List.mem_of_getElem? (i := 8) rfl))))))) (fun _ h9 => h9) rfl d_LN_placeSigns_96 ?_
          refine z_iast hx hb hK hP hD hS (23) 0 (by decide) (fun _ => rfl) rfl (v := Mc (3) 2) (k) rfl (by omega) (by decide) d_LN_placeSigns_99 (fun H locs hP hD hS => ?_)
          obtain ⟨M_4, eM_4⟩ : ∃ q_, q_ = mset Mc (23) (k) (Mc (3) 2) := ⟨_, rfl⟩
          have hP : va_P D vwCl (pg_w ad cs rp M_4) H := by rw [eM_4]; exact hP
          have hD : va_D A (pg_w ad cs rp M_4) := by rw [eM_4]; exact hD
          refine lv_aload_n hx hb d_LN_placeSigns_100 rfl (lv_at hl 4 rfl) ?_
          refine z_get (ci := 3) (C := R_LN) (T := T_LN) (N := 6) (v := .ref (ad (11))) hx hb hg in_LN hown hK hP (3) (by decide) rfl rfl 1 (by decide) (hg _ (List.mem_append_right _ (List.mem_append_right _ (List.mem_append_right _ (List.mem_append_right _ (List.mem_append_left _ (List.mem_of_getElem? (i := 6) rfl))))))) (fun _ h9 => h9) rfl d_LN_placeSigns_101 ?_
          refine z_iconst hx hb (z := 1) d_LN_placeSigns_104 ?_
          refine z_aald hx hb hK hP (11) 1 (by decide) (fun _ => rfl) rfl rfl (1) rfl (by decide) (by decide) d_LN_placeSigns_105 ?_
          refine lv_iload hx hb d_LN_placeSigns_106 (lv_at hl 1 rfl) ?_
          refine lv_iload hx hb d_LN_placeSigns_108 (lv_at hl 2 rfl) ?_
          refine z_iast hx hb hK hP hD hS (24) 0 (by decide) (fun _ => rfl) rfl (v := x) (k) rfl (by omega) (by decide) d_LN_placeSigns_110 (fun H locs hP hD hS => ?_)
          obtain ⟨M_5, eM_5⟩ : ∃ q_, q_ = mset M_4 (24) (k) (x) := ⟨_, rfl⟩
          have hP : va_P D vwCl (pg_w ad cs rp M_5) H := by rw [eM_5]; exact hP
          have hD : va_D A (pg_w ad cs rp M_5) := by rw [eM_5]; exact hD
          refine lv_aload_n hx hb d_LN_placeSigns_111 rfl (lv_at hl 4 rfl) ?_
          refine z_get (ci := 3) (C := R_LN) (T := T_LN) (N := 6) (v := .ref (ad (11))) hx hb hg in_LN hown hK hP (3) (by decide) rfl rfl 1 (by decide) (hg _ (List.mem_append_right _ (List.mem_append_right _ (List.mem_append_right _ (List.mem_append_right _ (List.mem_append_left _ (List.mem_of_getElem? (i := 6) rfl))))))) (fun _ h9 => h9) rfl d_LN_placeSigns_112 ?_
          refine z_iconst hx hb (z := 2) d_LN_placeSigns_115 ?_
          refine z_aald hx hb hK hP (11) 1 (by decide) (fun _ => rfl) rfl rfl (2) rfl (by decide) (by decide) d_LN_placeSigns_116 ?_
          refine lv_iload hx hb d_LN_placeSigns_117 (lv_at hl 1 rfl) ?_
          refine lv_iload hx hb d_LN_placeSigns_119 (lv_at hl 0 rfl) ?_
          refine z_iast hx hb hK hP hD hS (25) 0 (by decide) (fun _ => rfl) rfl (v := qw) (k) rfl (by omega) (by decide) d_LN_placeSigns_121 (fun H locs hP hD hS => ?_)
          obtain ⟨M_6, eM_6⟩ : ∃ q_, q_ = mset M_5 (25) (k) (qw) := ⟨_, rfl⟩
          have hP : va_P D vwCl (pg_w ad cs rp M_6) H := by rw [eM_6]; exact hP
          have hD : va_D A (pg_w ad cs rp M_6) := by rw [eM_6]; exact hD
          refine lv_iload hx hb d_LN_placeSigns_122 (lv_at hl 2 rfl) ?_
          refine lv_iload hx hb d_LN_placeSigns_124 (lv_at hl 0 rfl) ?_
          refine z_iadd hx hb d_LN_placeSigns_126 (v := (x + qw)) rfl ?_
          refine lv_istore (lv' := [(6, .int (iI ((x + qw)))), (8, .int (iI (qw))), (7, .int (iI (((k : Nat) : Int)))), (5, .int (iI (((so : Nat) : Int)))), (0, .ref (ad (3))), (1, .ref (ad (29 + 4 * i))), (2, .int (iI (((a : Nat) : Int)))), (3, .int (iI (((b : Nat) : Int)))), (4, .int (iI (x0)))]) hx hb d_LN_placeSigns_127 hl (by decide) rfl (fun ls hl => ?_)
          refine z_iinc (v := ((k + 1 : Nat) : Int)) (lv' := [(7, .int (iI (((k + 1 : Nat) : Int)))), (6, .int (iI ((x + qw)))), (8, .int (iI (qw))), (5, .int (iI (((so : Nat) : Int)))), (0, .ref (ad (3))), (1, .ref (ad (29 + 4 * i))), (2, .int (iI (((a : Nat) : Int)))), (3, .int (iI (((b : Nat) : Int)))), (4, .int (iI (x0)))]) hx hb d_LN_placeSigns_129 hl (k := 2) rfl (by omega) (by decide) rfl (fun ls hl => ?_)
          refine lv_goto (tgt := 18) hx hb d_LN_placeSigns_132 (by decide) ?_
          have hF : q_ps (M 7) (M 8) (p_tabs M i n) (M 3 2) so b f (k + 1) (x + qw) M_6 = MF := by rw [← he, eM_6, eM_5, eM_4, g3]; conv => rhs; unfold q_ps; rw [← eqw]
          exact ih (k + 1) (x + qw) M_6 (by omega) (by omega) (by omega) (by rw [eM_6, eM_5, eM_4]; exact eqb_set (eqb_set (eqb_set hsm (by omega) (by omega)) (by omega) (by omega)) (by omega) (by omega)) hF H locs ls hP hD hS (lv_sub hl [0, 1, 3, 4, 5, 6, 7, 8] rfl)
      · refine lv_aload_n hx hb d_LN_placeSigns_38 rfl (lv_at hl 4 rfl) ?_
        refine lv_iload hx hb d_LN_placeSigns_39 (lv_at hl 1 rfl) ?_
        refine lv_aload_n hx hb d_LN_placeSigns_41 rfl (lv_at hl 3 rfl) ?_
        refine lv_iload hx hb d_LN_placeSigns_42 (lv_at hl 0 rfl) ?_
        refine lv_iload hx hb d_LN_placeSigns_44 (lv_at hl 2 rfl) ?_
        refine lv_iload_n hx hb d_LN_placeSigns_46 rfl (lv_at hl 6 rfl) ?_
        refine ro_V (As := [.int (iI (((k : Nat) : Int))), .int (iI (((so : Nat) : Int))), .int (iI (((b : Nat) : Int)))]) (rest := [.int (iI (x)), .ref (ad (29 + 4 * i))]) (z := p_wbt (M 7) (M 8) so b (so - (k + 1)) (k + 1) 0) ⟨hx, hb, hml, hown, hg⟩ ((show p_wbt (Mc 7) (Mc 8) so b (so - (k + 1)) (k + 1) 0 = p_wbt (M 7) (M 8) so b (so - (k + 1)) (k + 1) 0 by rw [g7, g8]) ▸ c_widthsBehindTab l k so b (by omega) hso hb6 ht1) (cwV 3 hg (gt_V (List.mem_append_right _ (List.mem_append_right _ (List.mem_append_right _ (List.mem_append_right _ (List.mem_append_right _ (List.mem_append_right _ (List.mem_append_left _ (List.mem_of_getElem? (i := 4) rfl)))))))) (List.mem_append_right _ (List.mem_append_right _ (List.mem_append_right _ (List.mem_append_right _ (List.mem_append_right _ (List.mem_append_right _ (List.mem_append_left _ (List.mem_of_getElem? (i := 5) rfl)))))))) (List.mem_append_left _ (List.mem_of_getElem? (i := 4) rfl)) (List.mem_append_right _ (List.mem_append_left _ (List.mem_of_getElem? (i := 6) rfl))) (List.mem_append_right _ (List.mem_append_right _ (List.mem_append_right _ (List.mem_append_right _ (List.mem_append_right _ (List.mem_append_right _ (List.mem_append_left _ (List.mem_of_getElem? (i := 6) rfl))))))))) rfl rfl rfl (by decide +kernel) ⟨Nat.le_of_ble_eq_true rfl, Nat.le_of_ble_eq_true rfl⟩) hK hP (va_recv hK hP (ci := 3) (q0 := 3) rfl (wl_atE (by decide) rfl)) rfl hl.1 rfl (Nat.le_of_ble_eq_true rfl) d_LN_placeSigns_47 ⟨Nat.zero_le _, Nat.zero_le _⟩ ?_
        refine lv_aload_n hx hb d_LN_placeSigns_50 rfl (lv_at hl 3 rfl) ?_
        refine z_get (ci := 3) (C := R_LN) (T := T_LN) (N := 6) (v := .ref (ad (2))) hx hb hg in_LN hown hK hP (3) (by decide) rfl rfl 4 (by decide) (hg _ (List.mem_append_right _ (List.mem_append_right _ (List.mem_append_right _ (List.mem_append_right _ (List.mem_append_left _ (List.mem_of_getElem? (i := 12) rfl))))))) (fun _ h9 => h9) rfl d_LN_placeSigns_51 ?_
        refine z_get (ci := 2) (C := R_SH) (T := T_SH) (N := 3) (v := .int (iI (Mc (2) 2))) hx hb hg in_SH hown hK hP (2) (by decide) rfl rfl 2 (by decide) (hg _ (List.mem_append_right _ (List.mem_append_right _ (List.mem_append_right _ (List.mem_append_left _ (List.mem_of_getElem? (i := 10) rfl)))))) (fun _ h9 => h9) rfl d_LN_placeSigns_54 ?_
        refine ro_V (As := [.int (iI (x)), .int (iI (p_wbt (M 7) (M 8) so b (so - (k + 1)) (k + 1) 0)), .int (iI (Mc (2) 2))]) (rest := []) (z := p_tab n (M (31 + 4 * i)) (M (32 + 4 * i)) x (p_wbt (M 7) (M 8) so b (so - (k + 1)) (k + 1) 0) (M 2 2)) ⟨hx, hb, hml, hown, hg⟩ ((show p_tab n (Mc (31 + 4 * i)) (Mc (32 + 4 * i)) x (p_wbt (M 7) (M 8) so b (so - (k + 1)) (k + 1) 0) (Mc 2 2) = p_tab n (M (31 + 4 * i)) (M (32 + 4 * i)) x (p_wbt (M 7) (M 8) so b (so - (k + 1)) (k + 1) 0) (M 2 2) by rw [g31, g32, g2]) ▸ c_tabWidth l i n x (p_wbt (M 7) (M 8) so b (so - (k + 1)) (k + 1) 0) (Mc 2 2) (by omega) (by omega) hst1 hi hn hs1 hz1 hzk) (cwV 3 hg (gt_V (List.mem_append_right _ (List.mem_append_right _ (List.mem_append_right _ (List.mem_append_right _ (List.mem_append_right _ (List.mem_append_right _ (List.mem_append_left _ (List.mem_of_getElem? (i := 11) rfl)))))))) (List.mem_append_right _ (List.mem_append_right _ (List.mem_append_right _ (List.mem_append_right _ (List.mem_append_right _ (List.mem_append_right _ (List.mem_append_left _ (List.mem_of_getElem? (i := 12) rfl)))))))) (List.mem_append_right _ (List.mem_append_right _ (List.mem_append_right _ (List.mem_append_right _ (List.mem_append_right _ (List.mem_append_right _ (List.mem_append_left _ (List.mem_of_getElem? (i := 13) rfl)))))))) (List.mem_append_right _ (List.mem_append_left _ (List.mem_of_getElem? (i := 4) rfl))) (List.mem_append_right _ (List.mem_append_right _ (List.mem_append_right _ (List.mem_append_right _ (List.mem_append_right _ (List.mem_append_right _ (List.mem_append_left _ (List.mem_of_getElem? (i := 14) rfl))))))))) rfl rfl rfl (by decide +kernel) ⟨Nat.le_of_ble_eq_true rfl, Nat.le_of_ble_eq_true rfl⟩) hK hP (va_recv hK hP (ci := 6) (q0 := 29 + 4 * i) rfl (wl_atE (by omega) (pg_par _ _ _ _ _))) rfl hl.1 rfl (Nat.le_of_ble_eq_true rfl) d_LN_placeSigns_57 ⟨Nat.zero_le _, Nat.zero_le _⟩ ?_
        refine lv_goto (tgt := 85) hx hb d_LN_placeSigns_60 (by decide) ?_
        have hwd : p_tab n (M (31 + 4 * i)) (M (32 + 4 * i)) x (p_wbt (M 7) (M 8) so b (so - (k + 1)) (k + 1) 0) (M 2 2) = q_wide (M 7) (M 8) (p_tabs M i n) so b k x := by unfold q_wide; rw [if_pos (by rw [← g7]; exact c_35)]; rfl
        obtain ⟨qw, eqw⟩ : ∃ q_, q_ = q_wide (M 7) (M 8) (p_tabs M i n) so b k x := ⟨_, rfl⟩
        have hqb : 0 ≤ qw ∧ qw ≤ 60000 := by rw [eqw, ← hwd]; first | exact p_tabb hx0 (by omega) hst hz | (have := p_widb (kd := M 7) (wd := M 8) (i := k) (la := true) (ht.2.1 k); omega) | (have := p_widb (kd := M 7) (wd := M 8) (i := k) (la := false) (ht.2.1 k); omega)
        rw [hwd, ← eqw]
        refine lv_istore (lv' := [(8, .int (iI (qw))), (7, .int (iI (((k : Nat) : Int)))), (6, .int (iI (x))), (5, .int (iI (((so : Nat) : Int)))), (0, .ref (ad (3))), (1, .ref (ad (29 + 4 * i))), (2, .int (iI (((a : Nat) : Int)))), (3, .int (iI (((b : Nat) : Int)))), (4, .int (iI (x0)))]) hx hb d_LN_placeSigns_85 hl (by decide) rfl (fun ls hl => ?_)
        refine lv_aload_n hx hb d_LN_placeSigns_87 rfl (lv_at hl 4 rfl) ?_
        refine z_get (ci := 3) (C := R_LN) (T := T_LN) (N := 6) (v := .ref (ad (11))) hx hb hg in_LN hown hK hP (3) (by decide) rfl rfl 1 (by decide) (hg _ (List.mem_append_right _ (List.mem_append_right _ (List.mem_append_right _ (List.mem_append_right _ (List.mem_append_left _ (List.mem_of_getElem? (i := 6) rfl))))))) (fun _ h9 => h9) rfl d_LN_placeSigns_88 ?_
        refine z_iconst hx hb (z := 0) d_LN_placeSigns_91 ?_
        refine z_aald hx hb hK hP (11) 1 (by decide) (fun _ => rfl) rfl rfl (0) rfl (by decide) (by decide) d_LN_placeSigns_92 ?_
        refine lv_iload hx hb d_LN_placeSigns_93 (lv_at hl 1 rfl) ?_
        refine lv_aload_n hx hb d_LN_placeSigns_95 rfl (lv_at hl 4 rfl) ?_
        refine z_get (ci := 3) (C := R_LN) (T := T_LN) (N := 6) (v := .int (iI (Mc (3) 2))) hx hb hg in_LN hown hK hP (3) (by decide) rfl rfl 2 (by decide) (hg _ (List.mem_append_right _ (List.mem_append_right _ (List.mem_append_right _ (List.mem_append_right _ (List.mem_append_left _ (List.mem_of_getElem? (i := 8) rfl))))))) (fun _ h9 => h9) rfl d_LN_placeSigns_96 ?_
        refine z_iast hx hb hK hP hD hS (23) 0 (by decide) (fun _ => rfl) rfl (v := Mc (3) 2) (k) rfl (by omega) (by decide) d_LN_placeSigns_99 (fun H locs hP hD hS => ?_)
        obtain ⟨M_7, eM_7⟩ : ∃ q_, q_ = mset Mc (23) (k) (Mc (3) 2) := ⟨_, rfl⟩
        have hP : va_P D vwCl (pg_w ad cs rp M_7) H := by rw [eM_7]; exact hP
        have hD : va_D A (pg_w ad cs rp M_7) := by rw [eM_7]; exact hD
        refine lv_aload_n hx hb d_LN_placeSigns_100 rfl (lv_at hl 4 rfl) ?_
        refine z_get (ci := 3) (C := R_LN) (T := T_LN) (N := 6) (v := .ref (ad (11))) hx hb hg in_LN hown hK hP (3) (by decide) rfl rfl 1 (by decide) (hg _ (List.mem_append_right _ (List.mem_append_right _ (List.mem_append_right _ (List.mem_append_right _ (List.mem_append_left _ (List.mem_of_getElem? (i := 6) rfl))))))) (fun _ h9 => h9) rfl d_LN_placeSigns_101 ?_
        refine z_iconst hx hb (z := 1) d_LN_placeSigns_104 ?_
        refine z_aald hx hb hK hP (11) 1 (by decide) (fun _ => rfl) rfl rfl (1) rfl (by decide) (by decide) d_LN_placeSigns_105 ?_
        refine lv_iload hx hb d_LN_placeSigns_106 (lv_at hl 1 rfl) ?_
        refine lv_iload hx hb d_LN_placeSigns_108 (lv_at hl 2 rfl) ?_
        refine z_iast hx hb hK hP hD hS (24) 0 (by decide) (fun _ => rfl) rfl (v := x) (k) rfl (by omega) (by decide) d_LN_placeSigns_110 (fun H locs hP hD hS => ?_)
        obtain ⟨M_8, eM_8⟩ : ∃ q_, q_ = mset M_7 (24) (k) (x) := ⟨_, rfl⟩
        have hP : va_P D vwCl (pg_w ad cs rp M_8) H := by rw [eM_8]; exact hP
        have hD : va_D A (pg_w ad cs rp M_8) := by rw [eM_8]; exact hD
        refine lv_aload_n hx hb d_LN_placeSigns_111 rfl (lv_at hl 4 rfl) ?_
        refine z_get (ci := 3) (C := R_LN) (T := T_LN) (N := 6) (v := .ref (ad (11))) hx hb hg in_LN hown hK hP (3) (by decide) rfl rfl 1 (by decide) (hg _ (List.mem_append_right _ (List.mem_append_right _ (List.mem_append_right _ (List.mem_append_right _ (List.mem_append_left _ (List.mem_of_getElem? (i := 6) rfl))))))) (fun _ h9 => h9) rfl d_LN_placeSigns_112 ?_
        refine z_iconst hx hb (z := 2) d_LN_placeSigns_115 ?_
        refine z_aald hx hb hK hP (11) 1 (by decide) (fun _ => rfl) rfl rfl (2) rfl (by decide) (by decide) d_LN_placeSigns_116 ?_
        refine lv_iload hx hb d_LN_placeSigns_117 (lv_at hl 1 rfl) ?_
        refine lv_iload hx hb d_LN_placeSigns_119 (lv_at hl 0 rfl) ?_
        refine z_iast hx hb hK hP hD hS (25) 0 (by decide) (fun _ => rfl) rfl (v := qw) (k) rfl (by omega) (by decide) d_LN_placeSigns_121 (fun H locs hP hD hS => ?_)
        obtain ⟨M_9, eM_9⟩ : ∃ q_, q_ = mset M_8 (25) (k) (qw) := ⟨_, rfl⟩
        have hP : va_P D vwCl (pg_w ad cs rp M_9) H := by rw [eM_9]; exact hP
        have hD : va_D A (pg_w ad cs rp M_9) := by rw [eM_9]; exact hD
        refine lv_iload hx hb d_LN_placeSigns_122 (lv_at hl 2 rfl) ?_
        refine lv_iload hx hb d_LN_placeSigns_124 (lv_at hl 0 rfl) ?_
        refine z_iadd hx hb d_LN_placeSigns_126 (v := (x + qw)) rfl ?_
        refine lv_istore (lv' := [(6, .int (iI ((x + qw)))), (8, .int (iI (qw))), (7, .int (iI (((k : Nat) : Int)))), (5, .int (iI (((so : Nat) : Int)))), (0, .ref (ad (3))), (1, .ref (ad (29 + 4 * i))), (2, .int (iI (((a : Nat) : Int)))), (3, .int (iI (((b : Nat) : Int)))), (4, .int (iI (x0)))]) hx hb d_LN_placeSigns_127 hl (by decide) rfl (fun ls hl => ?_)
        refine z_iinc (v := ((k + 1 : Nat) : Int)) (lv' := [(7, .int (iI (((k + 1 : Nat) : Int)))), (6, .int (iI ((x + qw)))), (8, .int (iI (qw))), (5, .int (iI (((so : Nat) : Int)))), (0, .ref (ad (3))), (1, .ref (ad (29 + 4 * i))), (2, .int (iI (((a : Nat) : Int)))), (3, .int (iI (((b : Nat) : Int)))), (4, .int (iI (x0)))]) hx hb d_LN_placeSigns_129 hl (k := 2) rfl (by omega) (by decide) rfl (fun ls hl => ?_)
        refine lv_goto (tgt := 18) hx hb d_LN_placeSigns_132 (by decide) ?_
        have hF : q_ps (M 7) (M 8) (p_tabs M i n) (M 3 2) so b f (k + 1) (x + qw) M_9 = MF := by rw [← he, eM_9, eM_8, eM_7, g3]; conv => rhs; unfold q_ps; rw [← eqw]
        exact ih (k + 1) (x + qw) M_9 (by omega) (by omega) (by omega) (by rw [eM_9, eM_8, eM_7]; exact eqb_set (eqb_set (eqb_set hsm (by omega) (by omega)) (by omega) (by omega)) (by omega) (by omega)) hF H locs ls hP hD hS (lv_sub hl [0, 1, 3, 4, 5, 6, 7, 8] rfl)
set_option maxHeartbeats 4000000 in
set_option maxRecDepth 100000 in
/-- Lines.placeSigns -/
theorem c_placeSigns (l : Launch) {D : va_G} {ad : Nat → Nat} {cs : pg_C} {rp : Option Nat} {M : Nat → Nat → Int} (sz : Nat) (i n a b : Nat) (x0 : Int) (hab : a ≤ b) (hb6 : b ≤ 600) (hp : wfP M i n) (ht : wfT M) (hx0 : 0 ≤ x0 ∧ x0 ≤ 10000) : Met l y_LN_placeSigns ws_LN_placeSigns ({ frames := 3, cells := 0, slots := 0, locals := 68 } : Room) (va_Pc [.ref (ad (3)), .ref (ad (29 + 4 * i)), .int (iI (((a : Nat) : Int))), .int (iI (((b : Nat) : Int))), .int (iI (x0))] (rw_B D vwCl (pg_tys cs) (pg_w ad cs rp M) sz)) (va_Qv (fun _ : Unit => True) (rw_E D vwCl (pg_tys cs) (pg_w ad cs rp M) (pg_w ad cs rp (q_ps (M 7) (M 8) (p_tabs M i n) (M 3 2) (p_solid (M 7) a b) b (b - a) a x0 M)) sz) (va_A (pg_w ad cs rp M) sz)) 0 0 (va_A (pg_w ad cs rp M) sz) := by
  refine Met.ofW (cc := b_LN_placeSigns) (maxL := 9) (ret := none) (by decide) rfl ?_
  intro p e s m args below meth c s₁ B hml hv
  obtain ⟨rfl, hsz, hP, hK, hD0⟩ := hv
  have hx := B.exec
  have hb := B.bytes
  have hr := B.returns
  have hts := atoms_spec (ws := ws_LN_placeSigns) B.pre
  have hg : ∀ w ∈ gt, w.before _ s = true := fun w h => hts w (List.mem_cons_of_mem _ h)
  have hown : s.vm.findClass R_LN = some m.cls := findClass_of_methodNamed B.named
  have hlocks := B.notSynchronized
  subst hsz
  have hD := hD0.self (sz := s.heap.size)
  have hA : ∀ q : Nat, s.heap.size ≤ q → va_A (pg_w ad cs rp M) s.heap.size q := fun q h => Or.inr h
  have hS : va_S (va_A (pg_w ad cs rp M) s.heap.size) s.heap s.heap [] := va_S.rf
  have hl := lv_entry ([.ref (ad (3)), .ref (ad (29 + 4 * i)), .int (iI (((a : Nat) : Int))), .int (iI (((b : Nat) : Int))), .int (iI (x0))]) (n := 9) (Nat.le_of_ble_eq_true rfl)
  rw [lg_entry_eq]
  generalize (lg_sl ([.ref (ad (3)), .ref (ad (29 + 4 * i)), .int (iI (((a : Nat) : Int))), .int (iI (((b : Nat) : Int))), .int (iI (x0))]) ++ List.replicate (9 - (lg_sl ([.ref (ad (3)), .ref (ad (29 + 4 * i)), .int (iI (((a : Nat) : Int))), .int (iI (((b : Nat) : Int))), .int (iI (x0))])).length) Slot.unset).toArray = ls at hl ⊢
  have hl : lv_has ls 9 [(0, .ref (ad (3))), (1, .ref (ad (29 + 4 * i))), (2, .int (iI (((a : Nat) : Int)))), (3, .int (iI (((b : Nat) : Int)))), (4, .int (iI (x0)))] := hl
  obtain ⟨hi, hn, hs, hz, hz2⟩ := id hp
  have hso := p_solid_le (M 7) a b
  refine lv_aload_n hx hb d_LN_placeSigns_0 rfl (lv_at hl 0 rfl) ?_
  refine z_get (ci := 3) (C := R_LN) (T := T_LN) (N := 6) (v := .ref (ad (1))) hx hb hg in_LN hown hK hP (3) (by decide) rfl rfl 3 (by decide) (hg _ (List.mem_append_right _ (List.mem_append_right _ (List.mem_append_right _ (List.mem_append_right _ (List.mem_append_left _ (List.mem_of_getElem? (i := 11) rfl))))))) (fun _ h9 => h9) rfl d_LN_placeSigns_1 ?_
  refine lv_iload_n hx hb d_LN_placeSigns_4 rfl (lv_at hl 2 rfl) ?_
  refine lv_iload_n hx hb d_LN_placeSigns_5 rfl (lv_at hl 3 rfl) ?_
  refine ro_V (As := [.int (iI (((a : Nat) : Int))), .int (iI (((b : Nat) : Int)))]) (rest := []) (z := ((p_solid (M 7) a b : Nat) : Int)) ⟨hx, hb, hml, hown, hg⟩ (c_solidBehind l a b (by omega) hb6 (zb_7 ht)) (cwV 2 hg (gt_V (List.mem_append_right _ (List.mem_append_right _ (List.mem_append_right _ (List.mem_append_right _ (List.mem_append_right _ (List.mem_append_left _ (List.mem_of_getElem? (i := 33) rfl))))))) (List.mem_append_right _ (List.mem_append_right _ (List.mem_append_right _ (List.mem_append_right _ (List.mem_append_right _ (List.mem_append_left _ (List.mem_of_getElem? (i := 34) rfl))))))) (List.mem_append_right _ (List.mem_append_right _ (List.mem_append_right _ (List.mem_append_right _ (List.mem_append_right _ (List.mem_append_left _ (List.mem_of_getElem? (i := 35) rfl))))))) (List.mem_append_right _ (List.mem_append_left _ (List.mem_of_getElem? (i := 3) rfl))) (List.mem_append_right _ (List.mem_append_right _ (List.mem_append_right _ (List.mem_append_right _ (List.mem_append_right _ (List.mem_append_left _ (List.mem_of_getElem? (i := 36) rfl)))))))) rfl rfl rfl (by decide +kernel) ⟨Nat.le_of_ble_eq_true rfl, Nat.le_of_ble_eq_true rfl⟩) hK hP (va_recv hK hP (ci := 1) (q0 := 1) rfl (wl_atE (by decide) rfl)) rfl hl.1 rfl (Nat.le_of_ble_eq_true rfl) d_LN_placeSigns_6 ⟨Nat.zero_le _, Nat.zero_le _⟩ ?_
  refine lv_istore (lv' := [(5, .int (iI (((p_solid (M 7) a b : Nat) : Int)))), (0, .ref (ad (3))), (1, .ref (ad (29 + 4 * i))), (2, .int (iI (((a : Nat) : Int)))), (3, .int (iI (((b : Nat) : Int)))), (4, .int (iI (x0)))]) hx hb d_LN_placeSigns_9 hl (by decide) rfl (fun ls hl => ?_)
  refine lv_iload hx hb d_LN_placeSigns_11 (lv_at hl 5 rfl) ?_
  refine lv_istore (lv' := [(6, .int (iI (x0))), (5, .int (iI (((p_solid (M 7) a b : Nat) : Int)))), (0, .ref (ad (3))), (1, .ref (ad (29 + 4 * i))), (2, .int (iI (((a : Nat) : Int)))), (3, .int (iI (((b : Nat) : Int)))), (4, .int (iI (x0)))]) hx hb d_LN_placeSigns_13 hl (by decide) rfl (fun ls hl => ?_)
  refine lv_iload_n hx hb d_LN_placeSigns_15 rfl (lv_at hl 4 rfl) ?_
  refine lv_istore (lv' := [(7, .int (iI (((a : Nat) : Int)))), (6, .int (iI (x0))), (5, .int (iI (((p_solid (M 7) a b : Nat) : Int)))), (0, .ref (ad (3))), (1, .ref (ad (29 + 4 * i))), (2, .int (iI (((a : Nat) : Int)))), (3, .int (iI (((b : Nat) : Int)))), (4, .int (iI (x0)))]) hx hb d_LN_placeSigns_16 hl (by decide) rfl (fun ls hl => ?_)
  refine lp_placeSigns hx hb hml hg hown hK hA i n a b (p_solid (M 7) a b) x0 hb6 (by omega) hp ht (q_ps (M 7) (M 8) (p_tabs M i n) (M 3 2) (p_solid (M 7) a b) b (b - a) a x0 M) (fun H locs ls hP hD hS hl => ?_) (b - a) a x0 M (by omega) hx0.1 (by omega) eqb_rf rfl s.heap [] ls hP hD hS (lv_sub hl [0, 1, 2, 3, 4, 5, 6, 7] rfl)
  have hM : q_ps (M 7) (M 8) (p_tabs M i n) (M 3 2) (p_solid (M 7) a b) b (b - a) a x0 M = q_ps (M 7) (M 8) (p_tabs M i n) (M 3 2) (p_solid (M 7) a b) b (b - a) a x0 M := rfl
  have eW : pg_w ad cs rp (q_ps (M 7) (M 8) (p_tabs M i n) (M 3 2) (p_solid (M 7) a b) b (b - a) a x0 M) = pg_w ad cs rp (q_ps (M 7) (M 8) (p_tabs M i n) (M 3 2) (p_solid (M 7) a b) b (b - a) a x0 M) := by rw [hM]
  have hP := Eq.mp (congrArg (fun q => va_P D vwCl q _) eW) hP
  have hD := Eq.mp (congrArg (va_D _) eW) hD
  exact W.vret hx hb hr (fun t ht hW => ⟨⟨(), rfl, trivial, by rw [ht]; exact hP, va_K.moved hW.alike hK, hD⟩, hS.F ht⟩) hS.2.2 d_LN_placeSigns_135
