set_option maxHeartbeats 4000000 in
set_option maxRecDepth 100000 in
theorem lp_widenGaps1 {p : Program} {l : Launch} {e : Env} {s : State} {m : MethodId} {args : Array Value} {below : List Frame} {meth : Method} {c : Code} {H : Heap} {locs : List Loc} {Q : State → Prop} {D : va_G} {ad : Nat → Nat} {cs : pg_C} {rp : Option Nat} {M : Nat → Nat → Int} (hx : p.tables.exec = Jvm.exec) (hb : c.code = b_LN_widenGaps) (hml : c.maxLocals = 11) (hg : ∀ w ∈ gt, w.before args s = true) (hown : s.vm.findClass R_LN = some m.cls) (hK : va_K D vwCl (pg_tys cs) s) (hP : va_P D vwCl (pg_w ad cs rp M) H) (a b so fr t : Nat) (rest : Int) (hso : so ≤ 600) (ht : wfT M) (kk : ∀ ls : Array Slot, lv_has ls 11 [(6, .int (iI (((t : Nat) : Int)))), (5, .int (iI (((fr : Nat) : Int)))), (4, .int (iI (((so : Nat) : Int)))), (0, .ref (ad (3))), (1, .int (iI (((a : Nat) : Int)))), (2, .int (iI (((b : Nat) : Int)))), (3, .int (iI (rest)))] → W p l e ({ frames := 2, cells := 0, slots := 0, locals := 44 } : Room) s m args below meth c H locs 0 0 Q (F0 m 63 ls [])) : ∀ (f k g : Nat) (ls : Array Slot), (k + f = so ∨ (f = 0 ∧ so ≤ k)) → k ≤ 600 → q_gc (M 7) f k g = t → lv_has ls 11 [(7, .int (iI (((k : Nat) : Int)))), (6, .int (iI (((g : Nat) : Int)))), (5, .int (iI (((fr : Nat) : Int)))), (4, .int (iI (((so : Nat) : Int)))), (0, .ref (ad (3))), (1, .int (iI (((a : Nat) : Int)))), (2, .int (iI (((b : Nat) : Int)))), (3, .int (iI (rest)))] → W p l e ({ frames := 2, cells := 0, slots := 0, locals := 44 } : Room) s m args below meth c H locs 0 0 Q (F0 m 26 ls []) := by
  intro f
  induction f with
  | zero =>
    intro k g ls hf hk6 he hl
    refine lv_iload hx hb d_LN_widenGaps_26 (lv_at hl 0 rfl) ?_
    refine lv_iload hx hb d_LN_widenGaps_28 (lv_at hl 3 rfl) ?_
    refine z_icmp_ge hx hb (tgt := 63) d_LN_widenGaps_30 (by decide) ⟨by omega, by omega⟩ ⟨by omega, by omega⟩ (fun c_30 => ?_) (fun c_30 => ?_)
    · have he : g = t := he
      subst he
      exact kk ls (lv_sub hl [1, 2, 3, 4, 5, 6, 7] rfl)
    · exact absurd c_30 (by omega)
  | succ f ih =>
    intro k g ls hf hk6 he hl
    refine lv_iload hx hb d_LN_widenGaps_26 (lv_at hl 0 rfl) ?_
    refine lv_iload hx hb d_LN_widenGaps_28 (lv_at hl 3 rfl) ?_
    refine z_icmp_ge hx hb (tgt := 63) d_LN_widenGaps_30 (by decide) ⟨by omega, by omega⟩ ⟨by omega, by omega⟩ (fun c_30 => ?_) (fun c_30 => ?_)
    · exact absurd c_30 (by omega)
    · refine lv_iload hx hb d_LN_widenGaps_33 (lv_at hl 1 rfl) ?_
      refine lv_aload_n hx hb d_LN_widenGaps_35 rfl (lv_at hl 4 rfl) ?_
      refine z_get (ci := 3) (C := R_LN) (T := T_LN) (N := 6) (v := .ref (ad (1))) hx hb hg in_LN hown hK hP (3) (by decide) rfl rfl 3 (by decide) (hg _ (List.mem_append_right _ (List.mem_append_right _ (List.mem_append_right _ (List.mem_append_right _ (List.mem_append_left _ (List.mem_of_getElem? (i := 11) rfl))))))) (fun _ h9 => h9) rfl d_LN_widenGaps_36 ?_
      refine z_get (ci := 1) (C := R_TX) (T := T_TX) (N := 6) (v := .ref (ad (7))) hx hb hg in_TX hown hK hP (1) (by decide) rfl rfl 1 (by decide) (hg _ (List.mem_append_right _ (List.mem_append_right _ (List.mem_append_left _ (List.mem_of_getElem? (i := 22) rfl))))) (fun _ h9 => h9) rfl d_LN_widenGaps_39 ?_
      refine lv_iload hx hb d_LN_widenGaps_42 (lv_at hl 0 rfl) ?_
      refine z_iald hx hb hK hP (7) 0 (by decide) (fun _ => rfl) rfl (k) rfl (by omega) (by decide) d_LN_widenGaps_44 ?_
      refine z_iconst hx hb (z := 1) d_LN_widenGaps_45 ?_
      refine z_icmp_ne hx hb (tgt := 53) d_LN_widenGaps_46 (by decide) (zb_7 ht _) ⟨by decide, by decide⟩ (fun c_46 => ?_) (fun c_46 => ?_)
      · refine z_iconst hx hb (z := 0) d_LN_widenGaps_53 ?_
        refine z_iadd hx hb d_LN_widenGaps_54 (v := ((g + 0 : Nat) : Int)) (by omega) ?_
        refine lv_istore (lv' := [(6, .int (iI (((g + 0 : Nat) : Int)))), (7, .int (iI (((k : Nat) : Int)))), (5, .int (iI (((fr : Nat) : Int)))), (4, .int (iI (((so : Nat) : Int)))), (0, .ref (ad (3))), (1, .int (iI (((a : Nat) : Int)))), (2, .int (iI (((b : Nat) : Int)))), (3, .int (iI (rest)))]) hx hb d_LN_widenGaps_55 hl (by decide) rfl (fun ls hl => ?_)
        refine z_iinc (v := ((k + 1 : Nat) : Int)) (lv' := [(7, .int (iI (((k + 1 : Nat) : Int)))), (6, .int (iI (((g + 0 : Nat) : Int)))), (5, .int (iI (((fr : Nat) : Int)))), (4, .int (iI (((so : Nat) : Int)))), (0, .ref (ad (3))), (1, .int (iI (((a : Nat) : Int)))), (2, .int (iI (((b : Nat) : Int)))), (3, .int (iI (rest)))]) hx hb d_LN_widenGaps_57 hl (k := 1) rfl (by omega) (by decide) rfl (fun ls hl => ?_)
        refine lv_goto (tgt := 26) hx hb d_LN_widenGaps_60 (by decide) ?_
        exact ih (k + 1) (g + 0) ls (by omega) (by omega) (by rw [← he]; conv => rhs; unfold q_gc; rw [if_neg c_46]) (lv_sub hl [0, 1, 2, 3, 4, 5, 6, 7] rfl)
      · refine z_iconst hx hb (z := 1) d_LN_widenGaps_49 ?_
        refine lv_goto (tgt := 54) hx hb d_LN_widenGaps_50 (by decide) ?_
        refine z_iadd hx hb d_LN_widenGaps_54 (v := ((g + 1 : Nat) : Int)) (by omega) ?_
        refine lv_istore (lv' := [(6, .int (iI (((g + 1 : Nat) : Int)))), (7, .int (iI (((k : Nat) : Int)))), (5, .int (iI (((fr : Nat) : Int)))), (4, .int (iI (((so : Nat) : Int)))), (0, .ref (ad (3))), (1, .int (iI (((a : Nat) : Int)))), (2, .int (iI (((b : Nat) : Int)))), (3, .int (iI (rest)))]) hx hb d_LN_widenGaps_55 hl (by decide) rfl (fun ls hl => ?_)
        refine z_iinc (v := ((k + 1 : Nat) : Int)) (lv' := [(7, .int (iI (((k + 1 : Nat) : Int)))), (6, .int (iI (((g + 1 : Nat) : Int)))), (5, .int (iI (((fr : Nat) : Int)))), (4, .int (iI (((so : Nat) : Int)))), (0, .ref (ad (3))), (1, .int (iI (((a : Nat) : Int)))), (2, .int (iI (((b : Nat) : Int)))), (3, .int (iI (rest)))]) hx hb d_LN_widenGaps_57 hl (k := 1) rfl (by omega) (by decide) rfl (fun ls hl => ?_)
        refine lv_goto (tgt := 26) hx hb d_LN_widenGaps_60 (by decide) ?_
        exact ih (k + 1) (g + 1) ls (by omega) (by omega) (by rw [← he]; conv => rhs; unfold q_gc; rw [if_pos c_46]) (lv_sub hl [0, 1, 2, 3, 4, 5, 6, 7] rfl)
set_option maxHeartbeats 4000000 in
set_option maxRecDepth 100000 in
theorem lp_widenGaps2 {p : Program} {l : Launch} {e : Env} {s : State} {m : MethodId} {args : Array Value} {below : List Frame} {meth : Method} {c : Code} {Q : State → Prop} {A : Nat → Prop} {H0 : Heap} {D : va_G} {ad : Nat → Nat} {cs : pg_C} {rp : Option Nat} {M : Nat → Nat → Int} (hx : p.tables.exec = Jvm.exec) (hb : c.code = b_LN_widenGaps) (hml : c.maxLocals = 11) (hg : ∀ w ∈ gt, w.before args s = true) (hown : s.vm.findClass R_LN = some m.cls) (hK : va_K D vwCl (pg_tys cs) s) (hA : ∀ q, H0.size ≤ q → A q) (a b so fr g : Nat) (rest each : Int) (hso : so ≤ 600) (hb6 : b ≤ 600) (hg1 : 1 ≤ g) (hg6 : g ≤ 600) (hre : 0 ≤ rest ∧ rest ≤ 30000) (heach : rest.tdiv ((g : Nat) : Int) = each) (ht : wfT M) (MF : Nat → Nat → Int) (kk : ∀ (H : Heap) (locs : List Loc) (ls : Array Slot), va_P D vwCl (pg_w ad cs rp MF) H → va_D A (pg_w ad cs rp MF) → va_S A H0 H locs → lv_has ls 11 [(3, .int (iI rest))] → W p l e ({ frames := 2, cells := 0, slots := 0, locals := 44 } : Room) s m args below meth c H locs 0 0 Q (F0 m 172 ls [])) : ∀ (f k : Nat) (rem mv : Int) (Mc : Nat → Nat → Int), (k + f = b ∨ (f = 0 ∧ b ≤ k)) → k ≤ 600 → ((f : Nat) : Int) ≤ rem + 700 → rem ≤ 1000 → eqb 23 25 Mc M → q_wg (M 7) so each f k rem mv Mc = MF → ∀ (H : Heap) (locs : List Loc) (ls : Array Slot), va_P D vwCl (pg_w ad cs rp Mc) H → va_D A (pg_w ad cs rp Mc) → va_S A H0 H locs → lv_has ls 11 [(9, .int (iI (((k : Nat) : Int)))), (8, .int (iI (mv))), (7, .int (iI (rem))), (6, .int (iI (((g : Nat) : Int)))), (5, .int (iI (((fr : Nat) : Int)))), (4, .int (iI (((so : Nat) : Int)))), (0, .ref (ad (3))), (1, .int (iI (((a : Nat) : Int)))), (2, .int (iI (((b : Nat) : Int)))), (3, .int (iI (rest)))] → W p l e ({ frames := 2, cells := 0, slots := 0, locals := 44 } : Room) s m args below meth c H locs 0 0 Q (F0 m 84 ls []) := by
  intro f
  induction f with
  | zero =>
    intro k rem mv Mc hkf hk6 hr1 hr2 hsm he H locs ls hP hD hS hl
    have g7 : Mc 7 = M 7 := hsm 7 (by omega)
    have ht1 : wfT Mc := eqb_wfT hsm (by omega) ht
    refine lv_iload hx hb d_LN_widenGaps_84 (lv_at hl 0 rfl) ?_
    refine lv_iload_n hx hb d_LN_widenGaps_86 rfl (lv_at hl 8 rfl) ?_
    refine z_icmp_ge hx hb (tgt := 172) d_LN_widenGaps_87 (by decide) ⟨by omega, by omega⟩ ⟨by omega, by omega⟩ (fun c_87 => ?_) (fun c_87 => ?_)
    · have he : Mc = MF := he
      subst he
      exact kk H locs ls hP hD hS (lv_sub hl [9] rfl)
    · exact absurd c_87 (by omega)
  | succ f ih =>
    intro k rem mv Mc hkf hk6 hr1 hr2 hsm he H locs ls hP hD hS hl
    have g7 : Mc 7 = M 7 := hsm 7 (by omega)
    have ht1 : wfT Mc := eqb_wfT hsm (by omega) ht
    refine lv_iload hx hb d_LN_widenGaps_84 (lv_at hl 0 rfl) ?_
    refine lv_iload_n hx hb d_LN_widenGaps_86 rfl (lv_at hl 8 rfl) ?_
    refine z_icmp_ge hx hb (tgt := 172) d_LN_widenGaps_87 (by decide) ⟨by omega, by omega⟩ ⟨by omega, by omega⟩ (fun c_87 => ?_) (fun c_87 => ?_)
    · exact absurd c_87 (by omega)
    · refine lv_aload_n hx hb d_LN_widenGaps_90 rfl (lv_at hl 6 rfl) ?_
      refine z_get (ci := 3) (C := R_LN) (T := T_LN) (N := 6) (v := .ref (ad (11))) hx hb hg in_LN hown hK hP (3) (by decide) rfl rfl 1 (by decide) (hg _ (List.mem_append_right _ (List.mem_append_right _ (List.mem_append_right _ (List.mem_append_right _ (List.mem_append_left _ (List.mem_of_getElem? (i := 6) rfl))))))) (fun _ h9 => h9) rfl d_LN_widenGaps_91 ?_
      refine z_iconst hx hb (z := 1) d_LN_widenGaps_94 ?_
      refine z_aald hx hb hK hP (11) 1 (by decide) (fun _ => rfl) rfl rfl (1) rfl (by decide) (by decide) d_LN_widenGaps_95 ?_
      refine lv_iload hx hb d_LN_widenGaps_96 (lv_at hl 0 rfl) ?_
      refine lv_dup2_11 hx hb d_LN_widenGaps_98 rfl rfl ?_
      refine z_iald hx hb hK hP (24) 0 (by decide) (fun _ => rfl) rfl (k) rfl (by omega) (by decide) d_LN_widenGaps_99 ?_
      refine lv_iload hx hb d_LN_widenGaps_100 (lv_at hl 1 rfl) ?_
      refine z_iadd hx hb d_LN_widenGaps_102 (v := (Mc (24) (k) + mv)) rfl ?_
      refine z_iast hx hb hK hP hD hS (24) 0 (by decide) (fun _ => rfl) rfl (v := (Mc (24) (k) + mv)) (k) rfl (by omega) (by decide) d_LN_widenGaps_103 (fun H locs hP hD hS => ?_)
      obtain ⟨M_1, eM_1⟩ : ∃ q_, q_ = mset Mc (24) (k) ((Mc (24) (k) + mv)) := ⟨_, rfl⟩
      have hP : va_P D vwCl (pg_w ad cs rp M_1) H := by rw [eM_1]; exact hP
      have hD : va_D A (pg_w ad cs rp M_1) := by rw [eM_1]; exact hD
      have q7 : M_1 7 = Mc 7 := by rw [eM_1]; exact mset_ne (by omega)
      have q25 : M_1 25 = Mc 25 := by rw [eM_1]; exact mset_ne (by omega)
      refine lv_iload hx hb d_LN_widenGaps_104 (lv_at hl 0 rfl) ?_
      refine lv_iload hx hb d_LN_widenGaps_106 (lv_at hl 5 rfl) ?_
      refine z_icmp_ge hx hb (tgt := 166) d_LN_widenGaps_108 (by decide) ⟨by omega, by omega⟩ ⟨by omega, by omega⟩ (fun c_108 => ?_) (fun c_108 => ?_)
      · refine z_iinc (v := ((k + 1 : Nat) : Int)) (lv' := [(9, .int (iI (((k + 1 : Nat) : Int)))), (8, .int (iI (mv))), (7, .int (iI (rem))), (6, .int (iI (((g : Nat) : Int)))), (5, .int (iI (((fr : Nat) : Int)))), (4, .int (iI (((so : Nat) : Int)))), (0, .ref (ad (3))), (1, .int (iI (((a : Nat) : Int)))), (2, .int (iI (((b : Nat) : Int)))), (3, .int (iI (rest)))]) hx hb d_LN_widenGaps_166 hl (k := 0) rfl (by omega) (by decide) rfl (fun ls hl => ?_)
        refine lv_goto (tgt := 84) hx hb d_LN_widenGaps_169 (by decide) ?_
        have hF : q_wg (M 7) so each f (k + 1) rem mv M_1 = MF := by rw [← he, eM_1]; conv => rhs; unfold q_wg; rw [if_neg (fun h => by omega)]
        exact ih (k + 1) rem mv M_1 (by omega) (by omega) (by omega) (by omega) (by rw [eM_1]; exact eqb_set hsm (by omega) (by omega)) hF H locs ls hP hD hS (lv_sub hl [0, 1, 2, 3, 4, 5, 6, 7, 8, 9] rfl)
      · refine lv_aload_n hx hb d_LN_widenGaps_111 rfl (lv_at hl 6 rfl) ?_
        refine z_get (ci := 3) (C := R_LN) (T := T_LN) (N := 6) (v := .ref (ad (1))) hx hb hg in_LN hown hK hP (3) (by decide) rfl rfl 3 (by decide) (hg _ (List.mem_append_right _ (List.mem_append_right _ (List.mem_append_right _ (List.mem_append_right _ (List.mem_append_left _ (List.mem_of_getElem? (i := 11) rfl))))))) (fun _ h9 => h9) rfl d_LN_widenGaps_112 ?_
        refine z_get (ci := 1) (C := R_TX) (T := T_TX) (N := 6) (v := .ref (ad (7))) hx hb hg in_TX hown hK hP (1) (by decide) rfl rfl 1 (by decide) (hg _ (List.mem_append_right _ (List.mem_append_right _ (List.mem_append_left _ (List.mem_of_getElem? (i := 22) rfl))))) (fun _ h9 => h9) rfl d_LN_widenGaps_115 ?_
        refine lv_iload hx hb d_LN_widenGaps_118 (lv_at hl 0 rfl) ?_
        refine z_iald hx hb hK hP (7) 0 (by decide) (fun _ => rfl) rfl (k) rfl (by omega) (by decide) d_LN_widenGaps_120 ?_
        refine z_iconst hx hb (z := 1) d_LN_widenGaps_121 ?_
        refine z_icmp_ne hx hb (tgt := 166) d_LN_widenGaps_122 (by decide) (by rw [q7]; exact zb_7 ht1 _) ⟨by decide, by decide⟩ (fun c_122 => ?_) (fun c_122 => ?_)
        · refine z_iinc (v := ((k + 1 : Nat) : Int)) (lv' := [(9, .int (iI (((k + 1 : Nat) : Int)))), (8, .int (iI (mv))), (7, .int (iI (rem))), (6, .int (iI (((g : Nat) : Int)))), (5, .int (iI (((fr : Nat) : Int)))), (4, .int (iI (((so : Nat) : Int)))), (0, .ref (ad (3))), (1, .int (iI (((a : Nat) : Int)))), (2, .int (iI (((b : Nat) : Int)))), (3, .int (iI (rest)))]) hx hb d_LN_widenGaps_166 hl (k := 0) rfl (by omega) (by decide) rfl (fun ls hl => ?_)
          refine lv_goto (tgt := 84) hx hb d_LN_widenGaps_169 (by decide) ?_
          have hF : q_wg (M 7) so each f (k + 1) rem mv M_1 = MF := by rw [← he, eM_1]; conv => rhs; unfold q_wg; rw [if_neg (fun h => c_122 (by rw [q7, g7]; exact h.2))]
          exact ih (k + 1) rem mv M_1 (by omega) (by omega) (by omega) (by omega) (by rw [eM_1]; exact eqb_set hsm (by omega) (by omega)) hF H locs ls hP hD hS (lv_sub hl [0, 1, 2, 3, 4, 5, 6, 7, 8, 9] rfl)
        · refine lv_iload_n hx hb d_LN_widenGaps_125 rfl (lv_at hl 9 rfl) ?_
          refine lv_iload hx hb d_LN_widenGaps_126 (lv_at hl 3 rfl) ?_
          refine z_idiv hx hb d_LN_widenGaps_128 ⟨by omega, by omega⟩ ⟨by omega, by omega⟩ (by omega) (v := ((rest).tdiv (((g : Nat) : Int)))) rfl ?_
          refine lv_iload hx hb d_LN_widenGaps_129 (lv_at hl 2 rfl) ?_
          refine z_if_le hx hb (tgt := 138) d_LN_widenGaps_131 (by decide) ⟨by omega, by omega⟩ (fun c_131 => ?_) (fun c_131 => ?_)
          · refine z_iconst hx hb (z := 0) d_LN_widenGaps_138 ?_
            refine z_iadd hx hb d_LN_widenGaps_139 (v := (((rest).tdiv (((g : Nat) : Int))) + 0)) rfl ?_
            refine lv_istore (lv' := [(10, .int (iI ((((rest).tdiv (((g : Nat) : Int))) + 0)))), (9, .int (iI (((k : Nat) : Int)))), (8, .int (iI (mv))), (7, .int (iI (rem))), (6, .int (iI (((g : Nat) : Int)))), (5, .int (iI (((fr : Nat) : Int)))), (4, .int (iI (((so : Nat) : Int)))), (0, .ref (ad (3))), (1, .int (iI (((a : Nat) : Int)))), (2, .int (iI (((b : Nat) : Int)))), (3, .int (iI (rest)))]) hx hb d_LN_widenGaps_140 hl (by decide) rfl (fun ls hl => ?_)
            refine lv_aload_n hx hb d_LN_widenGaps_142 rfl (lv_at hl 7 rfl) ?_
            refine z_get (ci := 3) (C := R_LN) (T := T_LN) (N := 6) (v := .ref (ad (11))) hx hb hg in_LN hown hK hP (3) (by decide) rfl rfl 1 (by decide) (hg _ (List.mem_append_right _ (List.mem_append_right _ (List.mem_append_right _ (List.mem_append_right _ (List.mem_append_left _ (List.mem_of_getElem? (i := 6) rfl))))))) (fun _ h9 => h9) rfl d_LN_widenGaps_143 ?_
            refine z_iconst hx hb (z := 2) d_LN_widenGaps_146 ?_
            refine z_aald hx hb hK hP (11) 1 (by decide) (fun _ => rfl) rfl rfl (2) rfl (by decide) (by decide) d_LN_widenGaps_147 ?_
            refine lv_iload hx hb d_LN_widenGaps_148 (lv_at hl 1 rfl) ?_
            refine lv_dup2_11 hx hb d_LN_widenGaps_150 rfl rfl ?_
            refine z_iald hx hb hK hP (25) 0 (by decide) (fun _ => rfl) rfl (k) rfl (by omega) (by decide) d_LN_widenGaps_151 ?_
            refine lv_iload hx hb d_LN_widenGaps_152 (lv_at hl 0 rfl) ?_
            refine z_iadd hx hb d_LN_widenGaps_154 (v := (M_1 (25) (k) + (((rest).tdiv (((g : Nat) : Int))) + 0))) rfl ?_
            refine z_iast hx hb hK hP hD hS (25) 0 (by decide) (fun _ => rfl) rfl (v := (M_1 (25) (k) + (((rest).tdiv (((g : Nat) : Int))) + 0))) (k) rfl (by omega) (by decide) d_LN_widenGaps_155 (fun H locs hP hD hS => ?_)
            obtain ⟨M_2, eM_2⟩ : ∃ q_, q_ = mset M_1 (25) (k) ((M_1 (25) (k) + (((rest).tdiv (((g : Nat) : Int))) + 0))) := ⟨_, rfl⟩
            have hP : va_P D vwCl (pg_w ad cs rp M_2) H := by rw [eM_2]; exact hP
            have hD : va_D A (pg_w ad cs rp M_2) := by rw [eM_2]; exact hD
            refine lv_iload hx hb d_LN_widenGaps_156 (lv_at hl 2 rfl) ?_
            refine lv_iload hx hb d_LN_widenGaps_158 (lv_at hl 0 rfl) ?_
            refine z_iadd hx hb d_LN_widenGaps_160 (v := (mv + (((rest).tdiv (((g : Nat) : Int))) + 0))) rfl ?_
            refine lv_istore (lv' := [(8, .int (iI ((mv + (((rest).tdiv (((g : Nat) : Int))) + 0))))), (10, .int (iI ((((rest).tdiv (((g : Nat) : Int))) + 0)))), (9, .int (iI (((k : Nat) : Int)))), (7, .int (iI (rem))), (6, .int (iI (((g : Nat) : Int)))), (5, .int (iI (((fr : Nat) : Int)))), (4, .int (iI (((so : Nat) : Int)))), (0, .ref (ad (3))), (1, .int (iI (((a : Nat) : Int)))), (2, .int (iI (((b : Nat) : Int)))), (3, .int (iI (rest)))]) hx hb d_LN_widenGaps_161 hl (by decide) rfl (fun ls hl => ?_)
            refine z_iinc (v := (rem - 1)) (lv' := [(7, .int (iI ((rem - 1)))), (8, .int (iI ((mv + (((rest).tdiv (((g : Nat) : Int))) + 0))))), (10, .int (iI ((((rest).tdiv (((g : Nat) : Int))) + 0)))), (9, .int (iI (((k : Nat) : Int)))), (6, .int (iI (((g : Nat) : Int)))), (5, .int (iI (((fr : Nat) : Int)))), (4, .int (iI (((so : Nat) : Int)))), (0, .ref (ad (3))), (1, .int (iI (((a : Nat) : Int)))), (2, .int (iI (((b : Nat) : Int)))), (3, .int (iI (rest)))]) hx hb d_LN_widenGaps_163 hl (k := 3) rfl (by omega) (by decide) rfl (fun ls hl => ?_)
            refine z_iinc (v := ((k + 1 : Nat) : Int)) (lv' := [(9, .int (iI (((k + 1 : Nat) : Int)))), (7, .int (iI ((rem - 1)))), (8, .int (iI ((mv + (((rest).tdiv (((g : Nat) : Int))) + 0))))), (10, .int (iI ((((rest).tdiv (((g : Nat) : Int))) + 0)))), (6, .int (iI (((g : Nat) : Int)))), (5, .int (iI (((fr : Nat) : Int)))), (4, .int (iI (((so : Nat) : Int)))), (0, .ref (ad (3))), (1, .int (iI (((a : Nat) : Int)))), (2, .int (iI (((b : Nat) : Int)))), (3, .int (iI (rest)))]) hx hb d_LN_widenGaps_166 hl (k := 3) rfl (by omega) (by decide) rfl (fun ls hl => ?_)
            refine lv_goto (tgt := 84) hx hb d_LN_widenGaps_169 (by decide) ?_
            have hF : q_wg (M 7) so each f (k + 1) (rem - 1) (mv + (each + if 0 < rem then 1 else 0)) (mset (mset Mc 24 k (Mc 24 k + mv)) 25 k (Mc 25 k + (each + if 0 < rem then 1 else 0))) = MF := by rw [← he]; conv => rhs; unfold q_wg; rw [if_pos ⟨by omega, by rw [← g7, ← q7]; exact c_122⟩]
            rw [if_neg (by omega)] at hF
            have hMM : M_2 = mset (mset Mc 24 k (Mc 24 k + mv)) 25 k (Mc 25 k + (each + 0)) := by rw [eM_2, q25, heach, eM_1]
            rw [← hMM] at hF
            exact ih (k + 1) (rem - 1) (mv + (each + 0)) M_2 (by omega) (by omega) (by omega) (by omega) (by rw [hMM]; exact eqb_set (eqb_set hsm (by omega) (by omega)) (by omega) (by omega)) hF H locs ls hP hD hS (by rw [heach] at hl; exact lv_sub hl [0, 2, 1, 4, 5, 6, 7, 8, 9, 10] rfl)
          · refine z_iconst hx hb (z := 1) d_LN_widenGaps_134 ?_
            refine lv_goto (tgt := 139) hx hb d_LN_widenGaps_135 (by decide) ?_
            refine z_iadd hx hb d_LN_widenGaps_139 (v := (((rest).tdiv (((g : Nat) : Int))) + 1)) rfl ?_
            refine lv_istore (lv' := [(10, .int (iI ((((rest).tdiv (((g : Nat) : Int))) + 1)))), (9, .int (iI (((k : Nat) : Int)))), (8, .int (iI (mv))), (7, .int (iI (rem))), (6, .int (iI (((g : Nat) : Int)))), (5, .int (iI (((fr : Nat) : Int)))), (4, .int (iI (((so : Nat) : Int)))), (0, .ref (ad (3))), (1, .int (iI (((a : Nat) : Int)))), (2, .int (iI (((b : Nat) : Int)))), (3, .int (iI (rest)))]) hx hb d_LN_widenGaps_140 hl (by decide) rfl (fun ls hl => ?_)
            refine lv_aload_n hx hb d_LN_widenGaps_142 rfl (lv_at hl 7 rfl) ?_
            refine z_get (ci := 3) (C := R_LN) (T := T_LN) (N := 6) (v := .ref (ad (11))) hx hb hg in_LN hown hK hP (3) (by decide) rfl rfl 1 (by decide) (hg _ (List.mem_append_right _ (List.mem_append_right _ (List.mem_append_right _ (List.mem_append_right _ (List.mem_append_left _ (List.mem_of_getElem? (i := 6) rfl))))))) (fun _ h9 => h9) rfl d_LN_widenGaps_143 ?_
            refine z_iconst hx hb (z := 2) d_LN_widenGaps_146 ?_
            refine z_aald hx hb hK hP (11) 1 (by decide) (fun _ => rfl) rfl rfl (2) rfl (by decide) (by decide) d_LN_widenGaps_147 ?_
            refine lv_iload hx hb d_LN_widenGaps_148 (lv_at hl 1 rfl) ?_
            refine lv_dup2_11 hx hb d_LN_widenGaps_150 rfl rfl ?_
            refine z_iald hx hb hK hP (25) 0 (by decide) (fun _ => rfl) rfl (k) rfl (by omega) (by decide) d_LN_widenGaps_151 ?_
            refine lv_iload hx hb d_LN_widenGaps_152 (lv_at hl 0 rfl) ?_
            refine z_iadd hx hb d_LN_widenGaps_154 (v := (M_1 (25) (k) + (((rest).tdiv (((g : Nat) : Int))) + 1))) rfl ?_
            refine z_iast hx hb hK hP hD hS (25) 0 (by decide) (fun _ => rfl) rfl (v := (M_1 (25) (k) + (((rest).tdiv (((g : Nat) : Int))) + 1))) (k) rfl (by omega) (by decide) d_LN_widenGaps_155 (fun H locs hP hD hS => ?_)
            obtain ⟨M_3, eM_3⟩ : ∃ q_, q_ = mset M_1 (25) (k) ((M_1 (25) (k) + (((rest).tdiv (((g : Nat) : Int))) + 1))) := ⟨_, rfl⟩
            have hP : va_P D vwCl (pg_w ad cs rp M_3) H := by rw [eM_3]; exact hP
            have hD : va_D A (pg_w ad cs rp M_3) := by rw [eM_3]; exact hD
            refine lv_iload hx hb d_LN_widenGaps_156 (lv_at hl 2 rfl) ?_
            refine lv_iload hx hb d_LN_widenGaps_158 (lv_at hl 0 rfl) ?_
            refine z_iadd hx hb d_LN_widenGaps_160 (v := (mv + (((rest).tdiv (((g : Nat) : Int))) + 1))) rfl ?_
            refine lv_istore (lv' := [(8, .int (iI ((mv + (((rest).tdiv (((g : Nat) : Int))) + 1))))), (10, .int (iI ((((rest).tdiv (((g : Nat) : Int))) + 1)))), (9, .int (iI (((k : Nat) : Int)))), (7, .int (iI (rem))), (6, .int (iI (((g : Nat) : Int)))), (5, .int (iI (((fr : Nat) : Int)))), (4, .int (iI (((so : Nat) : Int)))), (0, .ref (ad (3))), (1, .int (iI (((a : Nat) : Int)))), (2, .int (iI (((b : Nat) : Int)))), (3, .int (iI (rest)))]) hx hb d_LN_widenGaps_161 hl (by decide) rfl (fun ls hl => ?_)
            refine z_iinc (v := (rem - 1)) (lv' := [(7, .int (iI ((rem - 1)))), (8, .int (iI ((mv + (((rest).tdiv (((g : Nat) : Int))) + 1))))), (10, .int (iI ((((rest).tdiv (((g : Nat) : Int))) + 1)))), (9, .int (iI (((k : Nat) : Int)))), (6, .int (iI (((g : Nat) : Int)))), (5, .int (iI (((fr : Nat) : Int)))), (4, .int (iI (((so : Nat) : Int)))), (0, .ref (ad (3))), (1, .int (iI (((a : Nat) : Int)))), (2, .int (iI (((b : Nat) : Int)))), (3, .int (iI (rest)))]) hx hb d_LN_widenGaps_163 hl (k := 3) rfl (by omega) (by decide) rfl (fun ls hl => ?_)
            refine z_iinc (v := ((k + 1 : Nat) : Int)) (lv' := [(9, .int (iI (((k + 1 : Nat) : Int)))), (7, .int (iI ((rem - 1)))), (8, .int (iI ((mv + (((rest).tdiv (((g : Nat) : Int))) + 1))))), (10, .int (iI ((((rest).tdiv (((g : Nat) : Int))) + 1)))), (6, .int (iI (((g : Nat) : Int)))), (5, .int (iI (((fr : Nat) : Int)))), (4, .int (iI (((so : Nat) : Int)))), (0, .ref (ad (3))), (1, .int (iI (((a : Nat) : Int)))), (2, .int (iI (((b : Nat) : Int)))), (3, .int (iI (rest)))]) hx hb d_LN_widenGaps_166 hl (k := 3) rfl (by omega) (by decide) rfl (fun ls hl => ?_)
            refine lv_goto (tgt := 84) hx hb d_LN_widenGaps_169 (by decide) ?_
            have hF : q_wg (M 7) so each f (k + 1) (rem - 1) (mv + (each + if 0 < rem then 1 else 0)) (mset (mset Mc 24 k (Mc 24 k + mv)) 25 k (Mc 25 k + (each + if 0 < rem then 1 else 0))) = MF := by rw [← he]; conv => rhs; unfold q_wg; rw [if_pos ⟨by omega, by rw [← g7, ← q7]; exact c_122⟩]
            rw [if_pos (by omega)] at hF
            have hMM : M_3 = mset (mset Mc 24 k (Mc 24 k + mv)) 25 k (Mc 25 k + (each + 1)) := by rw [eM_3, q25, heach, eM_1]
            rw [← hMM] at hF
            exact ih (k + 1) (rem - 1) (mv + (each + 1)) M_3 (by omega) (by omega) (by omega) (by omega) (by rw [hMM]; exact eqb_set (eqb_set hsm (by omega) (by omega)) (by omega) (by omega)) hF H locs ls hP hD hS (by rw [heach] at hl; exact lv_sub hl [0, 2, 1, 4, 5, 6, 7, 8, 9, 10] rfl)
set_option maxHeartbeats 4000000 in
set_option maxRecDepth 100000 in
/-- Lines.widenGaps -/
theorem c_widenGaps (l : Launch) {D : va_G} {ad : Nat → Nat} {cs : pg_C} {rp : Option Nat} {M : Nat → Nat → Int} (sz : Nat) (a b : Nat) (rest : Int) (hab : a ≤ b) (hb6 : b ≤ 600) (ht : wfT M) (hre : 0 ≤ rest ∧ rest ≤ 30000) : Met l y_LN_widenGaps ws_LN_widenGaps ({ frames := 2, cells := 0, slots := 0, locals := 44 } : Room) (va_Pc [.ref (ad (3)), .int (iI (((a : Nat) : Int))), .int (iI (((b : Nat) : Int))), .int (iI (rest))] (rw_B D vwCl (pg_tys cs) (pg_w ad cs rp M) sz)) (va_Qi (fun (r : Int32) (_ : Unit) => r = iI (q_wgV M a b rest)) (rw_E D vwCl (pg_tys cs) (pg_w ad cs rp M) (pg_w ad cs rp (q_wgM M a b rest)) sz) (va_A (pg_w ad cs rp M) sz)) 0 0 (va_A (pg_w ad cs rp M) sz) := by
  refine Met.ofW (cc := b_LN_widenGaps) (maxL := 11) (ret := (some .int)) (by decide) rfl ?_
  intro p e s m args below meth c s₁ B hml hv
  obtain ⟨rfl, hsz, hP, hK, hD0⟩ := hv
  have hx := B.exec
  have hb := B.bytes
  have hr := B.returns
  have hts := atoms_spec (ws := ws_LN_widenGaps) B.pre
  have hg : ∀ w ∈ gt, w.before _ s = true := fun w h => hts w (List.mem_cons_of_mem _ h)
  have hown : s.vm.findClass R_LN = some m.cls := findClass_of_methodNamed B.named
  have hlocks := B.notSynchronized
  subst hsz
  have hD := hD0.self (sz := s.heap.size)
  have hA : ∀ q : Nat, s.heap.size ≤ q → va_A (pg_w ad cs rp M) s.heap.size q := fun q h => Or.inr h
  have hS : va_S (va_A (pg_w ad cs rp M) s.heap.size) s.heap s.heap [] := va_S.rf
  have hl := lv_entry ([.ref (ad (3)), .int (iI (((a : Nat) : Int))), .int (iI (((b : Nat) : Int))), .int (iI (rest))]) (n := 11) (Nat.le_of_ble_eq_true rfl)
  rw [lg_entry_eq]
  generalize (lg_sl ([.ref (ad (3)), .int (iI (((a : Nat) : Int))), .int (iI (((b : Nat) : Int))), .int (iI (rest))]) ++ List.replicate (11 - (lg_sl ([.ref (ad (3)), .int (iI (((a : Nat) : Int))), .int (iI (((b : Nat) : Int))), .int (iI (rest))])).length) Slot.unset).toArray = ls at hl ⊢
  have hl : lv_has ls 11 [(0, .ref (ad (3))), (1, .int (iI (((a : Nat) : Int)))), (2, .int (iI (((b : Nat) : Int)))), (3, .int (iI (rest)))] := hl
  obtain ⟨so, eso⟩ : ∃ q_, q_ = p_solid (M 7) a b := ⟨_, rfl⟩
  have hso : so ≤ 600 := by have := p_solid_le (M 7) a b; omega
  obtain ⟨fr, efr⟩ : ∃ q_, q_ = p_blt (M 7) a b := ⟨_, rfl⟩
  have hfr : fr ≤ 600 := by have := p_blt_le (M 7) a b; omega
  have hfr2 : fr ≤ b := by have := p_blt_le (M 7) a b; omega
  obtain ⟨g, eg⟩ : ∃ q_, q_ = q_gc (M 7) (so - fr) fr 0 := ⟨_, rfl⟩
  have hg6 : g ≤ 600 := by have := q_gc_le (M 7) (so - fr) fr 0; omega
  refine lv_aload_n hx hb d_LN_widenGaps_0 rfl (lv_at hl 0 rfl) ?_
  refine z_get (ci := 3) (C := R_LN) (T := T_LN) (N := 6) (v := .ref (ad (1))) hx hb hg in_LN hown hK hP (3) (by decide) rfl rfl 3 (by decide) (hg _ (List.mem_append_right _ (List.mem_append_right _ (List.mem_append_right _ (List.mem_append_right _ (List.mem_append_left _ (List.mem_of_getElem? (i := 11) rfl))))))) (fun _ h9 => h9) rfl d_LN_widenGaps_1 ?_
  refine lv_iload_n hx hb d_LN_widenGaps_4 rfl (lv_at hl 1 rfl) ?_
  refine lv_iload_n hx hb d_LN_widenGaps_5 rfl (lv_at hl 2 rfl) ?_
  refine ro_V (As := [.int (iI (((a : Nat) : Int))), .int (iI (((b : Nat) : Int)))]) (rest := []) (z := ((so : Nat) : Int)) ⟨hx, hb, hml, hown, hg⟩ (eso ▸ c_solidBehind l a b (by omega) hb6 (zb_7 ht)) (cwV 2 hg (gt_V (List.mem_append_right _ (List.mem_append_right _ (List.mem_append_right _ (List.mem_append_right _ (List.mem_append_right _ (List.mem_append_left _ (List.mem_of_getElem? (i := 33) rfl))))))) (List.mem_append_right _ (List.mem_append_right _ (List.mem_append_right _ (List.mem_append_right _ (List.mem_append_right _ (List.mem_append_left _ (List.mem_of_getElem? (i := 34) rfl))))))) (List.mem_append_right _ (List.mem_append_right _ (List.mem_append_right _ (List.mem_append_right _ (List.mem_append_right _ (List.mem_append_left _ (List.mem_of_getElem? (i := 35) rfl))))))) (List.mem_append_right _ (List.mem_append_left _ (List.mem_of_getElem? (i := 3) rfl))) (List.mem_append_right _ (List.mem_append_right _ (List.mem_append_right _ (List.mem_append_right _ (List.mem_append_right _ (List.mem_append_left _ (List.mem_of_getElem? (i := 36) rfl)))))))) rfl rfl rfl (by decide +kernel) ⟨Nat.le_of_ble_eq_true rfl, Nat.le_of_ble_eq_true rfl⟩) hK hP (va_recv hK hP (ci := 1) (q0 := 1) rfl (wl_atE (by decide) rfl)) rfl hl.1 rfl (Nat.le_of_ble_eq_true rfl) d_LN_widenGaps_6 ⟨Nat.zero_le _, Nat.zero_le _⟩ ?_
  refine lv_istore (lv' := [(4, .int (iI (((so : Nat) : Int)))), (0, .ref (ad (3))), (1, .int (iI (((a : Nat) : Int)))), (2, .int (iI (((b : Nat) : Int)))), (3, .int (iI (rest)))]) hx hb d_LN_widenGaps_9 hl (by decide) rfl (fun ls hl => ?_)
  refine lv_aload_n hx hb d_LN_widenGaps_11 rfl (lv_at hl 1 rfl) ?_
  refine lv_iload_n hx hb d_LN_widenGaps_12 rfl (lv_at hl 2 rfl) ?_
  refine lv_iload_n hx hb d_LN_widenGaps_13 rfl (lv_at hl 3 rfl) ?_
  refine ro_V (As := [.int (iI (((a : Nat) : Int))), .int (iI (((b : Nat) : Int)))]) (rest := []) (z := ((fr : Nat) : Int)) ⟨hx, hb, hml, hown, hg⟩ (efr ▸ c_signBehindLastTab l a b (by omega) hb6 ht) (cwV 2 hg (gt_V (List.mem_append_right _ (List.mem_append_right _ (List.mem_append_right _ (List.mem_append_right _ (List.mem_append_right _ (List.mem_append_right _ (List.mem_append_left _ (List.mem_of_getElem? (i := 36) rfl)))))))) (List.mem_append_right _ (List.mem_append_right _ (List.mem_append_right _ (List.mem_append_right _ (List.mem_append_right _ (List.mem_append_right _ (List.mem_append_left _ (List.mem_of_getElem? (i := 37) rfl)))))))) (List.mem_append_left _ (List.mem_of_getElem? (i := 9) rfl)) (List.mem_append_right _ (List.mem_append_left _ (List.mem_of_getElem? (i := 6) rfl))) (List.mem_append_right _ (List.mem_append_right _ (List.mem_append_right _ (List.mem_append_right _ (List.mem_append_right _ (List.mem_append_right _ (List.mem_append_left _ (List.mem_of_getElem? (i := 38) rfl))))))))) rfl rfl rfl (by decide +kernel) ⟨Nat.le_of_ble_eq_true rfl, Nat.le_of_ble_eq_true rfl⟩) hK hP (va_recv hK hP (ci := 3) (q0 := 3) rfl (wl_atE (by decide) rfl)) rfl hl.1 rfl (Nat.le_of_ble_eq_true rfl) d_LN_widenGaps_14 ⟨Nat.zero_le _, Nat.zero_le _⟩ ?_
  refine lv_istore (lv' := [(5, .int (iI (((fr : Nat) : Int)))), (4, .int (iI (((so : Nat) : Int)))), (0, .ref (ad (3))), (1, .int (iI (((a : Nat) : Int)))), (2, .int (iI (((b : Nat) : Int)))), (3, .int (iI (rest)))]) hx hb d_LN_widenGaps_17 hl (by decide) rfl (fun ls hl => ?_)
  refine z_iconst hx hb (z := 0) d_LN_widenGaps_19 ?_
  refine lv_istore (lv' := [(6, .int (iI (0))), (5, .int (iI (((fr : Nat) : Int)))), (4, .int (iI (((so : Nat) : Int)))), (0, .ref (ad (3))), (1, .int (iI (((a : Nat) : Int)))), (2, .int (iI (((b : Nat) : Int)))), (3, .int (iI (rest)))]) hx hb d_LN_widenGaps_20 hl (by decide) rfl (fun ls hl => ?_)
  refine lv_iload hx hb d_LN_widenGaps_22 (lv_at hl 1 rfl) ?_
  refine lv_istore (lv' := [(7, .int (iI (((fr : Nat) : Int)))), (6, .int (iI (0))), (5, .int (iI (((fr : Nat) : Int)))), (4, .int (iI (((so : Nat) : Int)))), (0, .ref (ad (3))), (1, .int (iI (((a : Nat) : Int)))), (2, .int (iI (((b : Nat) : Int)))), (3, .int (iI (rest)))]) hx hb d_LN_widenGaps_24 hl (by decide) rfl (fun ls hl => ?_)
  refine lp_widenGaps1 hx hb hml hg hown hK hP a b so fr g rest hso ht (fun ls hl => ?_) (so - fr) fr 0 ls (by omega) hfr eg.symm (lv_sub hl [0, 1, 2, 3, 4, 5, 6, 7] rfl)
  refine lv_iload hx hb d_LN_widenGaps_63 (lv_at hl 0 rfl) ?_
  refine z_iconst hx hb (z := 1) d_LN_widenGaps_65 ?_
  refine z_icmp_ge hx hb (tgt := 71) d_LN_widenGaps_66 (by decide) ⟨by omega, by omega⟩ ⟨by decide, by decide⟩ (fun c_66 => ?_) (fun c_66 => ?_)
  · refine lv_iload_n hx hb d_LN_widenGaps_71 rfl (lv_at hl 6 rfl) ?_
    refine lv_iload hx hb d_LN_widenGaps_72 (lv_at hl 0 rfl) ?_
    refine z_irem hx hb d_LN_widenGaps_74 ⟨by omega, by omega⟩ ⟨by omega, by omega⟩ (by omega) (v := (rest - (rest).tdiv (((g : Nat) : Int)) * ((g : Nat) : Int))) rfl ?_
    refine lv_istore (lv' := [(7, .int (iI ((rest - (rest).tdiv (((g : Nat) : Int)) * ((g : Nat) : Int))))), (6, .int (iI (((g : Nat) : Int)))), (5, .int (iI (((fr : Nat) : Int)))), (4, .int (iI (((so : Nat) : Int)))), (0, .ref (ad (3))), (1, .int (iI (((a : Nat) : Int)))), (2, .int (iI (((b : Nat) : Int)))), (3, .int (iI (rest)))]) hx hb d_LN_widenGaps_75 hl (by decide) rfl (fun ls hl => ?_)
    refine z_iconst hx hb (z := 0) d_LN_widenGaps_77 ?_
    refine lv_istore (lv' := [(8, .int (iI (0))), (7, .int (iI ((rest - (rest).tdiv (((g : Nat) : Int)) * ((g : Nat) : Int))))), (6, .int (iI (((g : Nat) : Int)))), (5, .int (iI (((fr : Nat) : Int)))), (4, .int (iI (((so : Nat) : Int)))), (0, .ref (ad (3))), (1, .int (iI (((a : Nat) : Int)))), (2, .int (iI (((b : Nat) : Int)))), (3, .int (iI (rest)))]) hx hb d_LN_widenGaps_78 hl (by decide) rfl (fun ls hl => ?_)
    refine lv_iload hx hb d_LN_widenGaps_80 (lv_at hl 3 rfl) ?_
    refine lv_istore (lv' := [(9, .int (iI (((fr : Nat) : Int)))), (8, .int (iI (0))), (7, .int (iI ((rest - (rest).tdiv (((g : Nat) : Int)) * ((g : Nat) : Int))))), (6, .int (iI (((g : Nat) : Int)))), (5, .int (iI (((fr : Nat) : Int)))), (4, .int (iI (((so : Nat) : Int)))), (0, .ref (ad (3))), (1, .int (iI (((a : Nat) : Int)))), (2, .int (iI (((b : Nat) : Int)))), (3, .int (iI (rest)))]) hx hb d_LN_widenGaps_82 hl (by decide) rfl (fun ls hl => ?_)
    have hrm := q_rem (r := rest) (g := g) (by omega) (by omega)
    refine lp_widenGaps2 hx hb hml hg hown hK hA a b so fr g rest (rest.tdiv ((g : Nat) : Int)) hso hb6 (by omega) hg6 hre rfl ht (q_wgM M a b rest) (fun H locs ls hP hD hS hl => ?_) (b - fr) fr (rest - rest.tdiv ((g : Nat) : Int) * ((g : Nat) : Int)) 0 M (by omega) hfr (by omega) (by omega) eqb_rf (by unfold q_wgM; rw [← eso, ← efr, ← eg, if_neg (by omega)]) s.heap [] ls hP hD hS (lv_sub hl [0, 1, 2, 3, 4, 5, 6, 7, 8, 9] rfl)
    refine lv_iload_n hx hb d_LN_widenGaps_172 rfl (lv_at hl 0 rfl) ?_
    have hM : q_wgM M a b rest = q_wgM M a b rest := rfl
    have eW : pg_w ad cs rp (q_wgM M a b rest) = pg_w ad cs rp (q_wgM M a b rest) := by rw [hM]
    have hP := Eq.mp (congrArg (fun q => va_P D vwCl q _) eW) hP
    have hD := Eq.mp (congrArg (va_D _) eW) hD
    exact W.iret (v := iI (rest)) hx hb hr (fun t ht hW => ⟨⟨_, (), rfl, by unfold q_wgV; rw [← eso, ← efr, ← eg, if_neg (by omega)], by rw [ht]; exact hP, va_K.moved hW.alike hK, hD⟩, hS.F ht⟩) hS.2.2 d_LN_widenGaps_173
  · refine z_iconst hx hb (z := 0) d_LN_widenGaps_69 ?_
    have hM : M = q_wgM M a b rest := by unfold q_wgM; rw [← eso, ← efr, ← eg, if_pos (by omega)]
    have eW : pg_w ad cs rp (M) = pg_w ad cs rp (q_wgM M a b rest) := congrArg (pg_w ad cs rp) hM
    have hP := Eq.mp (congrArg (fun q => va_P D vwCl q _) eW) hP
    have hD := Eq.mp (congrArg (va_D _) eW) hD
    exact W.iret (v := iI (0)) hx hb hr (fun t ht hW => ⟨⟨_, (), rfl, by unfold q_wgV; rw [← eso, ← efr, ← eg, if_pos (by omega)], by rw [ht]; exact hP, va_K.moved hW.alike hK, hD⟩, hS.F ht⟩) hS.2.2 d_LN_widenGaps_70
