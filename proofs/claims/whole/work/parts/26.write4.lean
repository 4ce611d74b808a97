set_option maxHeartbeats 4000000 in
set_option maxRecDepth 100000 in
theorem lp_align {p : Program} {l : Launch} {e : Env} {s : State} {m : MethodId} {args : Array Value} {below : List Frame} {meth : Method} {c : Code} {Q : State → Prop} {A : Nat → Prop} {H0 : Heap} {D : va_G} {ad : Nat → Nat} {cs : pg_C} {rp : Option Nat} (hx : p.tables.exec = Jvm.exec) (hb : c.code = b_LN_align) (hml : c.maxLocals = 9) (hg : ∀ w ∈ gt, w.before args s = true) (hown : s.vm.findClass R_LN = some m.cls) (hK : va_K D vwCl (pg_tys cs) s) (hA : ∀ q, H0.size ≤ q → A q) (i a b : Nat) (mv wi : Int) (hb6 : b ≤ 600) (MF : Nat → Nat → Int) (kk : ∀ (H : Heap) (locs : List Loc) (ls : Array Slot), va_P D vwCl (pg_w ad cs rp MF) H → va_D A (pg_w ad cs rp MF) → va_S A H0 H locs → lv_has ls 9 [(7, .int (iI wi)), (6, .int (iI mv)), (0, .ref (ad 3))] → W p l e ({ frames := 3, cells := 0, slots := 0, locals := 74 } : Room) s m args below meth c H locs 0 0 Q (F0 m 140 ls [])) : ∀ (f k : Nat) (Mc : Nat → Nat → Int), (k + f = b ∨ (f = 0 ∧ b ≤ k)) → k ≤ 600 → q_mv mv f k Mc = MF → ∀ (H : Heap) (locs : List Loc) (ls : Array Slot), va_P D vwCl (pg_w ad cs rp Mc) H → va_D A (pg_w ad cs rp Mc) → va_S A H0 H locs → lv_has ls 9 [(8, .int (iI (((k : Nat) : Int)))), (7, .int (iI (wi))), (6, .int (iI (mv))), (0, .ref (ad (3))), (1, .ref (ad (29 + 4 * i))), (2, .int (iI (((a : Nat) : Int)))), (3, .int (iI (((b : Nat) : Int))))] → W p l e ({ frames := 3, cells := 0, slots := 0, locals := 74 } : Room) s m args below meth c H locs 0 0 Q (F0 m 114 ls []) := by
  intro f
  induction f with
  | zero =>
    intro k Mc hkf hk6 he H locs ls hP hD hS hl
    refine lv_iload hx hb d_LN_align_114 (lv_at hl 0 rfl) ?_
    refine lv_iload_n hx hb d_LN_align_116 rfl (lv_at hl 6 rfl) ?_
    refine z_icmp_ge hx hb (tgt := 140) d_LN_align_117 (by decide) ⟨by omega, by omega⟩ ⟨by omega, by omega⟩ (fun c_117 => ?_) (fun c_117 => ?_)
    · have he : Mc = MF := he
      subst he
      exact kk H locs ls hP hD hS (lv_sub hl [1, 2, 3] rfl)
    · exact absurd c_117 (by omega)
  | succ f ih =>
    intro k Mc hkf hk6 he H locs ls hP hD hS hl
    refine lv_iload hx hb d_LN_align_114 (lv_at hl 0 rfl) ?_
    refine lv_iload_n hx hb d_LN_align_116 rfl (lv_at hl 6 rfl) ?_
    refine z_icmp_ge hx hb (tgt := 140) d_LN_align_117 (by decide) ⟨by omega, by omega⟩ ⟨by omega, by omega⟩ (fun c_117 => ?_) (fun c_117 => ?_)
    · exact absurd c_117 (by omega)
    · refine lv_aload_n hx hb d_LN_align_120 rfl (lv_at hl 3 rfl) ?_
      refine z_get (ci := 3) (C := R_LN) (T := T_LN) (N := 6) (v := .ref (ad (11))) hx hb hg in_LN hown hK hP (3) (by decide) rfl rfl 1 (by decide) (hg _ (List.mem_append_right _ (List.mem_append_right _ (List.mem_append_right _ (List.mem_append_right _ (List.mem_append_left _ (List.mem_of_getElem? (i := 6) rfl))))))) (fun _ h9 => h9) rfl d_LN_align_121 ?_
      refine z_iconst hx hb (z := 1) d_LN_align_124 ?_
      refine z_aald hx hb hK hP (11) 1 (by decide) (fun _ => rfl) rfl rfl (1) rfl (by decide) (by decide) d_LN_align_125 ?_
      refine lv_iload hx hb d_LN_align_126 (lv_at hl 0 rfl) ?_
      refine lv_dup2_11 hx hb d_LN_align_128 rfl rfl ?_
      refine z_iald hx hb hK hP (24) 0 (by decide) (fun _ => rfl) rfl (k) rfl (by omega) (by decide) d_LN_align_129 ?_
      refine lv_iload hx hb d_LN_align_130 (lv_at hl 2 rfl) ?_
      refine z_iadd hx hb d_LN_align_132 (v := (Mc (24) (k) + mv)) rfl ?_
      refine z_iast hx hb hK hP hD hS (24) 0 (by decide) (fun _ => rfl) rfl (v := (Mc (24) (k) + mv)) (k) rfl (by omega) (by decide) d_LN_align_133 (fun H locs hP hD hS => ?_)
      obtain ⟨M_1, eM_1⟩ : ∃ q_, q_ = mset Mc (24) (k) ((Mc (24) (k) + mv)) := ⟨_, rfl⟩
      have hP : va_P D vwCl (pg_w ad cs rp M_1) H := by rw [eM_1]; exact hP
      have hD : va_D A (pg_w ad cs rp M_1) := by rw [eM_1]; exact hD
      refine z_iinc (v := ((k + 1 : Nat) : Int)) (lv' := [(8, .int (iI (((k + 1 : Nat) : Int)))), (7, .int (iI (wi))), (6, .int (iI (mv))), (0, .ref (ad (3))), (1, .ref (ad (29 + 4 * i))), (2, .int (iI (((a : Nat) : Int)))), (3, .int (iI (((b : Nat) : Int))))]) hx hb d_LN_align_134 hl (k := 0) rfl (by omega) (by decide) rfl (fun ls hl => ?_)
      refine lv_goto (tgt := 114) hx hb d_LN_align_137 (by decide) ?_
      exact ih (k + 1) M_1 (by omega) (by omega) (by rw [← he, eM_1]; rfl) H locs ls hP hD hS (lv_sub hl [0, 1, 2, 3, 4, 5, 6] rfl)
set_option maxHeartbeats 4000000 in
set_option maxRecDepth 100000 in
/-- Lines.align -/
theorem c_align (l : Launch) {D : va_G} {ad : Nat → Nat} {cs : pg_C} {rp : Option Nat} {M : Nat → Nat → Int} (sz : Nat) (i a b bp nl : Nat) (hi : i < 30) (hab : a ≤ b) (hb6 : b ≤ 600) (hbp : bp ≤ 600) (hb1 : b < bp → 1 ≤ b) (ht : wfT M) (hbe : M (29 + 4 * i) 5 = ((bp : Nat) : Int)) (hn : M 3 2 = ((nl : Nat) : Int)) (hn6 : nl < 630) (h1 : 0 ≤ M (30 + 4 * i) 1 ∧ M (30 + 4 * i) 1 ≤ 5000) (h5 : 0 ≤ M (30 + 4 * i) 5 ∧ M (30 + 4 * i) 5 ≤ 3) (h17 : 0 ≤ M 17 nl ∧ M 17 nl ≤ 37000000) : Met l y_LN_align ws_LN_align ({ frames := 3, cells := 0, slots := 0, locals := 74 } : Room) (va_Pc [.ref (ad (3)), .ref (ad (29 + 4 * i)), .int (iI (((a : Nat) : Int))), .int (iI (((b : Nat) : Int)))] (rw_B D vwCl (pg_tys cs) (pg_w ad cs rp M) sz)) (va_Qv (fun _ : Unit => True) (rw_E D vwCl (pg_tys cs) (pg_w ad cs rp M) (pg_w ad cs rp (q_al M i a b bp nl)) sz) (va_A (pg_w ad cs rp M) sz)) 0 0 (va_A (pg_w ad cs rp M) sz) := by
  refine Met.ofW (cc := b_LN_align) (maxL := 9) (ret := none) (by decide) rfl ?_
  intro p e s m args below meth c s₁ B hml hv
  obtain ⟨rfl, hsz, hP, hK, hD0⟩ := hv
  have hx := B.exec
  have hb := B.bytes
  have hr := B.returns
  have hts := atoms_spec (ws := ws_LN_align) B.pre
  have hg : ∀ w ∈ gt, w.before _ s = true := fun w h => hts w (List.mem_cons_of_mem _ h)
  have hown : s.vm.findClass R_LN = some m.cls := findClass_of_methodNamed B.named
  have hlocks := B.notSynchronized
  subst hsz
  have hD := hD0.self (sz := s.heap.size)
  have hA : ∀ q : Nat, s.heap.size ≤ q → va_A (pg_w ad cs rp M) s.heap.size q := fun q h => Or.inr h
  have hS : va_S (va_A (pg_w ad cs rp M) s.heap.size) s.heap s.heap [] := va_S.rf
  have hl := lv_entry ([.ref (ad (3)), .ref (ad (29 + 4 * i)), .int (iI (((a : Nat) : Int))), .int (iI (((b : Nat) : Int)))]) (n := 9) (Nat.le_of_ble_eq_true rfl)
  rw [lg_entry_eq]
  generalize (lg_sl ([.ref (ad (3)), .ref (ad (29 + 4 * i)), .int (iI (((a : Nat) : Int))), .int (iI (((b : Nat) : Int)))]) ++ List.replicate (9 - (lg_sl ([.ref (ad (3)), .ref (ad (29 + 4 * i)), .int (iI (((a : Nat) : Int))), .int (iI (((b : Nat) : Int)))])).length) Slot.unset).toArray = ls at hl ⊢
  have hl : lv_has ls 9 [(0, .ref (ad (3))), (1, .ref (ad (29 + 4 * i))), (2, .int (iI (((a : Nat) : Int)))), (3, .int (iI (((b : Nat) : Int))))] := hl
  obtain ⟨rs, ers⟩ : ∃ q_, q_ = q_rest M i nl := ⟨_, rfl⟩
  have hrs := q_restb (i := i) (nl := nl) ht h1.1 h17.1
  rw [← ers] at hrs
  have hw20 := ht.2.2.2.1
  have hr2 : 0 ≤ rs.tdiv 2 := by rw [Int.tdiv_eq_ediv_of_nonneg (by omega)]; omega
  refine z_iconst hx hb (z := 0) d_LN_align_0 ?_
  refine lv_aload_n hx hb d_LN_align_1 rfl (lv_at hl 0 rfl) ?_
  refine z_get (ci := 3) (C := R_LN) (T := T_LN) (N := 6) (v := .ref (ad (2))) hx hb hg in_LN hown hK hP (3) (by decide) rfl rfl 4 (by decide) (hg _ (List.mem_append_right _ (List.mem_append_right _ (List.mem_append_right _ (List.mem_append_right _ (List.mem_append_left _ (List.mem_of_getElem? (i := 12) rfl))))))) (fun _ h9 => h9) rfl d_LN_align_2 ?_
  refine z_get (ci := 2) (C := R_SH) (T := T_SH) (N := 3) (v := .int (iI (M (2) 0))) hx hb hg in_SH hown hK hP (2) (by decide) rfl rfl 0 (by decide) (hg _ (List.mem_append_right _ (List.mem_append_right _ (List.mem_append_right _ (List.mem_append_left _ (List.mem_of_getElem? (i := 4) rfl)))))) (fun _ h9 => h9) rfl d_LN_align_5 ?_
  refine lv_aload_n hx hb d_LN_align_8 rfl (lv_at hl 1 rfl) ?_
  refine z_get (ci := 6) (C := R_PA) (T := T_PA) (N := 6) (v := .ref (ad (30 + 4 * i))) hx hb hg in_PA hown hK hP (29 + 4 * i) (by omega) (pg_par _ _ _ _ _) rfl 0 (by decide) (hg _ (List.mem_append_right _ (List.mem_append_left _ (List.mem_of_getElem? (i := 38) rfl)))) (fun _ h9 => h9) rfl d_LN_align_9 ?_
  refine z_iconst hx hb (z := 1) d_LN_align_12 ?_
  refine z_iald hx hb hK hP (30 + 4 * i) 0 (by omega) (fun r => pg_shp _ _ _ _ r) rfl (1) rfl (by decide) (by decide) d_LN_align_13 ?_
  refine z_isub hx hb d_LN_align_14 (v := (M (2) 0 - M (30 + 4 * i) (1))) rfl ?_
  refine lv_aload_n hx hb d_LN_align_15 rfl (lv_at hl 0 rfl) ?_
  refine z_get (ci := 3) (C := R_LN) (T := T_LN) (N := 6) (v := .ref (ad (10))) hx hb hg in_LN hown hK hP (3) (by decide) rfl rfl 0 (by decide) (hg _ (List.mem_append_right _ (List.mem_append_right _ (List.mem_append_right _ (List.mem_append_right _ (List.mem_append_left _ (List.mem_of_getElem? (i := 3) rfl))))))) (fun _ h9 => h9) rfl d_LN_align_16 ?_
  refine z_iconst hx hb (z := 4) d_LN_align_19 ?_
  refine z_aald hx hb hK hP (10) 1 (by decide) (fun _ => rfl) rfl rfl (4) rfl (by decide) (by decide) d_LN_align_20 ?_
  refine lv_aload_n hx hb d_LN_align_21 rfl (lv_at hl 0 rfl) ?_
  refine z_get (ci := 3) (C := R_LN) (T := T_LN) (N := 6) (v := .int (iI (M (3) 2))) hx hb hg in_LN hown hK hP (3) (by decide) rfl rfl 2 (by decide) (hg _ (List.mem_append_right _ (List.mem_append_right _ (List.mem_append_right _ (List.mem_append_right _ (List.mem_append_left _ (List.mem_of_getElem? (i := 8) rfl))))))) (fun _ h9 => h9) rfl d_LN_align_22 ?_
  refine z_iald hx hb hK hP (17) 0 (by decide) (fun _ => rfl) rfl (nl) hn (by omega) (by decide) d_LN_align_25 ?_
  refine z_isub hx hb d_LN_align_26 (v := ((M (2) 0 - M (30 + 4 * i) (1)) - M (17) (nl))) rfl ?_
  refine z_mmax hx hb (hml.trans hl.1.symm) hown (hg _ (List.mem_append_right _ (List.mem_append_right _ (List.mem_append_right _ (List.mem_append_right _ (List.mem_append_right _ (List.mem_append_left _ (List.mem_of_getElem? (i := 27) rfl)))))))) (hg _ (List.mem_append_right _ (List.mem_append_right _ (List.mem_append_right _ (List.mem_append_right _ (List.mem_append_right _ (List.mem_append_left _ (List.mem_of_getElem? (i := 28) rfl)))))))) (hg _ (List.mem_append_right _ (List.mem_append_left _ (List.mem_of_getElem? (i := 17) rfl)))) (hg _ (List.mem_append_right _ (List.mem_append_right _ (List.mem_append_right _ (List.mem_append_right _ (List.mem_append_right _ (List.mem_append_left _ (List.mem_of_getElem? (i := 29) rfl)))))))) (Nat.le_of_ble_eq_true rfl) (Nat.le_of_ble_eq_true rfl) (Nat.zero_le _) (Nat.zero_le _) ⟨by decide, by decide⟩ ⟨by omega, by omega⟩ d_LN_align_27 (v := rs) (by rw [ers]; rfl) ?_
  refine lv_istore (lv' := [(4, .int (iI (rs))), (0, .ref (ad (3))), (1, .ref (ad (29 + 4 * i))), (2, .int (iI (((a : Nat) : Int)))), (3, .int (iI (((b : Nat) : Int))))]) hx hb d_LN_align_30 hl (by decide) rfl (fun ls hl => ?_)
  refine lv_aload_n hx hb d_LN_align_32 rfl (lv_at hl 2 rfl) ?_
  refine z_get (ci := 6) (C := R_PA) (T := T_PA) (N := 6) (v := .ref (ad (30 + 4 * i))) hx hb hg in_PA hown hK hP (29 + 4 * i) (by omega) (pg_par _ _ _ _ _) rfl 0 (by decide) (hg _ (List.mem_append_right _ (List.mem_append_left _ (List.mem_of_getElem? (i := 38) rfl)))) (fun _ h9 => h9) rfl d_LN_align_33 ?_
  refine z_iconst hx hb (z := 5) d_LN_align_36 ?_
  refine z_iald hx hb hK hP (30 + 4 * i) 0 (by omega) (fun r => pg_shp _ _ _ _ r) rfl (5) rfl (by decide) (by decide) d_LN_align_37 ?_
  refine lv_istore (lv' := [(5, .int (iI (M (30 + 4 * i) (5)))), (4, .int (iI (rs))), (0, .ref (ad (3))), (1, .ref (ad (29 + 4 * i))), (2, .int (iI (((a : Nat) : Int)))), (3, .int (iI (((b : Nat) : Int))))]) hx hb d_LN_align_38 hl (by decide) rfl (fun ls hl => ?_)
  refine z_iconst hx hb (z := 0) d_LN_align_40 ?_
  refine lv_istore (lv' := [(6, .int (iI (0))), (5, .int (iI (M (30 + 4 * i) (5)))), (4, .int (iI (rs))), (0, .ref (ad (3))), (1, .ref (ad (29 + 4 * i))), (2, .int (iI (((a : Nat) : Int)))), (3, .int (iI (((b : Nat) : Int))))]) hx hb d_LN_align_41 hl (by decide) rfl (fun ls hl => ?_)
  refine z_iconst hx hb (z := 0) d_LN_align_43 ?_
  refine lv_istore (lv' := [(7, .int (iI (0))), (6, .int (iI (0))), (5, .int (iI (M (30 + 4 * i) (5)))), (4, .int (iI (rs))), (0, .ref (ad (3))), (1, .ref (ad (29 + 4 * i))), (2, .int (iI (((a : Nat) : Int)))), (3, .int (iI (((b : Nat) : Int))))]) hx hb d_LN_align_44 hl (by decide) rfl (fun ls hl => ?_)
  refine lv_iload hx hb d_LN_align_46 (lv_at hl 2 rfl) ?_
  refine z_iconst hx hb (z := 1) d_LN_align_48 ?_
  refine z_icmp_ne hx hb (tgt := 59) d_LN_align_49 (by decide) ⟨by omega, by omega⟩ ⟨by decide, by decide⟩ (fun c_49 => ?_) (fun c_49 => ?_)
  · refine lv_iload hx hb d_LN_align_59 (lv_at hl 2 rfl) ?_
    refine z_iconst hx hb (z := 2) d_LN_align_61 ?_
    refine z_icmp_ne hx hb (tgt := 74) d_LN_align_62 (by decide) ⟨by omega, by omega⟩ ⟨by decide, by decide⟩ (fun c_62 => ?_) (fun c_62 => ?_)
    · refine lv_iload hx hb d_LN_align_74 (lv_at hl 2 rfl) ?_
      refine z_iconst hx hb (z := 3) d_LN_align_76 ?_
      refine z_icmp_ne hx hb (tgt := 111) d_LN_align_77 (by decide) ⟨by omega, by omega⟩ ⟨by decide, by decide⟩ (fun c_77 => ?_) (fun c_77 => ?_)
      · refine lv_iload_n hx hb d_LN_align_111 rfl (lv_at hl 6 rfl) ?_
        refine lv_istore (lv' := [(8, .int (iI (((a : Nat) : Int)))), (7, .int (iI (0))), (6, .int (iI (0))), (5, .int (iI (M (30 + 4 * i) (5)))), (4, .int (iI (rs))), (0, .ref (ad (3))), (1, .ref (ad (29 + 4 * i))), (2, .int (iI (((a : Nat) : Int)))), (3, .int (iI (((b : Nat) : Int))))]) hx hb d_LN_align_112 hl (by decide) rfl (fun ls hl => ?_)
        obtain ⟨MF_1, eMF_1⟩ : ∃ q_, q_ = q_mv (0) (b - a) a M := ⟨_, rfl⟩
        refine lp_align hx hb hml hg hown hK hA i a b (0) (0) hb6 MF_1 (fun H locs ls hP hD hS hl => ?_) (b - a) a M (by omega) (by omega) eMF_1.symm s.heap [] ls hP hD hS (lv_sub hl [0, 1, 2, 5, 6, 7, 8] rfl)
        have hn3 : MF_1 3 2 = ((nl : Nat) : Int) := by rw [eMF_1, q_mv_eq _ _ _ _ 3 (by omega)]; exact hn
        refine lv_aload_n hx hb d_LN_align_140 rfl (lv_at hl 2 rfl) ?_
        refine z_get (ci := 3) (C := R_LN) (T := T_LN) (N := 6) (v := .ref (ad (10))) hx hb hg in_LN hown hK hP (3) (by decide) rfl rfl 0 (by decide) (hg _ (List.mem_append_right _ (List.mem_append_right _ (List.mem_append_right _ (List.mem_append_right _ (List.mem_append_left _ (List.mem_of_getElem? (i := 3) rfl))))))) (fun _ h9 => h9) rfl d_LN_align_141 ?_
        refine z_bipush hx hb (z := 8) d_LN_align_144 (by decide) ?_
        refine z_aald hx hb hK hP (10) 1 (by decide) (fun _ => rfl) rfl rfl (8) rfl (by decide) (by decide) d_LN_align_146 ?_
        refine lv_aload_n hx hb d_LN_align_147 rfl (lv_at hl 2 rfl) ?_
        refine z_get (ci := 3) (C := R_LN) (T := T_LN) (N := 6) (v := .int (iI (MF_1 (3) 2))) hx hb hg in_LN hown hK hP (3) (by decide) rfl rfl 2 (by decide) (hg _ (List.mem_append_right _ (List.mem_append_right _ (List.mem_append_right _ (List.mem_append_right _ (List.mem_append_left _ (List.mem_of_getElem? (i := 8) rfl))))))) (fun _ h9 => h9) rfl d_LN_align_148 ?_
        refine lv_iload hx hb d_LN_align_151 (lv_at hl 1 rfl) ?_
        refine z_iast hx hb hK hP hD hS (21) 0 (by decide) (fun _ => rfl) rfl (v := 0) (nl) hn3 (by omega) (by decide) d_LN_align_153 (fun H locs hP hD hS => ?_)
        obtain ⟨M_2, eM_2⟩ : ∃ q_, q_ = mset MF_1 (21) (nl) (0) := ⟨_, rfl⟩
        have hP : va_P D vwCl (pg_w ad cs rp M_2) H := by rw [eM_2]; exact hP
        have hD : va_D (va_A (pg_w ad cs rp M) s.heap.size) (pg_w ad cs rp M_2) := by rw [eM_2]; exact hD
        have hn4 : M_2 3 2 = ((nl : Nat) : Int) := by rw [eM_2, mset_ne (by omega)]; exact hn3
        refine lv_aload_n hx hb d_LN_align_154 rfl (lv_at hl 2 rfl) ?_
        refine z_get (ci := 3) (C := R_LN) (T := T_LN) (N := 6) (v := .ref (ad (10))) hx hb hg in_LN hown hK hP (3) (by decide) rfl rfl 0 (by decide) (hg _ (List.mem_append_right _ (List.mem_append_right _ (List.mem_append_right _ (List.mem_append_right _ (List.mem_append_left _ (List.mem_of_getElem? (i := 3) rfl))))))) (fun _ h9 => h9) rfl d_LN_align_155 ?_
        refine z_bipush hx hb (z := 9) d_LN_align_158 (by decide) ?_
        refine z_aald hx hb hK hP (10) 1 (by decide) (fun _ => rfl) rfl rfl (9) rfl (by decide) (by decide) d_LN_align_160 ?_
        refine lv_aload_n hx hb d_LN_align_161 rfl (lv_at hl 2 rfl) ?_
        refine z_get (ci := 3) (C := R_LN) (T := T_LN) (N := 6) (v := .int (iI (M_2 (3) 2))) hx hb hg in_LN hown hK hP (3) (by decide) rfl rfl 2 (by decide) (hg _ (List.mem_append_right _ (List.mem_append_right _ (List.mem_append_right _ (List.mem_append_right _ (List.mem_append_left _ (List.mem_of_getElem? (i := 8) rfl))))))) (fun _ h9 => h9) rfl d_LN_align_162 ?_
        refine lv_iload hx hb d_LN_align_165 (lv_at hl 0 rfl) ?_
        refine z_iast hx hb hK hP hD hS (22) 0 (by decide) (fun _ => rfl) rfl (v := 0) (nl) hn4 (by omega) (by decide) d_LN_align_167 (fun H locs hP hD hS => ?_)
        obtain ⟨M_3, eM_3⟩ : ∃ q_, q_ = mset M_2 (22) (nl) (0) := ⟨_, rfl⟩
        have hP : va_P D vwCl (pg_w ad cs rp M_3) H := by rw [eM_3]; exact hP
        have hD : va_D (va_A (pg_w ad cs rp M) s.heap.size) (pg_w ad cs rp M_3) := by rw [eM_3]; exact hD
        have hM : M_3 = q_al M i a b bp nl := by rw [eM_3, eM_2, eMF_1]; unfold q_al; rw [← ers]; rw [if_neg c_49, if_neg c_62, if_neg (fun h => c_77 h.1)]
        have eW : pg_w ad cs rp (M_3) = pg_w ad cs rp (q_al M i a b bp nl) := by rw [hM]
        have hP := Eq.mp (congrArg (fun q => va_P D vwCl q _) eW) hP
        have hD := Eq.mp (congrArg (va_D _) eW) hD
        exact W.vret hx hb hr (fun t ht hW => ⟨⟨(), rfl, trivial, by rw [ht]; exact hP, va_K.moved hW.alike hK, hD⟩, hS.F ht⟩) hS.2.2 d_LN_align_168
      · refine lv_iload_n hx hb d_LN_align_80 rfl (lv_at hl 7 rfl) ?_
        refine lv_aload_n hx hb d_LN_align_81 rfl (lv_at hl 5 rfl) ?_
        refine z_get (ci := 6) (C := R_PA) (T := T_PA) (N := 6) (v := .int (iI (M (29 + 4 * i) 5))) hx hb hg in_PA hown hK hP (29 + 4 * i) (by omega) (pg_par _ _ _ _ _) rfl 5 (by decide) (hg _ (List.mem_append_right _ (List.mem_append_right _ (List.mem_append_left _ (List.mem_of_getElem? (i := 8) rfl))))) (fun _ h9 => h9) rfl d_LN_align_82 ?_
        refine z_icmp_ge hx hb (tgt := 111) d_LN_align_85 (by decide) ⟨by omega, by omega⟩ ⟨by omega, by omega⟩ (fun c_85 => ?_) (fun c_85 => ?_)
        · refine lv_iload_n hx hb d_LN_align_111 rfl (lv_at hl 6 rfl) ?_
          refine lv_istore (lv' := [(8, .int (iI (((a : Nat) : Int)))), (7, .int (iI (0))), (6, .int (iI (0))), (5, .int (iI (M (30 + 4 * i) (5)))), (4, .int (iI (rs))), (0, .ref (ad (3))), (1, .ref (ad (29 + 4 * i))), (2, .int (iI (((a : Nat) : Int)))), (3, .int (iI (((b : Nat) : Int))))]) hx hb d_LN_align_112 hl (by decide) rfl (fun ls hl => ?_)
          obtain ⟨MF_4, eMF_4⟩ : ∃ q_, q_ = q_mv (0) (b - a) a M := ⟨_, rfl⟩
          refine lp_align hx hb hml hg hown hK hA i a b (0) (0) hb6 MF_4 (fun H locs ls hP hD hS hl => ?_) (b - a) a M (by omega) (by omega) eMF_4.symm s.heap [] ls hP hD hS (lv_sub hl [0, 1, 2, 5, 6, 7, 8] rfl)
          have hn3 : MF_4 3 2 = ((nl : Nat) : Int) := by rw [eMF_4, q_mv_eq _ _ _ _ 3 (by omega)]; exact hn
          refine lv_aload_n hx hb d_LN_align_140 rfl (lv_at hl 2 rfl) ?_
          refine z_get (ci := 3) (C := R_LN) (T := T_LN) (N := 6) (v := .ref (ad (10))) hx hb hg in_LN hown hK hP (3) (by decide) rfl rfl 0 (by decide) (hg _ (List.mem_append_right _ (List.mem_append_right _ (List.mem_append_right _ (List.mem_append_right _ (List.mem_append_left _ (List.mem_of_getElem? (i := 3) rfl))))))) (fun _ h9 => h9) rfl d_LN_align_141 ?_
          refine z_bipush hx hb (z := 8) d_LN_align_144 (by decide) ?_
          refine z_aald hx hb hK hP (10) 1 (by decide) (fun _ => rfl) rfl rfl (8) rfl (by decide) (by decide) d_LN_align_146 ?_
          refine lv_aload_n hx hb d_LN_align_147 rfl (lv_at hl 2 rfl) ?_
          refine z_get (ci := 3) (C := R_LN) (T := T_LN) (N := 6) (v := .int (iI (MF_4 (3) 2))) hx hb hg in_LN hown hK hP (3) (by decide) rfl rfl 2 (by decide) (hg _ (List.mem_append_right _ (List.mem_append_right _ (List.mem_append_right _ (List.mem_append_right _ (List.mem_append_left _ (List.mem_of_getElem? (i := 8) rfl))))))) (fun _ h9 => h9) rfl d_LN_align_148 ?_
          refine lv_iload hx hb d_LN_align_151 (lv_at hl 1 rfl) ?_
          refine z_iast hx hb hK hP hD hS (21) 0 (by decide) (fun _ => rfl) rfl (v := 0) (nl) hn3 (by omega) (by decide) d_LN_align_153 (fun H locs hP hD hS => ?_)
          obtain ⟨M_5, eM_5⟩ : ∃ q_, q_ = mset MF_4 (21) (nl) (0) := ⟨_, rfl⟩
          have hP : va_P D vwCl (pg_w ad cs rp M_5) H := by rw [eM_5]; exact hP
          have hD : va_D (va_A (pg_w ad cs rp M) s.heap.size) (pg_w ad cs rp M_5) := by rw [eM_5]; exact hD
          have hn4 : M_5 3 2 = ((nl : Nat) : Int) := by rw [eM_5, mset_ne (by omega)]; exact hn3
          refine lv_aload_n hx hb d_LN_align_154 rfl (lv_at hl 2 rfl) ?_
          refine z_get (ci := 3) (C := R_LN) (T := T_LN) (N := 6) (v := .ref (ad (10))) hx hb hg in_LN hown hK hP (3) (by decide) rfl rfl 0 (by decide) (hg _ (List.mem_append_right _ (List.mem_append_right _ (List.mem_append_right _ (List.mem_append_right _ (List.mem_append_left _ (List.mem_of_getElem? (i := 3) rfl))))))) (fun _ h9 => h9) rfl d_LN_align_155 ?_
          refine z_bipush hx hb (z := 9) d_LN_align_158 (by decide) ?_
          refine z_aald hx hb hK hP (10) 1 (by decide) (fun _ => rfl) rfl rfl (9) rfl (by decide) (by decide) d_LN_align_160 ?_
          refine lv_aload_n hx hb d_LN_align_161 rfl (lv_at hl 2 rfl) ?_
          refine z_get (ci := 3) (C := R_LN) (T := T_LN) (N := 6) (v := .int (iI (M_5 (3) 2))) hx hb hg in_LN hown hK hP (3) (by decide) rfl rfl 2 (by decide) (hg _ (List.mem_append_right _ (List.mem_append_right _ (List.mem_append_right _ (List.mem_append_right _ (List.mem_append_left _ (List.mem_of_getElem? (i := 8) rfl))))))) (fun _ h9 => h9) rfl d_LN_align_162 ?_
          refine lv_iload hx hb d_LN_align_165 (lv_at hl 0 rfl) ?_
          refine z_iast hx hb hK hP hD hS (22) 0 (by decide) (fun _ => rfl) rfl (v := 0) (nl) hn4 (by omega) (by decide) d_LN_align_167 (fun H locs hP hD hS => ?_)
          obtain ⟨M_6, eM_6⟩ : ∃ q_, q_ = mset M_5 (22) (nl) (0) := ⟨_, rfl⟩
          have hP : va_P D vwCl (pg_w ad cs rp M_6) H := by rw [eM_6]; exact hP
          have hD : va_D (va_A (pg_w ad cs rp M) s.heap.size) (pg_w ad cs rp M_6) := by rw [eM_6]; exact hD
          have hM : M_6 = q_al M i a b bp nl := by rw [eM_6, eM_5, eMF_4]; unfold q_al; rw [← ers]; rw [if_neg c_49, if_neg c_62, if_neg (fun h => by omega)]
          have eW : pg_w ad cs rp (M_6) = pg_w ad cs rp (q_al M i a b bp nl) := by rw [hM]
          have hP := Eq.mp (congrArg (fun q => va_P D vwCl q _) eW) hP
          have hD := Eq.mp (congrArg (va_D _) eW) hD
          exact W.vret hx hb hr (fun t ht hW => ⟨⟨(), rfl, trivial, by rw [ht]; exact hP, va_K.moved hW.alike hK, hD⟩, hS.F ht⟩) hS.2.2 d_LN_align_168
        · refine lv_aload_n hx hb d_LN_align_88 rfl (lv_at hl 4 rfl) ?_
          refine z_get (ci := 3) (C := R_LN) (T := T_LN) (N := 6) (v := .ref (ad (1))) hx hb hg in_LN hown hK hP (3) (by decide) rfl rfl 3 (by decide) (hg _ (List.mem_append_right _ (List.mem_append_right _ (List.mem_append_right _ (List.mem_append_right _ (List.mem_append_left _ (List.mem_of_getElem? (i := 11) rfl))))))) (fun _ h9 => h9) rfl d_LN_align_89 ?_
          refine lv_iload_n hx hb d_LN_align_92 rfl (lv_at hl 7 rfl) ?_
          refine z_iconst hx hb (z := 1) d_LN_align_93 ?_
          refine z_isub hx hb d_LN_align_94 (v := ((b - 1 : Nat) : Int)) (by omega) ?_
          refine ro_V (As := [.int (iI (((b - 1 : Nat) : Int)))]) (rest := []) (z := bz (p_endl (M 7) (b - 1)) inferInstance) ⟨hx, hb, hml, hown, hg⟩ (c_endsLine l (b - 1) (by omega) (zb_7 ht)) (cwV 1 hg (gt_V (List.mem_append_right _ (List.mem_append_right _ (List.mem_append_right _ (List.mem_append_right _ (List.mem_append_right _ (List.mem_append_right _ (List.mem_append_left _ (List.mem_of_getElem? (i := 32) rfl)))))))) (List.mem_append_right _ (List.mem_append_right _ (List.mem_append_right _ (List.mem_append_right _ (List.mem_append_right _ (List.mem_append_left _ (List.mem_of_getElem? (i := 38) rfl))))))) (List.mem_append_right _ (List.mem_append_right _ (List.mem_append_right _ (List.mem_append_right _ (List.mem_append_right _ (List.mem_append_left _ (List.mem_of_getElem? (i := 39) rfl))))))) (List.mem_append_right _ (List.mem_append_left _ (List.mem_of_getElem? (i := 3) rfl))) (List.mem_append_right _ (List.mem_append_right _ (List.mem_append_right _ (List.mem_append_right _ (List.mem_append_right _ (List.mem_append_right _ (List.mem_append_left _ (List.mem_of_getElem? (i := 0) rfl))))))))) rfl rfl rfl (by decide +kernel) ⟨Nat.le_of_ble_eq_true rfl, Nat.le_of_ble_eq_true rfl⟩) hK hP (va_recv hK hP (ci := 1) (q0 := 1) rfl (wl_atE (by decide) rfl)) rfl hl.1 rfl (Nat.le_of_ble_eq_true rfl) d_LN_align_95 ⟨Nat.zero_le _, Nat.zero_le _⟩ ?_
          refine z_ifb_ne hx hb (tgt := 111) d_LN_align_98 (by decide) (fun c_98 => ?_) (fun c_98 => ?_)
          · refine lv_iload_n hx hb d_LN_align_111 rfl (lv_at hl 6 rfl) ?_
            refine lv_istore (lv' := [(8, .int (iI (((a : Nat) : Int)))), (7, .int (iI (0))), (6, .int (iI (0))), (5, .int (iI (M (30 + 4 * i) (5)))), (4, .int (iI (rs))), (0, .ref (ad (3))), (1, .ref (ad (29 + 4 * i))), (2, .int (iI (((a : Nat) : Int)))), (3, .int (iI (((b : Nat) : Int))))]) hx hb d_LN_align_112 hl (by decide) rfl (fun ls hl => ?_)
            obtain ⟨MF_7, eMF_7⟩ : ∃ q_, q_ = q_mv (0) (b - a) a M := ⟨_, rfl⟩
            refine lp_align hx hb hml hg hown hK hA i a b (0) (0) hb6 MF_7 (fun H locs ls hP hD hS hl => ?_) (b - a) a M (by omega) (by omega) eMF_7.symm s.heap [] ls hP hD hS (lv_sub hl [0, 1, 2, 5, 6, 7, 8] rfl)
            have hn3 : MF_7 3 2 = ((nl : Nat) : Int) := by rw [eMF_7, q_mv_eq _ _ _ _ 3 (by omega)]; exact hn
            refine lv_aload_n hx hb d_LN_align_140 rfl (lv_at hl 2 rfl) ?_
            refine z_get (ci := 3) (C := R_LN) (T := T_LN) (N := 6) (v := .ref (ad (10))) hx hb hg in_LN hown hK hP (3) (by decide) rfl rfl 0 (by decide) (hg _ (List.mem_append_right _ (List.mem_append_right _ (List.mem_append_right _ (List.mem_append_right _ (List.mem_append_left _ (List.mem_of_getElem? (i := 3) rfl))))))) (fun _ h9 => h9) rfl d_LN_align_141 ?_
            refine z_bipush hx hb (z := 8) d_LN_align_144 (by decide) ?_
            refine z_aald hx hb hK hP (10) 1 (by decide) (fun _ => rfl) rfl rfl (8) rfl (by decide) (by decide) d_LN_align_146 ?_
            refine lv_aload_n hx hb d_LN_align_147 rfl (lv_at hl 2 rfl) ?_
            refine z_get (ci := 3) (C := R_LN) (T := T_LN) (N := 6) (v := .int (iI (MF_7 (3) 2))) hx hb hg in_LN hown hK hP (3) (by decide) rfl rfl 2 (by decide) (hg _ (List.mem_append_right _ (List.mem_append_right _ (List.mem_append_right _ (List.mem_append_right _ (List.mem_append_left _ (List.mem_of_getElem? (i := 8) rfl))))))) (fun _ h9 => h9) rfl d_LN_align_148 ?_
            refine lv_iload hx hb d_LN_align_151 (lv_at hl 1 rfl) ?_
            refine z_iast hx hb hK hP hD hS (21) 0 (by decide) (fun _ => rfl) rfl (v := 0) (nl) hn3 (by omega) (by decide) d_LN_align_153 (fun H locs hP hD hS => ?_)
            obtain ⟨M_8, eM_8⟩ : ∃ q_, q_ = mset MF_7 (21) (nl) (0) := ⟨_, rfl⟩
            have hP : va_P D vwCl (pg_w ad cs rp M_8) H := by rw [eM_8]; exact hP
            have hD : va_D (va_A (pg_w ad cs rp M) s.heap.size) (pg_w ad cs rp M_8) := by rw [eM_8]; exact hD
            have hn4 : M_8 3 2 = ((nl : Nat) : Int) := by rw [eM_8, mset_ne (by omega)]; exact hn3
            refine lv_aload_n hx hb d_LN_align_154 rfl (lv_at hl 2 rfl) ?_
            refine z_get (ci := 3) (C := R_LN) (T := T_LN) (N := 6) (v := .ref (ad (10))) hx hb hg in_LN hown hK hP (3) (by decide) rfl rfl 0 (by decide) (hg _ (List.mem_append_right _ (List.mem_append_right _ (List.mem_append_right _ (List.mem_append_right _ (List.mem_append_left _ (List.mem_of_getElem? (i := 3) rfl))))))) (fun _ h9 => h9) rfl d_LN_align_155 ?_
            refine z_bipush hx hb (z := 9) d_LN_align_158 (by decide) ?_
            refine z_aald hx hb hK hP (10) 1 (by decide) (fun _ => rfl) rfl rfl (9) rfl (by decide) (by decide) d_LN_align_160 ?_
            refine lv_aload_n hx hb d_LN_align_161 rfl (lv_at hl 2 rfl) ?_
            refine z_get (ci := 3) (C := R_LN) (T := T_LN) (N := 6) (v := .int (iI (M_8 (3) 2))) hx hb hg in_LN hown hK hP (3) (by decide) rfl rfl 2 (by decide) (hg _ (List.mem_append_right _ (List.mem_append_right _ (List.mem_append_right _ (List.mem_append_right _ (List.mem_append_left _ (List.mem_of_getElem? (i := 8) rfl))))))) (fun _ h9 => h9) rfl d_LN_align_162 ?_
            refine lv_iload hx hb d_LN_align_165 (lv_at hl 0 rfl) ?_
            refine z_iast hx hb hK hP hD hS (22) 0 (by decide) (fun _ => rfl) rfl (v := 0) (nl) hn4 (by omega) (by decide) d_LN_align_167 (fun H locs hP hD hS => ?_)
            obtain ⟨M_9, eM_9⟩ : ∃ q_, q_ = mset M_8 (22) (nl) (0) := ⟨_, rfl⟩
            have hP : va_P D vwCl (pg_w ad cs rp M_9) H := by rw [eM_9]; exact hP
            have hD : va_D (va_A (pg_w ad cs rp M) s.heap.size) (pg_w ad cs rp M_9) := by rw [eM_9]; exact hD
            have hM : M_9 = q_al M i a b bp nl := by rw [eM_9, eM_8, eMF_7]; unfold q_al; rw [← ers]; rw [if_neg c_49, if_neg c_62, if_neg (fun h => h.2.2 c_98)]
            have eW : pg_w ad cs rp (M_9) = pg_w ad cs rp (q_al M i a b bp nl) := by rw [hM]
            have hP := Eq.mp (congrArg (fun q => va_P D vwCl q _) eW) hP
            have hD := Eq.mp (congrArg (va_D _) eW) hD
            exact W.vret hx hb hr (fun t ht hW => ⟨⟨(), rfl, trivial, by rw [ht]; exact hP, va_K.moved hW.alike hK, hD⟩, hS.F ht⟩) hS.2.2 d_LN_align_168
          · refine lv_aload_n hx hb d_LN_align_101 rfl (lv_at hl 4 rfl) ?_
            refine lv_iload_n hx hb d_LN_align_102 rfl (lv_at hl 6 rfl) ?_
            refine lv_iload_n hx hb d_LN_align_103 rfl (lv_at hl 7 rfl) ?_
            refine lv_iload hx hb d_LN_align_104 (lv_at hl 3 rfl) ?_
            refine rw_Vi (As := [.int (iI (((a : Nat) : Int))), .int (iI (((b : Nat) : Int))), .int (iI (rs))]) (rest := []) (w' := (pg_w ad cs rp (q_wgM M a b rs))) (z := q_wgV M a b rs) ⟨hx, hb, hml, hown, hg⟩ (c_widenGaps l _ a b rs hab hb6 ht hrs) (cwV 3 hg (gt_V (List.mem_append_right _ (List.mem_append_right _ (List.mem_append_right _ (List.mem_append_right _ (List.mem_append_right _ (List.mem_append_right _ (List.mem_append_left _ (List.mem_of_getElem? (i := 33) rfl)))))))) (List.mem_append_right _ (List.mem_append_right _ (List.mem_append_right _ (List.mem_append_right _ (List.mem_append_right _ (List.mem_append_right _ (List.mem_append_left _ (List.mem_of_getElem? (i := 34) rfl)))))))) (List.mem_append_left _ (List.mem_of_getElem? (i := 8) rfl)) (List.mem_append_right _ (List.mem_append_left _ (List.mem_of_getElem? (i := 6) rfl))) (List.mem_append_right _ (List.mem_append_right _ (List.mem_append_right _ (List.mem_append_right _ (List.mem_append_right _ (List.mem_append_right _ (List.mem_append_left _ (List.mem_of_getElem? (i := 35) rfl))))))))) rfl rfl rfl (by decide +kernel) ⟨Nat.le_of_ble_eq_true rfl, Nat.le_of_ble_eq_true rfl⟩) hK hP hD hS hA (va_recv hK hP (ci := 3) (q0 := 3) rfl (wl_atE (by decide) rfl)) rfl hl.1 rfl (Nat.le_of_ble_eq_true rfl) d_LN_align_106 ⟨Nat.zero_le _, Nat.zero_le _⟩ (fun H locs hP hD hS => ?_)
            obtain ⟨M_10, eM_10⟩ : ∃ q_, q_ = q_wgM M a b rs := ⟨_, rfl⟩
            have hP : va_P D vwCl (pg_w ad cs rp M_10) H := by rw [eM_10]; exact hP
            have hD : va_D (va_A (pg_w ad cs rp M) s.heap.size) (pg_w ad cs rp M_10) := by rw [eM_10]; exact hD
            refine lv_istore (lv' := [(7, .int (iI (q_wgV M a b rs))), (6, .int (iI (0))), (5, .int (iI (M (30 + 4 * i) (5)))), (4, .int (iI (rs))), (0, .ref (ad (3))), (1, .ref (ad (29 + 4 * i))), (2, .int (iI (((a : Nat) : Int)))), (3, .int (iI (((b : Nat) : Int))))]) hx hb d_LN_align_109 hl (by decide) rfl (fun ls hl => ?_)
            refine lv_iload_n hx hb d_LN_align_111 rfl (lv_at hl 6 rfl) ?_
            refine lv_istore (lv' := [(8, .int (iI (((a : Nat) : Int)))), (7, .int (iI (q_wgV M a b rs))), (6, .int (iI (0))), (5, .int (iI (M (30 + 4 * i) (5)))), (4, .int (iI (rs))), (0, .ref (ad (3))), (1, .ref (ad (29 + 4 * i))), (2, .int (iI (((a : Nat) : Int)))), (3, .int (iI (((b : Nat) : Int))))]) hx hb d_LN_align_112 hl (by decide) rfl (fun ls hl => ?_)
            obtain ⟨MF_11, eMF_11⟩ : ∃ q_, q_ = q_mv (0) (b - a) a M_10 := ⟨_, rfl⟩
            refine lp_align hx hb hml hg hown hK hA i a b (0) (q_wgV M a b rs) hb6 MF_11 (fun H locs ls hP hD hS hl => ?_) (b - a) a M_10 (by omega) (by omega) eMF_11.symm H locs ls hP hD hS (lv_sub hl [0, 1, 2, 5, 6, 7, 8] rfl)
            have hn3 : MF_11 3 2 = ((nl : Nat) : Int) := by rw [eMF_11, q_mv_eq _ _ _ _ 3 (by omega), eM_10, q_wgM_eq _ _ _ _ 3 (by omega)]; exact hn
            refine lv_aload_n hx hb d_LN_align_140 rfl (lv_at hl 2 rfl) ?_
            refine z_get (ci := 3) (C := R_LN) (T := T_LN) (N := 6) (v := .ref (ad (10))) hx hb hg in_LN hown hK hP (3) (by decide) rfl rfl 0 (by decide) (hg _ (List.mem_append_right _ (List.mem_append_right _ (List.mem_append_right _ (List.mem_append_right _ (List.mem_append_left _ (List.mem_of_getElem? (i := 3) rfl))))))) (fun _ h9 => h9) rfl d_LN_align_141 ?_
            refine z_bipush hx hb (z := 8) d_LN_align_144 (by decide) ?_
            refine z_aald hx hb hK hP (10) 1 (by decide) (fun _ => rfl) rfl rfl (8) rfl (by decide) (by decide) d_LN_align_146 ?_
            refine lv_aload_n hx hb d_LN_align_147 rfl (lv_at hl 2 rfl) ?_
            refine z_get (ci := 3) (C := R_LN) (T := T_LN) (N := 6) (v := .int (iI (MF_11 (3) 2))) hx hb hg in_LN hown hK hP (3) (by decide) rfl rfl 2 (by decide) (hg _ (List.mem_append_right _ (List.mem_append_right _ (List.mem_append_right _ (List.mem_append_right _ (List.mem_append_left _ (List.mem_of_getElem? (i := 8) rfl))))))) (fun _ h9 => h9) rfl d_LN_align_148 ?_
            refine lv_iload hx hb d_LN_align_151 (lv_at hl 1 rfl) ?_
            refine z_iast hx hb hK hP hD hS (21) 0 (by decide) (fun _ => rfl) rfl (v := 0) (nl) hn3 (by omega) (by decide) d_LN_align_153 (fun H locs hP hD hS => ?_)
            obtain ⟨M_12, eM_12⟩ : ∃ q_, q_ = mset MF_11 (21) (nl) (0) := ⟨_, rfl⟩
            have hP : va_P D vwCl (pg_w ad cs rp M_12) H := by rw [eM_12]; exact hP
            have hD : va_D (va_A (pg_w ad cs rp M) s.heap.size) (pg_w ad cs rp M_12) := by rw [eM_12]; exact hD
            have hn4 : M_12 3 2 = ((nl : Nat) : Int) := by rw [eM_12, mset_ne (by omega)]; exact hn3
            refine lv_aload_n hx hb d_LN_align_154 rfl (lv_at hl 2 rfl) ?_
            refine z_get (ci := 3) (C := R_LN) (T := T_LN) (N := 6) (v := .ref (ad (10))) hx hb hg in_LN hown hK hP (3) (by decide) rfl rfl 0 (by decide) (hg _ (List.mem_append_right _ (List.mem_append_right _ (List.mem_append_right _ (List.mem_append_right _ (List.mem_append_left _ (List.mem_of_getElem? (i := 3) rfl))))))) (fun _ h9 => h9) rfl d_LN_align_155 ?_
            refine z_bipush hx hb (z := 9) d_LN_align_158 (by decide) ?_
            refine z_aald hx hb hK hP (10) 1 (by decide) (fun _ => rfl) rfl rfl (9) rfl (by decide) (by decide) d_LN_align_160 ?_
            refine lv_aload_n hx hb d_LN_align_161 rfl (lv_at hl 2 rfl) ?_
            refine z_get (ci := 3) (C := R_LN) (T := T_LN) (N := 6) (v := .int (iI (M_12 (3) 2))) hx hb hg in_LN hown hK hP (3) (by decide) rfl rfl 2 (by decide) (hg _ (List.mem_append_right _ (List.mem_append_right _ (List.mem_append_right _ (List.mem_append_right _ (List.mem_append_left _ (List.mem_of_getElem? (i := 8) rfl))))))) (fun _ h9 => h9) rfl d_LN_align_162 ?_
            refine lv_iload hx hb d_LN_align_165 (lv_at hl 0 rfl) ?_
            refine z_iast hx hb hK hP hD hS (22) 0 (by decide) (fun _ => rfl) rfl (v := q_wgV M a b rs) (nl) hn4 (by omega) (by decide) d_LN_align_167 (fun H locs hP hD hS => ?_)
            obtain ⟨M_13, eM_13⟩ : ∃ q_, q_ = mset M_12 (22) (nl) (q_wgV M a b rs) := ⟨_, rfl⟩
            have hP : va_P D vwCl (pg_w ad cs rp M_13) H := by rw [eM_13]; exact hP
            have hD : va_D (va_A (pg_w ad cs rp M) s.heap.size) (pg_w ad cs rp M_13) := by rw [eM_13]; exact hD
            have hM : M_13 = q_al M i a b bp nl := by rw [eM_13, eM_12, eMF_11, eM_10]; unfold q_al; rw [← ers]; rw [if_neg c_49, if_neg c_62, if_pos ⟨c_77, by omega, c_98⟩]
            have eW : pg_w ad cs rp (M_13) = pg_w ad cs rp (q_al M i a b bp nl) := by rw [hM]
            have hP := Eq.mp (congrArg (fun q => va_P D vwCl q _) eW) hP
            have hD := Eq.mp (congrArg (va_D _) eW) hD
            exact W.vret hx hb hr (fun t ht hW => ⟨⟨(), rfl, trivial, by rw [ht]; exact hP, va_K.moved hW.alike hK, hD⟩, hS.F ht⟩) hS.2.2 d_LN_align_168
    · refine lv_iload hx hb d_LN_align_65 (lv_at hl 3 rfl) ?_
      refine z_iconst hx hb (z := 2) d_LN_align_67 ?_
      refine z_idiv hx hb d_LN_align_68 ⟨by omega, by omega⟩ ⟨by decide, by decide⟩ (by omega) (v := ((rs).tdiv (2))) rfl ?_
      refine lv_istore (lv' := [(6, .int (iI (((rs).tdiv (2))))), (7, .int (iI (0))), (5, .int (iI (M (30 + 4 * i) (5)))), (4, .int (iI (rs))), (0, .ref (ad (3))), (1, .ref (ad (29 + 4 * i))), (2, .int (iI (((a : Nat) : Int)))), (3, .int (iI (((b : Nat) : Int))))]) hx hb d_LN_align_69 hl (by decide) rfl (fun ls hl => ?_)
      refine lv_goto (tgt := 111) hx hb d_LN_align_71 (by decide) ?_
      refine lv_iload_n hx hb d_LN_align_111 rfl (lv_at hl 6 rfl) ?_
      refine lv_istore (lv' := [(8, .int (iI (((a : Nat) : Int)))), (6, .int (iI (((rs).tdiv (2))))), (7, .int (iI (0))), (5, .int (iI (M (30 + 4 * i) (5)))), (4, .int (iI (rs))), (0, .ref (ad (3))), (1, .ref (ad (29 + 4 * i))), (2, .int (iI (((a : Nat) : Int)))), (3, .int (iI (((b : Nat) : Int))))]) hx hb d_LN_align_112 hl (by decide) rfl (fun ls hl => ?_)
      obtain ⟨MF_14, eMF_14⟩ : ∃ q_, q_ = q_mv (((rs).tdiv (2))) (b - a) a M := ⟨_, rfl⟩
      refine lp_align hx hb hml hg hown hK hA i a b (((rs).tdiv (2))) (0) hb6 MF_14 (fun H locs ls hP hD hS hl => ?_) (b - a) a M (by omega) (by omega) eMF_14.symm s.heap [] ls hP hD hS (lv_sub hl [0, 2, 1, 5, 6, 7, 8] rfl)
      have hn3 : MF_14 3 2 = ((nl : Nat) : Int) := by rw [eMF_14, q_mv_eq _ _ _ _ 3 (by omega)]; exact hn
      refine lv_aload_n hx hb d_LN_align_140 rfl (lv_at hl 2 rfl) ?_
      refine z_get (ci := 3) (C := R_LN) (T := T_LN) (N := 6) (v := .ref (ad (10))) hx hb hg in_LN hown hK hP (3) (by decide) rfl rfl 0 (by decide) (hg _ (List.mem_append_right _ (List.mem_append_right _ (List.mem_append_right _ (List.mem_append_right _ (List.mem_append_left _ (List.mem_of_getElem? (i := 3) rfl))))))) (fun _ h9 => h9) rfl d_LN_align_141 ?_
      refine z_bipush hx hb (z := 8) d_LN_align_144 (by decide) ?_
      refine z_aald hx hb hK hP (10) 1 (by decide) (fun _ => rfl) rfl rfl (8) rfl (by decide) (by decide) d_LN_align_146 ?_
      refine lv_aload_n hx hb d_LN_align_147 rfl (lv_at hl 2 rfl) ?_
      refine z_get (ci := 3) (C := R_LN) (T := T_LN) (N := 6) (v := .int (iI (MF_14 (3) 2))) hx hb hg in_LN hown hK hP (3) (by decide) rfl rfl 2 (by decide) (hg _ (List.mem_append_right _ (List.mem_append_right _ (List.mem_append_right _ (List.mem_append_right _ (List.mem_append_left _ (List.mem_of_getElem? (i := 8) rfl))))))) (fun _ h9 => h9) rfl d_LN_align_148 ?_
      refine lv_iload hx hb d_LN_align_151 (lv_at hl 1 rfl) ?_
      refine z_iast hx hb hK hP hD hS (21) 0 (by decide) (fun _ => rfl) rfl (v := ((rs).tdiv (2))) (nl) hn3 (by omega) (by decide) d_LN_align_153 (fun H locs hP hD hS => ?_)
      obtain ⟨M_15, eM_15⟩ : ∃ q_, q_ = mset MF_14 (21) (nl) (((rs).tdiv (2))) := ⟨_, rfl⟩
      have hP : va_P D vwCl (pg_w ad cs rp M_15) H := by rw [eM_15]; exact hP
      have hD : va_D (va_A (pg_w ad cs rp M) s.heap.size) (pg_w ad cs rp M_15) := by rw [eM_15]; exact hD
      have hn4 : M_15 3 2 = ((nl : Nat) : Int) := by rw [eM_15, mset_ne (by omega)]; exact hn3
      refine lv_aload_n hx hb d_LN_align_154 rfl (lv_at hl 2 rfl) ?_
      refine z_get (ci := 3) (C := R_LN) (T := T_LN) (N := 6) (v := .ref (ad (10))) hx hb hg in_LN hown hK hP (3) (by decide) rfl rfl 0 (by decide) (hg _ (List.mem_append_right _ (List.mem_append_right _ (List.mem_append_right _ (List.mem_append_right _ (List.mem_append_left _ (List.mem_of_getElem? (i := 3) rfl))))))) (fun _ h9 => h9) rfl d_LN_align_155 ?_
      refine z_bipush hx hb (z := 9) d_LN_align_158 (by decide) ?_
      refine z_aald hx hb hK hP (10) 1 (by decide) (fun _ => rfl) rfl rfl (9) rfl (by decide) (by decide) d_LN_align_160 ?_
      refine lv_aload_n hx hb d_LN_align_161 rfl (lv_at hl 2 rfl) ?_
      refine z_get (ci := 3) (C := R_LN) (T := T_LN) (N := 6) (v := .int (iI (M_15 (3) 2))) hx hb hg in_LN hown hK hP (3) (by decide) rfl rfl 2 (by decide) (hg _ (List.mem_append_right _ (List.mem_append_right _ (List.mem_append_right _ (List.mem_append_right _ (List.mem_append_left _ (List.mem_of_getElem? (i := 8) rfl))))))) (fun _ h9 => h9) rfl d_LN_align_162 ?_
      refine lv_iload hx hb d_LN_align_165 (lv_at hl 0 rfl) ?_
      refine z_iast hx hb hK hP hD hS (22) 0 (by decide) (fun _ => rfl) rfl (v := 0) (nl) hn4 (by omega) (by decide) d_LN_align_167 (fun H locs hP hD hS => ?_)
      obtain ⟨M_16, eM_16⟩ : ∃ q_, q_ = mset M_15 (22) (nl) (0) := ⟨_, rfl⟩
      have hP : va_P D vwCl (pg_w ad cs rp M_16) H := by rw [eM_16]; exact hP
      have hD : va_D (va_A (pg_w ad cs rp M) s.heap.size) (pg_w ad cs rp M_16) := by rw [eM_16]; exact hD
      have hM : M_16 = q_al M i a b bp nl := by rw [eM_16, eM_15, eMF_14]; unfold q_al; rw [← ers]; rw [if_neg c_49, if_pos c_62]
      have eW : pg_w ad cs rp (M_16) = pg_w ad cs rp (q_al M i a b bp nl) := by rw [hM]
      have hP := Eq.mp (congrArg (fun q => va_P D vwCl q _) eW) hP
      have hD := Eq.mp (congrArg (va_D _) eW) hD
      exact W.vret hx hb hr (fun t ht hW => ⟨⟨(), rfl, trivial, by rw [ht]; exact hP, va_K.moved hW.alike hK, hD⟩, hS.F ht⟩) hS.2.2 d_LN_align_168
  · refine lv_iload hx hb d_LN_align_52 (lv_at hl 3 rfl) ?_
    refine lv_istore (lv' := [(6, .int (iI (rs))), (7, .int (iI (0))), (5, .int (iI (M (30 + 4 * i) (5)))), (4, .int (iI (rs))), (0, .ref (ad (3))), (1, .ref (ad (29 + 4 * i))), (2, .int (iI (((a : Nat) : Int)))), (3, .int (iI (((b : Nat) : Int))))]) hx hb d_LN_align_54 hl (by decide) rfl (fun ls hl => ?_)
    refine lv_goto (tgt := 111) hx hb d_LN_align_56 (by decide) ?_
    refine lv_iload_n hx hb d_LN_align_111 rfl (lv_at hl 6 rfl) ?_
    refine lv_istore (lv' := [(8, .int (iI (((a : Nat) : Int)))), (6, .int (iI (rs))), (7, .int (iI (0))), (5, .int (iI (M (30 + 4 * i) (5)))), (4, .int (iI (rs))), (0, .ref (ad (3))), (1, .ref (ad (29 + 4 * i))), (2, .int (iI (((a : Nat) : Int)))), (3, .int (iI (((b : Nat) : Int))))]) hx hb d_LN_align_112 hl (by decide) rfl (fun ls hl => ?_)
    obtain ⟨MF_17, eMF_17⟩ : ∃ q_, q_ = q_mv (rs) (b - a) a M := ⟨_, rfl⟩
    refine lp_align hx hb hml hg hown hK hA i a b (rs) (0) hb6 MF_17 (fun H locs ls hP hD hS hl => ?_) (b - a) a M (by omega) (by omega) eMF_17.symm s.heap [] ls hP hD hS (lv_sub hl [0, 2, 1, 5, 6, 7, 8] rfl)
    have hn3 : MF_17 3 2 = ((nl : Nat) : Int) := by rw [eMF_17, q_mv_eq _ _ _ _ 3 (by omega)]; exact hn
    refine lv_aload_n hx hb d_LN_align_140 rfl (lv_at hl 2 rfl) ?_
    refine z_get (ci := 3) (C := R_LN) (T := T_LN) (N := 6) (v := .ref (ad (10))) hx hb hg in_LN hown hK hP (3) (by decide) rfl rfl 0 (by decide) (hg _ (List.mem_append_right _ (List.mem_append_right _ (List.mem_append_right _ (List.mem_append_right _ (List.mem_append_left _ (List.mem_of_getElem? (i := 3) rfl))))))) (fun _ h9 => h9) rfl d_LN_align_141 ?_
    refine z_bipush hx hb (z := 8) d_LN_align_144 (by decide) ?_
    refine z_aald hx hb hK hP (10) 1 (by decide) (fun _ => rfl) rfl rfl (8) rfl (by decide) (by decide) d_LN_align_146 ?_
    refine lv_aload_n hx hb d_LN_align_147 rfl (lv_at hl 2 rfl) ?_
    refine z_get (ci := 3) (C := R_LN) (T := T_LN) (N := 6) (v := .int (iI (MF_17 (3) 2))) hx hb hg in_LN hown hK hP (3) (by decide) rfl rfl 2 (by decide) (hg _ (List.mem_append_right _ (List.mem_append_right _ (List.mem_append_right _ (List.mem_append_right _ (List.mem_append_left _ (List.mem_of_getElem? (i := 8) rfl))))))) (fun _ h9 => h9) rfl d_LN_align_148 ?_
    refine lv_iload hx hb d_LN_align_151 (lv_at hl 1 rfl) ?_
    refine z_iast hx hb hK hP hD hS (21) 0 (by decide) (fun _ => rfl) rfl (v := rs) (nl) hn3 (by omega) (by decide) d_LN_align_153 (fun H locs hP hD hS => ?_)
    obtain ⟨M_18, eM_18⟩ : ∃ q_, q_ = mset MF_17 (21) (nl) (rs) := ⟨_, rfl⟩
    have hP : va_P D vwCl (pg_w ad cs rp M_18) H := by rw [eM_18]; exact hP
    have hD : va_D (va_A (pg_w ad cs rp M) s.heap.size) (pg_w ad cs rp M_18) := by rw [eM_18]; exact hD
    have hn4 : M_18 3 2 = ((nl : Nat) : Int) := by rw [eM_18, mset_ne (by omega)]; exact hn3
    refine lv_aload_n hx hb d_LN_align_154 rfl (lv_at hl 2 rfl) ?_
    refine z_get (ci := 3) (C := R_LN) (T := T_LN) (N := 6) (v := .ref (ad (10))) hx hb hg in_LN hown hK hP (3) (by decide) rfl rfl 0 (by decide) (hg _ (List.mem_append_right _ (List.mem_append_right _ (List.mem_append_right _ (List.mem_append_right _ (List.mem_append_left _ (List.mem_of_getElem? (i := 3) rfl))))))) (fun _ h9 => h9) rfl d_LN_align_155 ?_
    refine z_bipush hx hb (z := 9) d_LN_align_158 (by decide) ?_
    refine z_aald hx hb hK hP (10) 1 (by decide) (fun _ => rfl) rfl rfl (9) rfl (by decide) (by decide) d_LN_align_160 ?_
    refine lv_aload_n hx hb d_LN_align_161 rfl (lv_at hl 2 rfl) ?_
    refine z_get (ci := 3) (C := R_LN) (T := T_LN) (N := 6) (v := .int (iI (M_18 (3) 2))) hx hb hg in_LN hown hK hP (3) (by decide) rfl rfl 2 (by decide) (hg _ (List.mem_append_right _ (List.mem_append_right _ (List.mem_append_right _ (List.mem_append_right _ (List.mem_append_left _ (List.mem_of_getElem? (i := 8) rfl))))))) (fun _ h9 => h9) rfl d_LN_align_162 ?_
    refine lv_iload hx hb d_LN_align_165 (lv_at hl 0 rfl) ?_
    refine z_iast hx hb hK hP hD hS (22) 0 (by decide) (fun _ => rfl) rfl (v := 0) (nl) hn4 (by omega) (by decide) d_LN_align_167 (fun H locs hP hD hS => ?_)
    obtain ⟨M_19, eM_19⟩ : ∃ q_, q_ = mset M_18 (22) (nl) (0) := ⟨_, rfl⟩
    have hP : va_P D vwCl (pg_w ad cs rp M_19) H := by rw [eM_19]; exact hP
    have hD : va_D (va_A (pg_w ad cs rp M) s.heap.size) (pg_w ad cs rp M_19) := by rw [eM_19]; exact hD
    have hM : M_19 = q_al M i a b bp nl := by rw [eM_19, eM_18, eMF_17]; unfold q_al; rw [← ers]; rw [if_pos c_49]
    have eW : pg_w ad cs rp (M_19) = pg_w ad cs rp (q_al M i a b bp nl) := by rw [hM]
    have hP := Eq.mp (congrArg (fun q => va_P D vwCl q _) eW) hP
    have hD := Eq.mp (congrArg (va_D _) eW) hD
    exact W.vret hx hb hr (fun t ht hW => ⟨⟨(), rfl, trivial, by rw [ht]; exact hP, va_K.moved hW.alike hK, hD⟩, hS.F ht⟩) hS.2.2 d_LN_align_168
set_option maxHeartbeats 4000000 in
set_option maxRecDepth 100000 in
/-- Lines.addLine -/
theorem c_addLine (l : Launch) {D : va_G} {ad : Nat → Nat} {cs : pg_C} {rp : Option Nat} {M : Nat → Nat → Int} (sz : Nat) (i n a b bp nl : Nat) (x : Int) (hab : a ≤ b) (hb6 : b ≤ 600) (hbp : bp ≤ 600) (hb1 : b < bp → 1 ≤ b) (hp : wfP M i n) (ht : wfT M) (hx0 : 0 ≤ x ∧ x ≤ 10000) (hbe : M (29 + 4 * i) 5 = ((bp : Nat) : Int)) (hn : M 3 2 = ((nl : Nat) : Int)) (hn6 : nl < 630) (h1 : 0 ≤ M (30 + 4 * i) 1 ∧ M (30 + 4 * i) 1 ≤ 5000) (h5 : 0 ≤ M (30 + 4 * i) 5 ∧ M (30 + 4 * i) 5 ≤ 3) (h10 : 0 ≤ M (30 + 4 * i) 10 ∧ M (30 + 4 * i) 10 ≤ 2000) : Met l y_LN_addLine ws_LN_addLine ({ frames := 4, cells := 0, slots := 0, locals := 102 } : Room) (va_Pc [.ref (ad (3)), .int (iI (((i : Nat) : Int))), .int (iI (((a : Nat) : Int))), .int (iI (((b : Nat) : Int))), .int (iI (x))] (rw_B D vwCl (pg_tys cs) (pg_w ad cs rp M) sz)) (va_Qv (fun _ : Unit => True) (rw_E D vwCl (pg_tys cs) (pg_w ad cs rp M) (pg_w ad cs rp (q_ad M i n a b bp nl x)) sz) (va_A (pg_w ad cs rp M) sz)) 0 0 (va_A (pg_w ad cs rp M) sz) := by
  refine Met.ofW (cc := b_LN_addLine) (maxL := 7) (ret := none) (by decide) rfl ?_
  intro p e s m args below meth c s₁ B hml hv
  obtain ⟨rfl, hsz, hP, hK, hD0⟩ := hv
  have hx := B.exec
  have hb := B.bytes
  have hr := B.returns
  have hts := atoms_spec (ws := ws_LN_addLine) B.pre
  have hg : ∀ w ∈ gt, w.before _ s = true := fun w h => hts w (List.mem_cons_of_mem _ h)
  have hown : s.vm.findClass R_LN = some m.cls := findClass_of_methodNamed B.named
  have hlocks := B.notSynchronized
  subst hsz
  have hD := hD0.self (sz := s.heap.size)
  have hA : ∀ q : Nat, s.heap.size ≤ q → va_A (pg_w ad cs rp M) s.heap.size q := fun q h => Or.inr h
  have hS : va_S (va_A (pg_w ad cs rp M) s.heap.size) s.heap s.heap [] := va_S.rf
  have hl := lv_entry ([.ref (ad (3)), .int (iI (((i : Nat) : Int))), .int (iI (((a : Nat) : Int))), .int (iI (((b : Nat) : Int))), .int (iI (x))]) (n := 7) (Nat.le_of_ble_eq_true rfl)
  rw [lg_entry_eq]
  generalize (lg_sl ([.ref (ad (3)), .int (iI (((i : Nat) : Int))), .int (iI (((a : Nat) : Int))), .int (iI (((b : Nat) : Int))), .int (iI (x))]) ++ List.replicate (7 - (lg_sl ([.ref (ad (3)), .int (iI (((i : Nat) : Int))), .int (iI (((a : Nat) : Int))), .int (iI (((b : Nat) : Int))), .int (iI (x))])).length) Slot.unset).toArray = ls at hl ⊢
  have hl : lv_has ls 7 [(0, .ref (ad (3))), (1, .int (iI (((i : Nat) : Int)))), (2, .int (iI (((a : Nat) : Int)))), (3, .int (iI (((b : Nat) : Int)))), (4, .int (iI (x)))] := hl
  obtain ⟨hi, hnn, hs, hz, hz2⟩ := id hp
  obtain ⟨so, eso⟩ : ∃ q_, q_ = p_solid (M 7) a b := ⟨_, rfl⟩
  have hso : so ≤ b := by rw [eso]; exact p_solid_le _ _ _
  have hso2 : a ≤ so := by rw [eso]; exact p_solid_ge _ _ _ hab
  have hen := q_endb (i := i) (n := n) hp ht hx0 hab hb6
  rw [← eso] at hen
  refine lv_aload_n hx hb d_LN_addLine_0 rfl (lv_at hl 0 rfl) ?_
  refine z_get (ci := 3) (C := R_LN) (T := T_LN) (N := 6) (v := .ref (ad (1))) hx hb hg in_LN hown hK hP (3) (by decide) rfl rfl 3 (by decide) (hg _ (List.mem_append_right _ (List.mem_append_right _ (List.mem_append_right _ (List.mem_append_right _ (List.mem_append_left _ (List.mem_of_getElem? (i := 11) rfl))))))) (fun _ h9 => h9) rfl d_LN_addLine_1 ?_
  refine z_get (ci := 1) (C := R_TX) (T := T_TX) (N := 6) (v := .ref (ad (6))) hx hb hg in_TX hown hK hP (1) (by decide) rfl rfl 0 (by decide) (hg _ (List.mem_append_right _ (List.mem_append_right _ (List.mem_append_left _ (List.mem_of_getElem? (i := 17) rfl))))) (fun _ h9 => h9) rfl d_LN_addLine_4 ?_
  refine lv_iload_n hx hb d_LN_addLine_7 rfl (lv_at hl 1 rfl) ?_
  refine z_aald hx hb hK hP (6) 2 (by decide) (fun _ => rfl) rfl rfl (i) rfl (by omega) (by decide) d_LN_addLine_8 ?_
  refine lv_astore (lv' := [(5, .ref (ad (29 + 4 * i))), (0, .ref (ad (3))), (1, .int (iI (((i : Nat) : Int)))), (2, .int (iI (((a : Nat) : Int)))), (3, .int (iI (((b : Nat) : Int)))), (4, .int (iI (x)))]) hx hb d_LN_addLine_9 hl (by decide) rfl (fun ls hl => ?_)
  refine lv_aload_n hx hb d_LN_addLine_11 rfl (lv_at hl 1 rfl) ?_
  refine z_get (ci := 3) (C := R_LN) (T := T_LN) (N := 6) (v := .ref (ad (1))) hx hb hg in_LN hown hK hP (3) (by decide) rfl rfl 3 (by decide) (hg _ (List.mem_append_right _ (List.mem_append_right _ (List.mem_append_right _ (List.mem_append_right _ (List.mem_append_left _ (List.mem_of_getElem? (i := 11) rfl))))))) (fun _ h9 => h9) rfl d_LN_addLine_12 ?_
  refine lv_iload_n hx hb d_LN_addLine_15 rfl (lv_at hl 3 rfl) ?_
  refine lv_iload_n hx hb d_LN_addLine_16 rfl (lv_at hl 4 rfl) ?_
  refine ro_V (As := [.int (iI (((a : Nat) : Int))), .int (iI (((b : Nat) : Int)))]) (rest := []) (z := ((so : Nat) : Int)) ⟨hx, hb, hml, hown, hg⟩ (eso ▸ c_solidBehind l a b (by omega) hb6 (zb_7 ht)) (cwV 2 hg (gt_V (List.mem_append_right _ (List.mem_append_right _ (List.mem_append_right _ (List.mem_append_right _ (List.mem_append_right _ (List.mem_append_left _ (List.mem_of_getElem? (i := 33) rfl))))))) (List.mem_append_right _ (List.mem_append_right _ (List.mem_append_right _ (List.mem_append_right _ (List.mem_append_right _ (List.mem_append_left _ (List.mem_of_getElem? (i := 34) rfl))))))) (List.mem_append_right _ (List.mem_append_right _ (List.mem_append_right _ (List.mem_append_right _ (List.mem_append_right _ (List.mem_append_left _ (List.mem_of_getElem? (i := 35) rfl))))))) (List.mem_append_right _ (List.mem_append_left _ (List.mem_of_getElem? (i := 3) rfl))) (List.mem_append_right _ (List.mem_append_right _ (List.mem_append_right _ (List.mem_append_right _ (List.mem_append_right _ (List.mem_append_left _ (List.mem_of_getElem? (i := 36) rfl)))))))) rfl rfl rfl (by decide +kernel) ⟨Nat.le_of_ble_eq_true rfl, Nat.le_of_ble_eq_true rfl⟩) hK hP (va_recv hK hP (ci := 1) (q0 := 1) rfl (wl_atE (by decide) rfl)) rfl hl.1 rfl (Nat.le_of_ble_eq_true rfl) d_LN_addLine_17 ⟨Nat.zero_le _, Nat.zero_le _⟩ ?_
  refine lv_istore (lv' := [(6, .int (iI (((so : Nat) : Int)))), (5, .ref (ad (29 + 4 * i))), (0, .ref (ad (3))), (1, .int (iI (((i : Nat) : Int)))), (2, .int (iI (((a : Nat) : Int)))), (3, .int (iI (((b : Nat) : Int)))), (4, .int (iI (x)))]) hx hb d_LN_addLine_20 hl (by decide) rfl (fun ls hl => ?_)
  refine lv_aload_n hx hb d_LN_addLine_22 rfl (lv_at hl 2 rfl) ?_
  refine lv_aload hx hb d_LN_addLine_23 (lv_at hl 1 rfl) ?_
  refine lv_iload_n hx hb d_LN_addLine_25 rfl (lv_at hl 4 rfl) ?_
  refine lv_iload_n hx hb d_LN_addLine_26 rfl (lv_at hl 5 rfl) ?_
  refine lv_iload hx hb d_LN_addLine_27 (lv_at hl 6 rfl) ?_
  refine rw_Vv (As := [.ref (ad (29 + 4 * i)), .int (iI (((a : Nat) : Int))), .int (iI (((b : Nat) : Int))), .int (iI (x))]) (rest := []) (w' := (pg_w ad cs rp (q_ps0 M i n a b x))) ⟨hx, hb, hml, hown, hg⟩ (c_placeSigns l _ i n a b x hab hb6 hp ht hx0) (cwV 4 hg (gt_V (List.mem_append_right _ (List.mem_append_right _ (List.mem_append_right _ (List.mem_append_right _ (List.mem_append_right _ (List.mem_append_right _ (List.mem_append_left _ (List.mem_of_getElem? (i := 1) rfl)))))))) (List.mem_append_right _ (List.mem_append_right _ (List.mem_append_right _ (List.mem_append_right _ (List.mem_append_right _ (List.mem_append_right _ (List.mem_append_left _ (List.mem_of_getElem? (i := 2) rfl)))))))) (List.mem_append_left _ (List.mem_of_getElem? (i := 3) rfl)) (List.mem_append_right _ (List.mem_append_left _ (List.mem_of_getElem? (i := 6) rfl))) (List.mem_append_right _ (List.mem_append_right _ (List.mem_append_right _ (List.mem_append_right _ (List.mem_append_right _ (List.mem_append_right _ (List.mem_append_left _ (List.mem_of_getElem? (i := 3) rfl))))))))) rfl rfl rfl (by decide +kernel) ⟨Nat.le_of_ble_eq_true rfl, Nat.le_of_ble_eq_true rfl⟩) hK hP hD hS hA (va_recv hK hP (ci := 3) (q0 := 3) rfl (wl_atE (by decide) rfl)) rfl hl.1 rfl (Nat.le_of_ble_eq_true rfl) d_LN_addLine_29 ⟨Nat.zero_le _, Nat.zero_le _⟩ (fun H locs hP hD hS => ?_)
  obtain ⟨M_1, eM_1⟩ : ∃ q_, q_ = q_ps0 M i n a b x := ⟨_, rfl⟩
  have hP : va_P D vwCl (pg_w ad cs rp M_1) H := by rw [eM_1]; exact hP
  have hD : va_D (va_A (pg_w ad cs rp M) s.heap.size) (pg_w ad cs rp M_1) := by rw [eM_1]; exact hD
  have hq1 : eqb 13 25 M_1 M := by rw [eM_1]; exact (fun j hj => q_ps_eq _ _ _ _ _ _ _ _ _ _ j (by omega))
  have hnm1 : M_1 3 2 = ((nl : Nat) : Int) := by rw [hq1 3 (by omega)]; exact hn
  refine lv_aload_n hx hb d_LN_addLine_32 rfl (lv_at hl 2 rfl) ?_
  refine z_get (ci := 3) (C := R_LN) (T := T_LN) (N := 6) (v := .ref (ad (10))) hx hb hg in_LN hown hK hP (3) (by decide) rfl rfl 0 (by decide) (hg _ (List.mem_append_right _ (List.mem_append_right _ (List.mem_append_right _ (List.mem_append_right _ (List.mem_append_left _ (List.mem_of_getElem? (i := 3) rfl))))))) (fun _ h9 => h9) rfl d_LN_addLine_33 ?_
  refine z_iconst hx hb (z := 0) d_LN_addLine_36 ?_
  refine z_aald hx hb hK hP (10) 1 (by decide) (fun _ => rfl) rfl rfl (0) rfl (by decide) (by decide) d_LN_addLine_37 ?_
  refine lv_aload_n hx hb d_LN_addLine_38 rfl (lv_at hl 2 rfl) ?_
  refine z_get (ci := 3) (C := R_LN) (T := T_LN) (N := 6) (v := .int (iI (M_1 (3) 2))) hx hb hg in_LN hown hK hP (3) (by decide) rfl rfl 2 (by decide) (hg _ (List.mem_append_right _ (List.mem_append_right _ (List.mem_append_right _ (List.mem_append_right _ (List.mem_append_left _ (List.mem_of_getElem? (i := 8) rfl))))))) (fun _ h9 => h9) rfl d_LN_addLine_39 ?_
  refine lv_iload_n hx hb d_LN_addLine_42 rfl (lv_at hl 3 rfl) ?_
  refine z_iast hx hb hK hP hD hS (13) 0 (by decide) (fun _ => rfl) rfl (v := ((i : Nat) : Int)) (nl) hnm1 (by omega) (by decide) d_LN_addLine_43 (fun H locs hP hD hS => ?_)
  obtain ⟨M_2, eM_2⟩ : ∃ q_, q_ = mset M_1 (13) (nl) (((i : Nat) : Int)) := ⟨_, rfl⟩
  have hP : va_P D vwCl (pg_w ad cs rp M_2) H := by rw [eM_2]; exact hP
  have hD : va_D (va_A (pg_w ad cs rp M) s.heap.size) (pg_w ad cs rp M_2) := by rw [eM_2]; exact hD
  have hq2 : eqb 13 25 M_2 M := by rw [eM_2]; exact eqb_set hq1 (by omega) (by omega)
  have hnm2 : M_2 3 2 = ((nl : Nat) : Int) := by rw [hq2 3 (by omega)]; exact hn
  refine lv_aload_n hx hb d_LN_addLine_44 rfl (lv_at hl 2 rfl) ?_
  refine z_get (ci := 3) (C := R_LN) (T := T_LN) (N := 6) (v := .ref (ad (10))) hx hb hg in_LN hown hK hP (3) (by decide) rfl rfl 0 (by decide) (hg _ (List.mem_append_right _ (List.mem_append_right _ (List.mem_append_right _ (List.mem_append_right _ (List.mem_append_left _ (List.mem_of_getElem? (i := 3) rfl))))))) (fun _ h9 => h9) rfl d_LN_addLine_45 ?_
  refine z_iconst hx hb (z := 1) d_LN_addLine_48 ?_
  refine z_aald hx hb hK hP (10) 1 (by decide) (fun _ => rfl) rfl rfl (1) rfl (by decide) (by decide) d_LN_addLine_49 ?_
  refine lv_aload_n hx hb d_LN_addLine_50 rfl (lv_at hl 2 rfl) ?_
  refine z_get (ci := 3) (C := R_LN) (T := T_LN) (N := 6) (v := .int (iI (M_2 (3) 2))) hx hb hg in_LN hown hK hP (3) (by decide) rfl rfl 2 (by decide) (hg _ (List.mem_append_right _ (List.mem_append_right _ (List.mem_append_right _ (List.mem_append_right _ (List.mem_append_left _ (List.mem_of_getElem? (i := 8) rfl))))))) (fun _ h9 => h9) rfl d_LN_addLine_51 ?_
  refine lv_iload_n hx hb d_LN_addLine_54 rfl (lv_at hl 4 rfl) ?_
  refine z_iast hx hb hK hP hD hS (14) 0 (by decide) (fun _ => rfl) rfl (v := ((a : Nat) : Int)) (nl) hnm2 (by omega) (by decide) d_LN_addLine_55 (fun H locs hP hD hS => ?_)
  obtain ⟨M_3, eM_3⟩ : ∃ q_, q_ = mset M_2 (14) (nl) (((a : Nat) : Int)) := ⟨_, rfl⟩
  have hP : va_P D vwCl (pg_w ad cs rp M_3) H := by rw [eM_3]; exact hP
  have hD : va_D (va_A (pg_w ad cs rp M) s.heap.size) (pg_w ad cs rp M_3) := by rw [eM_3]; exact hD
  have hq3 : eqb 13 25 M_3 M := by rw [eM_3]; exact eqb_set hq2 (by omega) (by omega)
  have hnm3 : M_3 3 2 = ((nl : Nat) : Int) := by rw [hq3 3 (by omega)]; exact hn
  refine lv_aload_n hx hb d_LN_addLine_56 rfl (lv_at hl 2 rfl) ?_
  refine z_get (ci := 3) (C := R_LN) (T := T_LN) (N := 6) (v := .ref (ad (10))) hx hb hg in_LN hown hK hP (3) (by decide) rfl rfl 0 (by decide) (hg _ (List.mem_append_right _ (List.mem_append_right _ (List.mem_append_right _ (List.mem_append_right _ (List.mem_append_left _ (List.mem_of_getElem? (i := 3) rfl))))))) (fun _ h9 => h9) rfl d_LN_addLine_57 ?_
  refine z_iconst hx hb (z := 2) d_LN_addLine_60 ?_
  refine z_aald hx hb hK hP (10) 1 (by decide) (fun _ => rfl) rfl rfl (2) rfl (by decide) (by decide) d_LN_addLine_61 ?_
  refine lv_aload_n hx hb d_LN_addLine_62 rfl (lv_at hl 2 rfl) ?_
  refine z_get (ci := 3) (C := R_LN) (T := T_LN) (N := 6) (v := .int (iI (M_3 (3) 2))) hx hb hg in_LN hown hK hP (3) (by decide) rfl rfl 2 (by decide) (hg _ (List.mem_append_right _ (List.mem_append_right _ (List.mem_append_right _ (List.mem_append_right _ (List.mem_append_left _ (List.mem_of_getElem? (i := 8) rfl))))))) (fun _ h9 => h9) rfl d_LN_addLine_63 ?_
  refine lv_iload_n hx hb d_LN_addLine_66 rfl (lv_at hl 5 rfl) ?_
  refine lv_iload_n hx hb d_LN_addLine_67 rfl (lv_at hl 4 rfl) ?_
  refine z_isub hx hb d_LN_addLine_68 (v := (((b : Nat) : Int) - ((a : Nat) : Int))) rfl ?_
  refine z_iast hx hb hK hP hD hS (15) 0 (by decide) (fun _ => rfl) rfl (v := (((b : Nat) : Int) - ((a : Nat) : Int))) (nl) hnm3 (by omega) (by decide) d_LN_addLine_69 (fun H locs hP hD hS => ?_)
  obtain ⟨M_4, eM_4⟩ : ∃ q_, q_ = mset M_3 (15) (nl) ((((b : Nat) : Int) - ((a : Nat) : Int))) := ⟨_, rfl⟩
  have hP : va_P D vwCl (pg_w ad cs rp M_4) H := by rw [eM_4]; exact hP
  have hD : va_D (va_A (pg_w ad cs rp M) s.heap.size) (pg_w ad cs rp M_4) := by rw [eM_4]; exact hD
  have hq4 : eqb 13 25 M_4 M := by rw [eM_4]; exact eqb_set hq3 (by omega) (by omega)
  have hnm4 : M_4 3 2 = ((nl : Nat) : Int) := by rw [hq4 3 (by omega)]; exact hn
  refine lv_aload_n hx hb d_LN_addLine_70 rfl (lv_at hl 2 rfl) ?_
  refine z_get (ci := 3) (C := R_LN) (T := T_LN) (N := 6) (v := .ref (ad (10))) hx hb hg in_LN hown hK hP (3) (by decide) rfl rfl 0 (by decide) (hg _ (List.mem_append_right _ (List.mem_append_right _ (List.mem_append_right _ (List.mem_append_right _ (List.mem_append_left _ (List.mem_of_getElem? (i := 3) rfl))))))) (fun _ h9 => h9) rfl d_LN_addLine_71 ?_
  refine z_iconst hx hb (z := 3) d_LN_addLine_74 ?_
  refine z_aald hx hb hK hP (10) 1 (by decide) (fun _ => rfl) rfl rfl (3) rfl (by decide) (by decide) d_LN_addLine_75 ?_
  refine lv_aload_n hx hb d_LN_addLine_76 rfl (lv_at hl 2 rfl) ?_
  refine z_get (ci := 3) (C := R_LN) (T := T_LN) (N := 6) (v := .int (iI (M_4 (3) 2))) hx hb hg in_LN hown hK hP (3) (by decide) rfl rfl 2 (by decide) (hg _ (List.mem_append_right _ (List.mem_append_right _ (List.mem_append_right _ (List.mem_append_right _ (List.mem_append_left _ (List.mem_of_getElem? (i := 8) rfl))))))) (fun _ h9 => h9) rfl d_LN_addLine_77 ?_
  refine lv_iload hx hb d_LN_addLine_80 (lv_at hl 6 rfl) ?_
  refine z_iast hx hb hK hP hD hS (16) 0 (by decide) (fun _ => rfl) rfl (v := x) (nl) hnm4 (by omega) (by decide) d_LN_addLine_82 (fun H locs hP hD hS => ?_)
  obtain ⟨M_5, eM_5⟩ : ∃ q_, q_ = mset M_4 (16) (nl) (x) := ⟨_, rfl⟩
  have hP : va_P D vwCl (pg_w ad cs rp M_5) H := by rw [eM_5]; exact hP
  have hD : va_D (va_A (pg_w ad cs rp M) s.heap.size) (pg_w ad cs rp M_5) := by rw [eM_5]; exact hD
  have hq5 : eqb 13 25 M_5 M := by rw [eM_5]; exact eqb_set hq4 (by omega) (by omega)
  have hnm5 : M_5 3 2 = ((nl : Nat) : Int) := by rw [hq5 3 (by omega)]; exact hn
  refine lv_aload_n hx hb d_LN_addLine_83 rfl (lv_at hl 2 rfl) ?_
  refine z_get (ci := 3) (C := R_LN) (T := T_LN) (N := 6) (v := .ref (ad (10))) hx hb hg in_LN hown hK hP (3) (by decide) rfl rfl 0 (by decide) (hg _ (List.mem_append_right _ (List.mem_append_right _ (List.mem_append_right _ (List.mem_append_right _ (List.mem_append_left _ (List.mem_of_getElem? (i := 3) rfl))))))) (fun _ h9 => h9) rfl d_LN_addLine_84 ?_
  refine z_iconst hx hb (z := 4) d_LN_addLine_87 ?_
  refine z_aald hx hb hK hP (10) 1 (by decide) (fun _ => rfl) rfl rfl (4) rfl (by decide) (by decide) d_LN_addLine_88 ?_
  refine lv_aload_n hx hb d_LN_addLine_89 rfl (lv_at hl 2 rfl) ?_
  refine z_get (ci := 3) (C := R_LN) (T := T_LN) (N := 6) (v := .int (iI (M_5 (3) 2))) hx hb hg in_LN hown hK hP (3) (by decide) rfl rfl 2 (by decide) (hg _ (List.mem_append_right _ (List.mem_append_right _ (List.mem_append_right _ (List.mem_append_right _ (List.mem_append_left _ (List.mem_of_getElem? (i := 8) rfl))))))) (fun _ h9 => h9) rfl d_LN_addLine_90 ?_
  refine lv_iload hx hb d_LN_addLine_93 (lv_at hl 0 rfl) ?_
  refine lv_iload_n hx hb d_LN_addLine_95 rfl (lv_at hl 4 rfl) ?_
  refine z_icmp_le hx hb (tgt := 125) d_LN_addLine_96 (by decide) ⟨by omega, by omega⟩ ⟨by omega, by omega⟩ (fun c_96 => ?_) (fun c_96 => ?_)
  · refine lv_iload hx hb d_LN_addLine_125 (lv_at hl 6 rfl) ?_
    have hev : x = q_end (q_ps0 M i n a b x) a so x := by unfold q_end; rw [if_neg (by omega)]
    refine lv_topi (fun y_ ey => ?_)
    have ey := ey.trans (congrArg iI hev)
    subst ey
    refine z_iast hx hb hK hP hD hS (17) 0 (by decide) (fun _ => rfl) rfl (v := q_end (q_ps0 M i n a b x) a so x) (nl) hnm5 (by omega) (by decide) d_LN_addLine_127 (fun H locs hP hD hS => ?_)
    obtain ⟨M_6, eM_6⟩ : ∃ q_, q_ = mset M_5 (17) (nl) (q_end (q_ps0 M i n a b x) a so x) := ⟨_, rfl⟩
    have hP : va_P D vwCl (pg_w ad cs rp M_6) H := by rw [eM_6]; exact hP
    have hD : va_D (va_A (pg_w ad cs rp M) s.heap.size) (pg_w ad cs rp M_6) := by rw [eM_6]; exact hD
    have hq6 : eqb 13 25 M_6 M := by rw [eM_6]; exact eqb_set hq5 (by omega) (by omega)
    have hnm6 : M_6 3 2 = ((nl : Nat) : Int) := by rw [hq6 3 (by omega)]; exact hn
    refine lv_aload_n hx hb d_LN_addLine_128 rfl (lv_at hl 2 rfl) ?_
    refine z_get (ci := 3) (C := R_LN) (T := T_LN) (N := 6) (v := .ref (ad (10))) hx hb hg in_LN hown hK hP (3) (by decide) rfl rfl 0 (by decide) (hg _ (List.mem_append_right _ (List.mem_append_right _ (List.mem_append_right _ (List.mem_append_right _ (List.mem_append_left _ (List.mem_of_getElem? (i := 3) rfl))))))) (fun _ h9 => h9) rfl d_LN_addLine_129 ?_
    refine z_iconst hx hb (z := 5) d_LN_addLine_132 ?_
    refine z_aald hx hb hK hP (10) 1 (by decide) (fun _ => rfl) rfl rfl (5) rfl (by decide) (by decide) d_LN_addLine_133 ?_
    refine lv_aload_n hx hb d_LN_addLine_134 rfl (lv_at hl 2 rfl) ?_
    refine z_get (ci := 3) (C := R_LN) (T := T_LN) (N := 6) (v := .int (iI (M_6 (3) 2))) hx hb hg in_LN hown hK hP (3) (by decide) rfl rfl 2 (by decide) (hg _ (List.mem_append_right _ (List.mem_append_right _ (List.mem_append_right _ (List.mem_append_right _ (List.mem_append_left _ (List.mem_of_getElem? (i := 8) rfl))))))) (fun _ h9 => h9) rfl d_LN_addLine_135 ?_
    refine lv_aload_n hx hb d_LN_addLine_138 rfl (lv_at hl 2 rfl) ?_
    refine lv_aload hx hb d_LN_addLine_139 (lv_at hl 1 rfl) ?_
    refine lv_iload_n hx hb d_LN_addLine_141 rfl (lv_at hl 4 rfl) ?_
    refine lv_iload_n hx hb d_LN_addLine_142 rfl (lv_at hl 5 rfl) ?_
    have h9 : M_6 9 = M 9 := hq6 9 (by omega)
    have h30 : M_6 (30 + 4 * i) = M (30 + 4 * i) := hq6 _ (by omega)
    refine ro_V (As := [.ref (ad (29 + 4 * i)), .int (iI (((a : Nat) : Int))), .int (iI (((b : Nat) : Int)))]) (rest := [.int (iI (M_6 (3) 2)), .ref (ad (18))]) (z := p_hgt (M 9) b (b - a) a (M (30 + 4 * i) 10)) ⟨hx, hb, hml, hown, hg⟩ ((show p_hgt (M_6 9) b (b - a) a (M_6 (30 + 4 * i) 10) = p_hgt (M 9) b (b - a) a (M (30 + 4 * i) 10) by rw [h9, h30]) ▸ c_heightOf l i a b (by omega) hi hb6 (eqb_wfT hq6 (by omega) ht) (by rw [h30]; exact h10)) (cwV 3 hg (gt_V (List.mem_append_right _ (List.mem_append_right _ (List.mem_append_right _ (List.mem_append_right _ (List.mem_append_right _ (List.mem_append_right _ (List.mem_append_left _ (List.mem_of_getElem? (i := 26) rfl)))))))) (List.mem_append_right _ (List.mem_append_right _ (List.mem_append_right _ (List.mem_append_right _ (List.mem_append_right _ (List.mem_append_right _ (List.mem_append_left _ (List.mem_of_getElem? (i := 27) rfl)))))))) (List.mem_append_left _ (List.mem_of_getElem? (i := 6) rfl)) (List.mem_append_right _ (List.mem_append_left _ (List.mem_of_getElem? (i := 6) rfl))) (List.mem_append_right _ (List.mem_append_right _ (List.mem_append_right _ (List.mem_append_right _ (List.mem_append_right _ (List.mem_append_right _ (List.mem_append_left _ (List.mem_of_getElem? (i := 28) rfl))))))))) rfl rfl rfl (by decide +kernel) ⟨Nat.le_of_ble_eq_true rfl, Nat.le_of_ble_eq_true rfl⟩) hK hP (va_recv hK hP (ci := 3) (q0 := 3) rfl (wl_atE (by decide) rfl)) rfl hl.1 rfl (Nat.le_of_ble_eq_true rfl) d_LN_addLine_143 ⟨Nat.zero_le _, Nat.zero_le _⟩ ?_
    refine z_iast hx hb hK hP hD hS (18) 0 (by decide) (fun _ => rfl) rfl (v := p_hgt (M 9) b (b - a) a (M (30 + 4 * i) 10)) (nl) hnm6 (by omega) (by decide) d_LN_addLine_146 (fun H locs hP hD hS => ?_)
    obtain ⟨M_7, eM_7⟩ : ∃ q_, q_ = mset M_6 (18) (nl) (p_hgt (M 9) b (b - a) a (M (30 + 4 * i) 10)) := ⟨_, rfl⟩
    have hP : va_P D vwCl (pg_w ad cs rp M_7) H := by rw [eM_7]; exact hP
    have hD : va_D (va_A (pg_w ad cs rp M) s.heap.size) (pg_w ad cs rp M_7) := by rw [eM_7]; exact hD
    have hq7 : eqb 13 25 M_7 M := by rw [eM_7]; exact eqb_set hq6 (by omega) (by omega)
    have hnm7 : M_7 3 2 = ((nl : Nat) : Int) := by rw [hq7 3 (by omega)]; exact hn
    refine lv_aload_n hx hb d_LN_addLine_147 rfl (lv_at hl 2 rfl) ?_
    refine lv_aload hx hb d_LN_addLine_148 (lv_at hl 1 rfl) ?_
    refine lv_iload_n hx hb d_LN_addLine_150 rfl (lv_at hl 4 rfl) ?_
    refine lv_iload_n hx hb d_LN_addLine_151 rfl (lv_at hl 5 rfl) ?_
    have hAD : M_7 = q_ad1 M i n a b nl x := by rw [eM_7, eM_6, eM_5, eM_4, eM_3, eM_2, eM_1]; unfold q_ad1; rw [← eso]
    have k30 : M_7 (30 + 4 * i) = M (30 + 4 * i) := hq7 _ (by omega)
    have k17 : M_7 17 nl = q_end (q_ps0 M i n a b x) a so x := by rw [eM_7, mset_ne (by omega), eM_6, mset_same]
    refine rw_Vv (As := [.ref (ad (29 + 4 * i)), .int (iI (((a : Nat) : Int))), .int (iI (((b : Nat) : Int)))]) (rest := []) (w' := (pg_w ad cs rp (q_al M_7 i a b bp nl))) ⟨hx, hb, hml, hown, hg⟩ (c_align l _ i a b bp nl hi hab hb6 hbp hb1 (eqb_wfT hq7 (by omega) ht) (by rw [hq7 _ (by omega)]; exact hbe) hnm7 hn6 (by rw [k30]; exact h1) (by rw [k30]; exact h5) (by rw [k17]; exact hen)) (cwV 3 hg (gt_V (List.mem_append_right _ (List.mem_append_right _ (List.mem_append_right _ (List.mem_append_right _ (List.mem_append_right _ (List.mem_append_right _ (List.mem_append_left _ (List.mem_of_getElem? (i := 29) rfl)))))))) (List.mem_append_right _ (List.mem_append_right _ (List.mem_append_right _ (List.mem_append_right _ (List.mem_append_right _ (List.mem_append_right _ (List.mem_append_left _ (List.mem_of_getElem? (i := 30) rfl)))))))) (List.mem_append_left _ (List.mem_of_getElem? (i := 7) rfl)) (List.mem_append_right _ (List.mem_append_left _ (List.mem_of_getElem? (i := 6) rfl))) (List.mem_append_right _ (List.mem_append_right _ (List.mem_append_right _ (List.mem_append_right _ (List.mem_append_right _ (List.mem_append_right _ (List.mem_append_left _ (List.mem_of_getElem? (i := 31) rfl))))))))) rfl rfl rfl (by decide +kernel) ⟨Nat.le_of_ble_eq_true rfl, Nat.le_of_ble_eq_true rfl⟩) hK hP hD hS hA (va_recv hK hP (ci := 3) (q0 := 3) rfl (wl_atE (by decide) rfl)) rfl hl.1 rfl (Nat.le_of_ble_eq_true rfl) d_LN_addLine_152 ⟨Nat.zero_le _, Nat.zero_le _⟩ (fun H locs hP hD hS => ?_)
    obtain ⟨M_8, eM_8⟩ : ∃ q_, q_ = q_al M_7 i a b bp nl := ⟨_, rfl⟩
    have hP : va_P D vwCl (pg_w ad cs rp M_8) H := by rw [eM_8]; exact hP
    have hD : va_D (va_A (pg_w ad cs rp M) s.heap.size) (pg_w ad cs rp M_8) := by rw [eM_8]; exact hD
    have hnz : M_8 3 2 = ((nl : Nat) : Int) := by rw [eM_8, q_al_eq _ _ _ _ _ _ 3 (by omega)]; exact hnm7
    refine lv_aload_n hx hb d_LN_addLine_155 rfl (lv_at hl 2 rfl) ?_
    refine lv_dup hx hb d_LN_addLine_156 rfl ?_
    refine z_get (ci := 3) (C := R_LN) (T := T_LN) (N := 6) (v := .int (iI (M_8 (3) 2))) hx hb hg in_LN hown hK hP (3) (by decide) rfl rfl 2 (by decide) (hg _ (List.mem_append_right _ (List.mem_append_right _ (List.mem_append_right _ (List.mem_append_right _ (List.mem_append_left _ (List.mem_of_getElem? (i := 8) rfl))))))) (fun _ h9 => h9) rfl d_LN_addLine_157 ?_
    refine z_iconst hx hb (z := 1) d_LN_addLine_160 ?_
    refine z_iadd hx hb d_LN_addLine_161 (v := (M_8 (3) 2 + 1)) rfl ?_
    refine z_put (ci := 3) (C := R_LN) (T := T_LN) (N := 6) (v := .int (iI ((M_8 (3) 2 + 1)))) (ty := .int) (ce' := (pg_ce ad cs rp)) (r := va_up (M_8 (3)) 2 ((M_8 (3) 2 + 1))) hx hb hg in_LN ty_LN tk_LN nm_LN hown hK hP hD hS (3) (by decide) rfl rfl 2 (by decide) (hg _ (List.mem_append_right _ (List.mem_append_right _ (List.mem_append_right _ (List.mem_append_right _ (List.mem_append_left _ (List.mem_of_getElem? (i := 8) rfl))))))) (fun _ h9 => h9) rfl (by decide +kernel) rfl rfl (Nat.le_of_ble_eq_true rfl) (fun _ _ => rfl) rfl d_LN_addLine_162 (fun H locs hP hD hS => ?_)
    obtain ⟨M_9, eM_9⟩ : ∃ q_, q_ = mset M_8 (3) (2) ((M_8 (3) 2 + 1)) := ⟨_, rfl⟩
    have hP : va_P D vwCl (pg_w ad cs rp M_9) H := by rw [eM_9]; exact hP
    have hD : va_D (va_A (pg_w ad cs rp M) s.heap.size) (pg_w ad cs rp M_9) := by rw [eM_9]; exact hD
    have hM : M_9 = q_ad M i n a b bp nl x := by rw [eM_9]; unfold q_ad; rw [← hAD, ← eM_8, hnz]
    have eW : pg_w ad cs rp (M_9) = pg_w ad cs rp (q_ad M i n a b bp nl x) := by rw [hM]
    have hP := Eq.mp (congrArg (fun q => va_P D vwCl q _) eW) hP
    have hD := Eq.mp (congrArg (va_D _) eW) hD
    exact W.vret hx hb hr (fun t ht hW => ⟨⟨(), rfl, trivial, by rw [ht]; exact hP, va_K.moved hW.alike hK, hD⟩, hS.F ht⟩) hS.2.2 d_LN_addLine_165
  · refine lv_aload_n hx hb d_LN_addLine_99 rfl (lv_at hl 2 rfl) ?_
    refine z_get (ci := 3) (C := R_LN) (T := T_LN) (N := 6) (v := .ref (ad (11))) hx hb hg in_LN hown hK hP (3) (by decide) rfl rfl 1 (by decide) (hg _ (List.mem_append_right _ (List.mem_append_right _ (List.mem_append_right _ (List.mem_append_right _ (List.mem_append_left _ (List.mem_of_getElem? (i := 6) rfl))))))) (fun _ h9 => h9) rfl d_LN_addLine_100 ?_
    refine z_iconst hx hb (z := 1) d_LN_addLine_103 ?_
    refine z_aald hx hb hK hP (11) 1 (by decide) (fun _ => rfl) rfl rfl (1) rfl (by decide) (by decide) d_LN_addLine_104 ?_
    refine lv_iload hx hb d_LN_addLine_105 (lv_at hl 0 rfl) ?_
    refine z_iconst hx hb (z := 1) d_LN_addLine_107 ?_
    refine z_isub hx hb d_LN_addLine_108 (v := (((so : Nat) : Int) - 1)) rfl ?_
    refine z_iald hx hb hK hP (24) 0 (by decide) (fun _ => rfl) rfl (so - 1) (by omega) (by omega) (by decide) d_LN_addLine_109 ?_
    refine lv_aload_n hx hb d_LN_addLine_110 rfl (lv_at hl 2 rfl) ?_
    refine z_get (ci := 3) (C := R_LN) (T := T_LN) (N := 6) (v := .ref (ad (11))) hx hb hg in_LN hown hK hP (3) (by decide) rfl rfl 1 (by decide) (hg _ (List.mem_append_right _ (List.mem_append_right _ (List.mem_append_right _ (List.mem_append_right _ (List.mem_append_left _ (List.mem_of_getElem? (i := 6) rfl))))))) (fun _ h9 => h9) rfl d_LN_addLine_111 ?_
    refine z_iconst hx hb (z := 2) d_LN_addLine_114 ?_
    refine z_aald hx hb hK hP (11) 1 (by decide) (fun _ => rfl) rfl rfl (2) rfl (by decide) (by decide) d_LN_addLine_115 ?_
    refine lv_iload hx hb d_LN_addLine_116 (lv_at hl 0 rfl) ?_
    refine z_iconst hx hb (z := 1) d_LN_addLine_118 ?_
    refine z_isub hx hb d_LN_addLine_119 (v := (((so : Nat) : Int) - 1)) rfl ?_
    refine z_iald hx hb hK hP (25) 0 (by decide) (fun _ => rfl) rfl (so - 1) (by omega) (by omega) (by decide) d_LN_addLine_120 ?_
    refine z_iadd hx hb d_LN_addLine_121 (v := (M_5 (24) (so - 1) + M_5 (25) (so - 1))) rfl ?_
    refine lv_goto (tgt := 127) hx hb d_LN_addLine_122 (by decide) ?_
    have hev : (M_5 (24) (so - 1) + M_5 (25) (so - 1)) = q_end (q_ps0 M i n a b x) a so x := by unfold q_end; rw [if_pos (by omega), show M_5 24 = q_ps0 M i n a b x 24 by rw [eM_5, eM_4, eM_3, eM_2, eM_1, mset_ne (by omega), mset_ne (by omega), mset_ne (by omega), mset_ne (by omega)], show M_5 25 = q_ps0 M i n a b x 25 by rw [eM_5, eM_4, eM_3, eM_2, eM_1, mset_ne (by omega), mset_ne (by omega), mset_ne (by omega), mset_ne (by omega)]]
    refine lv_topi (fun y_ ey => ?_)
    have ey := ey.trans (congrArg iI hev)
    subst ey
    refine z_iast hx hb hK hP hD hS (17) 0 (by decide) (fun _ => rfl) rfl (v := q_end (q_ps0 M i n a b x) a so x) (nl) hnm5 (by omega) (by decide) d_LN_addLine_127 (fun H locs hP hD hS => ?_)
    obtain ⟨M_10, eM_10⟩ : ∃ q_, q_ = mset M_5 (17) (nl) (q_end (q_ps0 M i n a b x) a so x) := ⟨_, rfl⟩
    have hP : va_P D vwCl (pg_w ad cs rp M_10) H := by rw [eM_10]; exact hP
    have hD : va_D (va_A (pg_w ad cs rp M) s.heap.size) (pg_w ad cs rp M_10) := by rw [eM_10]; exact hD
    have hq6 : eqb 13 25 M_10 M := by rw [eM_10]; exact eqb_set hq5 (by omega) (by omega)
    have hnm6 : M_10 3 2 = ((nl : Nat) : Int) := by rw [hq6 3 (by omega)]; exact hn
    refine lv_aload_n hx hb d_LN_addLine_128 rfl (lv_at hl 2 rfl) ?_
    refine z_get (ci := 3) (C := R_LN) (T := T_LN) (N := 6) (v := .ref (ad (10))) hx hb hg in_LN hown hK hP (3) (by decide) rfl rfl 0 (by decide) (hg _ (List.mem_append_right _ (List.mem_append_right _ (List.mem_append_right _ (List.mem_append_right _ (List.mem_append_left _ (List.mem_of_getElem? (i := 3) rfl))))))) (fun _ h9 => h9) rfl d_LN_addLine_129 ?_
    refine z_iconst hx hb (z := 5) d_LN_addLine_132 ?_
    refine z_aald hx hb hK hP (10) 1 (by decide) (fun _ => rfl) rfl rfl (5) rfl (by decide) (by decide) d_LN_addLine_133 ?_
    refine lv_aload_n hx hb d_LN_addLine_134 rfl (lv_at hl 2 rfl) ?_
    refine z_get (ci := 3) (C := R_LN) (T := T_LN) (N := 6) (v := .int (iI (M_10 (3) 2))) hx hb hg in_LN hown hK hP (3) (by decide) rfl rfl 2 (by decide) (hg _ (List.mem_append_right _ (List.mem_append_right _ (List.mem_append_right _ (List.mem_append_right _ (List.mem_append_left _ (List.mem_of_getElem? (i := 8) rfl))))))) (fun _ h9 => h9) rfl d_LN_addLine_135 ?_
    refine lv_aload_n hx hb d_LN_addLine_138 rfl (lv_at hl 2 rfl) ?_
    refine lv_aload hx hb d_LN_addLine_139 (lv_at hl 1 rfl) ?_
    refine lv_iload_n hx hb d_LN_addLine_141 rfl (lv_at hl 4 rfl) ?_
    refine lv_iload_n hx hb d_LN_addLine_142 rfl (lv_at hl 5 rfl) ?_
    have h9 : M_10 9 = M 9 := hq6 9 (by omega)
    have h30 : M_10 (30 + 4 * i) = M (30 + 4 * i) := hq6 _ (by omega)
    refine ro_V (As := [.ref (ad (29 + 4 * i)), .int (iI (((a : Nat) : Int))), .int (iI (((b : Nat) : Int)))]) (rest := [.int (iI (M_10 (3) 2)), .ref (ad (18))]) (z := p_hgt (M 9) b (b - a) a (M (30 + 4 * i) 10)) ⟨hx, hb, hml, hown, hg⟩ ((show p_hgt (M_10 9) b (b - a) a (M_10 (30 + 4 * i) 10) = p_hgt (M 9) b (b - a) a (M (30 + 4 * i) 10) by rw [h9, h30]) ▸ c_heightOf l i a b (by omega) hi hb6 (eqb_wfT hq6 (by omega) ht) (by rw [h30]; exact h10)) (cwV 3 hg (gt_V (List.mem_append_right _ (List.mem_append_right _ (List.mem_append_right _ (List.mem_append_right _ (List.mem_append_right _ (List.mem_append_right _ (List.mem_append_left _ (List.mem_of_getElem? (i := 26) rfl)))))))) (List.mem_append_right _ (List.mem_append_right _ (List.mem_append_right _ (List.mem_append_right _ (List.mem_append_right _ (List.mem_append_right _ (List.mem_append_left _ (List.mem_of_getElem? (i := 27) rfl)))))))) (List.mem_append_left _ (List.mem_of_getElem? (i := 6) rfl)) (List.mem_append_right _ (List.mem_append_left _ (List.mem_of_getElem? (i := 6) rfl))) (List.mem_append_right _ (List.mem_append_right _ (List.mem_append_right _ (List.mem_append_right _ (List.mem_append_right _ (List.mem_append_right _ (List.mem_append_left _ (List.mem_of_getElem? (i := 28) rfl))))))))) rfl rfl rfl (by decide +kernel) ⟨Nat.le_of_ble_eq_true rfl, Nat.le_of_ble_eq_true rfl⟩) hK hP (va_recv hK hP (ci := 3) (q0 := 3) rfl (wl_atE (by decide) rfl)) rfl hl.1 rfl (Nat.le_of_ble_eq_true rfl) d_LN_addLine_143 ⟨Nat.zero_le _, Nat.zero_le _⟩ ?_
    refine z_iast hx hb hK hP hD hS (18) 0 (by decide) (fun _ => rfl) rfl (v := p_hgt (M 9) b (b - a) a (M (30 + 4 * i) 10)) (nl) hnm6 (by omega) (by decide) d_LN_addLine_146 (fun H locs hP hD hS => ?_)
    obtain ⟨M_11, eM_11⟩ : ∃ q_, q_ = mset M_10 (18) (nl) (p_hgt (M 9) b (b - a) a (M (30 + 4 * i) 10)) := ⟨_, rfl⟩
    have hP : va_P D vwCl (pg_w ad cs rp M_11) H := by rw [eM_11]; exact hP
    have hD : va_D (va_A (pg_w ad cs rp M) s.heap.size) (pg_w ad cs rp M_11) := by rw [eM_11]; exact hD
    have hq7 : eqb 13 25 M_11 M := by rw [eM_11]; exact eqb_set hq6 (by omega) (by omega)
    have hnm7 : M_11 3 2 = ((nl : Nat) : Int) := by rw [hq7 3 (by omega)]; exact hn
    refine lv_aload_n hx hb d_LN_addLine_147 rfl (lv_at hl 2 rfl) ?_
    refine lv_aload hx hb d_LN_addLine_148 (lv_at hl 1 rfl) ?_
    refine lv_iload_n hx hb d_LN_addLine_150 rfl (lv_at hl 4 rfl) ?_
    refine lv_iload_n hx hb d_LN_addLine_151 rfl (lv_at hl 5 rfl) ?_
    have hAD : M_11 = q_ad1 M i n a b nl x := by rw [eM_11, eM_10, eM_5, eM_4, eM_3, eM_2, eM_1]; unfold q_ad1; rw [← eso]
    have k30 : M_11 (30 + 4 * i) = M (30 + 4 * i) := hq7 _ (by omega)
    have k17 : M_11 17 nl = q_end (q_ps0 M i n a b x) a so x := by rw [eM_11, mset_ne (by omega), eM_10, mset_same]
    refine rw_Vv (As := [.ref (ad (29 + 4 * i)), .int (iI (((a : Nat) : Int))), .int (iI (((b : Nat) : Int)))]) (rest := []) (w' := (pg_w ad cs rp (q_al M_11 i a b bp nl))) ⟨hx, hb, hml, hown, hg⟩ (c_align l _ i a b bp nl hi hab hb6 hbp hb1 (eqb_wfT hq7 (by omega) ht) (by rw [hq7 _ (by omega)]; exact hbe) hnm7 hn6 (by rw [k30]; exact h1) (by rw [k30]; exact h5) (by rw [k17]; exact hen)) (cwV 3 hg (gt_V (List.mem_append_right _ (List.mem_append_right _ (List.mem_append_right _ (List.mem_append_right _ (List.mem_append_right _ (List.mem_append_right _ (List.mem_append_left _ (List.mem_of_getElem? (i := 29) rfl)))))))) (List.mem_append_right _ (List.mem_append_right _ (List.mem_append_right _ (List.mem_append_right _ (List.mem_append_right _ (List.mem_append_right _ (List.mem_append_left _ (List.mem_of_getElem? (i := 30) rfl)))))))) (List.mem_append_left _ (List.mem_of_getElem? (i := 7) rfl)) (List.mem_append_right _ (List.mem_append_left _ (List.mem_of_getElem? (i := 6) rfl))) (List.mem_append_right _ (List.mem_append_right _ (List.mem_append_right _ (List.mem_append_right _ (List.mem_append_right _ (List.mem_append_right _ (List.mem_append_left _ (List.mem_of_getElem? (i := 31) rfl))))))))) rfl rfl rfl (by decide +kernel) ⟨Nat.le_of_ble_eq_true rfl, Nat.le_of_ble_eq_true rfl⟩) hK hP hD hS hA (va_recv hK hP (ci := 3) (q0 := 3) rfl (wl_atE (by decide) rfl)) rfl hl.1 rfl (Nat.le_of_ble_eq_true rfl) d_LN_addLine_152 ⟨Nat.zero_le _, Nat.zero_le _⟩ (fun H locs hP hD hS => ?_)
    obtain ⟨M_12, eM_12⟩ : ∃ q_, q_ = q_al M_11 i a b bp nl := ⟨_, rfl⟩
    have hP : va_P D vwCl (pg_w ad cs rp M_12) H := by rw [eM_12]; exact hP
    have hD : va_D (va_A (pg_w ad cs rp M) s.heap.size) (pg_w ad cs rp M_12) := by rw [eM_12]; exact hD
    have hnz : M_12 3 2 = ((nl : Nat) : Int) := by rw [eM_12, q_al_eq _ _ _ _ _ _ 3 (by omega)]; exact hnm7
    refine lv_aload_n hx hb d_LN_addLine_155 rfl (lv_at hl 2 rfl) ?_
    refine lv_dup hx hb d_LN_addLine_156 rfl ?_
    refine z_get (ci := 3) (C := R_LN) (T := T_LN) (N := 6) (v := .int (iI (M_12 (3) 2))) hx hb hg in_LN hown hK hP (3) (by decide) rfl rfl 2 (by decide) (hg _ (List.mem_append_right _ (List.mem_append_right _ (List.mem_append_right _ (List.mem_append_right _ (List.mem_append_left _ (List.mem_of_getElem? (i := 8) rfl))))))) (fun _ h9 => h9) rfl d_LN_addLine_157 ?_
    refine z_iconst hx hb (z := 1) d_LN_addLine_160 ?_
    refine z_iadd hx hb d_LN_addLine_161 (v := (M_12 (3) 2 + 1)) rfl ?_
    refine z_put (ci := 3) (C := R_LN) (T := T_LN) (N := 6) (v := .int (iI ((M_12 (3) 2 + 1)))) (ty := .int) (ce' := (pg_ce ad cs rp)) (r := va_up (M_12 (3)) 2 ((M_12 (3) 2 + 1))) hx hb hg in_LN ty_LN tk_LN nm_LN hown hK hP hD hS (3) (by decide) rfl rfl 2 (by decide) (hg _ (List.mem_append_right _ (List.mem_append_right _ (List.mem_append_right _ (List.mem_append_right _ (List.mem_append_left _ (List.mem_of_getElem? (i := 8) rfl))))))) (fun _ h9 => h9) rfl (by decide +kernel) rfl rfl (Nat.le_of_ble_eq_true rfl) (fun _ _ => rfl) rfl d_LN_addLine_162 (fun H locs hP hD hS => ?_)
    obtain ⟨M_13, eM_13⟩ : ∃ q_, q_ = mset M_12 (3) (2) ((M_12 (3) 2 + 1)) := ⟨_, rfl⟩
    have hP : va_P D vwCl (pg_w ad cs rp M_13) H := by rw [eM_13]; exact hP
    have hD : va_D (va_A (pg_w ad cs rp M) s.heap.size) (pg_w ad cs rp M_13) := by rw [eM_13]; exact hD
    have hM : M_13 = q_ad M i n a b bp nl x := by rw [eM_13]; unfold q_ad; rw [← hAD, ← eM_12, hnz]
    have eW : pg_w ad cs rp (M_13) = pg_w ad cs rp (q_ad M i n a b bp nl x) := by rw [hM]
    have hP := Eq.mp (congrArg (fun q => va_P D vwCl q _) eW) hP
    have hD := Eq.mp (congrArg (va_D _) eW) hD
    exact W.vret hx hb hr (fun t ht hW => ⟨⟨(), rfl, trivial, by rw [ht]; exact hP, va_K.moved hW.alike hK, hD⟩, hS.F ht⟩) hS.2.2 d_LN_addLine_165
