/-! The law's loop. My own. -/
set_option maxHeartbeats 4000000 in
set_option maxRecDepth 100000 in
theorem lw_loop {p : Program} {l : Launch} {e : Env} {s : State} {m : MethodId} {below : List Frame} {meth : Method} {c : Code} {Q : State → Prop} {b L : Nat} {xs : Nat → Int32} {D : va_G} {cs : pg_C} {cJ : ClassId} {ao : Nat} {ad ad2 : Nat → Nat} (hx : p.tables.exec = Jvm.exec) (hb : c.code = code) (hml : c.maxLocals = 7) (hown : s.vm.findClass R_LW = some m.cls) (hts : ∀ w ∈ lw_tbl, w.before #[Value.ref b] s = true) (hfl : l.flags = flags0) (hK : va_K D vwCl (pg_tys cs) s) (hKJ : va_K D vwCl [(cJ, .long)] s) (hT : z_T s) (hX : va_X b L xs s s.heap) (hbl : b < s.heap.size) (hL : L ≤ 2048) (kx : ∀ (k : Nat) (H : Heap) (locs : List Loc) (ls : Array Slot), k ≤ 512 → va_S (aH s) s.heap H locs → W p l e room_1 s m #[Value.ref b] below meth c H locs (175 + k) (25604 + 6 * k) Q (F0 m 763 ls [])) : ∀ (fu k : Nat) (M N : Nat → Nat → Int) (np ns : Nat) (rp : Option Nat) (f : Nat → Int64) (H : Heap) (locs : List Loc) (ls : Array Slot), L ≤ 4 * (k + fu) → 4 * k ≤ L → lw_St D cs cJ ao ad ad2 s M N np ns rp f H locs → lv_has ls 7 [(4, .int (iI ((4 * k : Nat) : Int))), (3, .ref ao), (2, .ref (ad2 0)), (1, .ref (ad 0)), (0, .ref b)] → W p l e room_1 s m #[Value.ref b] below meth c H locs (175 + k) (25604 + 6 * k) Q (F0 m 23 ls []) := by
  intro fu
  induction fu with
  | zero =>
    intro k M N np ns rp f H locs ls hfu hkL hs hl
    have hS := hs.2.2.2.2
    refine lv_iload hx hb d_law_23 (lv_at hl 0 rfl) ?_
    refine lv_aload_n hx hb d_law_25 rfl (lv_at hl 4 rfl) ?_
    refine lw_slen hx hb hX hbl hS d_law_26 ?_
    refine z_iconst hx hb (z := 4) d_law_27 ?_
    refine z_isub hx hb d_law_28 (v := ((L : Nat) : Int) - 4) rfl ?_
    refine z_icmp_gt hx hb (tgt := 763) d_law_29 (by decide) ⟨by omega, by omega⟩ ⟨by omega, by omega⟩ (fun c_29 => ?_) (fun c_29 => ?_)
    · exact kx k H locs ls (by omega) hS
    · exfalso; omega
  | succ fu ih =>
    intro k M N np ns rp f H locs ls hfu hkL hs hl
    have hS := hs.2.2.2.2
    refine lv_iload hx hb d_law_23 (lv_at hl 0 rfl) ?_
    refine lv_aload_n hx hb d_law_25 rfl (lv_at hl 4 rfl) ?_
    refine lw_slen hx hb hX hbl hS d_law_26 ?_
    refine z_iconst hx hb (z := 4) d_law_27 ?_
    refine z_isub hx hb d_law_28 (v := ((L : Nat) : Int) - 4) rfl ?_
    refine z_icmp_gt hx hb (tgt := 763) d_law_29 (by decide) ⟨by omega, by omega⟩ ⟨by omega, by omega⟩ (fun c_29 => ?_) (fun c_29 => ?_)
    · exact kx k H locs ls (by omega) hS
    · have hk : 4 * k + 3 < L := by omega
      have kk : ∀ (M N : Nat → Nat → Int) (np ns : Nat) (rp : Option Nat) (f : Nat → Int64) (H : Heap) (locs : List Loc) (ls : Array Slot), lw_St D cs cJ ao ad ad2 s M N np ns rp f H locs → lv_has ls 7 [(4, .int (iI ((4 * k : Nat) : Int))), (3, .ref ao), (2, .ref (ad2 0)), (1, .ref (ad 0)), (0, .ref b)] → W p l e room_1 s m #[Value.ref b] below meth c H locs (175 + (k + 1)) (25604 + 6 * (k + 1)) Q (F0 m 757 ls []) := by
        intro M N np ns rp f H locs ls hs hl
        refine z_iinc (v := ((4 * (k + 1) : Nat) : Int)) (lv' := [(4, .int (iI ((4 * (k + 1) : Nat) : Int))), (3, .ref ao), (2, .ref (ad2 0)), (1, .ref (ad 0)), (0, .ref b)]) hx hb d_law_757 hl (k := 0) rfl (by omega) (by decide) rfl (fun ls hl => ?_)
        refine lv_goto (tgt := 23) hx hb d_law_760 (by decide) ?_
        exact ih (k + 1) M N np ns rp f H locs ls (by omega) (by omega) hs hl
      refine lv_aload_n hx hb d_law_32 rfl (lv_at hl 4 rfl) ?_
      refine lv_iload hx hb d_law_33 (lv_at hl 0 rfl) ?_
      refine lw_sld (j := 4 * k) hx hb hX hbl hS (by omega) hL d_law_35 ?_
      refine z_bipush hx hb (z := 15) d_law_36 (by decide) ?_
      refine lv_iand hx hb d_law_38 ?_
      obtain ⟨z, hz⟩ : ∃ z : Int, z = (iI (xs (4 * k)).toInt &&& iI 15).toInt := ⟨_, rfl⟩
      have hzz : zb z := by rw [hz]; exact zb_of _
      rw [← iI_of (iI (xs (4 * k)).toInt &&& iI 15), ← hz]
      rcases (show (z < 0 ∨ 11 < z) ∨ z = 0 ∨ z = 1 ∨ z = 2 ∨ z = 3 ∨ z = 4 ∨ z = 5 ∨ z = 6 ∨ z = 7 ∨ z = 8 ∨ z = 9 ∨ z = 10 ∨ z = 11 by omega) with c_39 | c_39 | c_39 | c_39 | c_39 | c_39 | c_39 | c_39 | c_39 | c_39 | c_39 | c_39 | c_39
      · refine z_tabOut hx hb (tgt := 757) d_law_39 hzz c_39 (by decide) ?_
        refine W.widen (k := 175 + (k + 1)) (n := 25604 + 6 * (k + 1)) (by omega) (by omega) ?_
        exact kk M N np ns rp f H locs ls hs hl
      · refine z_tabIn hx hb (tgt := 100) d_law_39 hzz 0 (by omega) (by omega) rfl (by decide) ?_
        exact lc_clear hx hb hml hown hts hfl hK hKJ hT hX hbl hL k hk hs hl kk
      · refine z_tabIn hx hb (tgt := 111) d_law_39 hzz 1 (by omega) (by omega) rfl (by decide) ?_
        exact lc_paragraph hx hb hml hown hts hfl hK hKJ hT hX hbl hL k hk hs hl kk
      · refine z_tabIn hx hb (tgt := 155) d_law_39 hzz 2 (by omega) (by omega) rfl (by decide) ?_
        exact lc_sign hx hb hml hown hts hfl hK hKJ hT hX hbl hL k hk hs hl kk
      · refine z_tabIn hx hb (tgt := 235) d_law_39 hzz 3 (by omega) (by omega) rfl (by decide) ?_
        exact lc_shape hx hb hml hown hts hfl hK hKJ hT hX hbl hL k hk hs hl kk
      · refine z_tabIn hx hb (tgt := 295) d_law_39 hzz 4 (by omega) (by omega) rfl (by decide) ?_
        exact lc_stop hx hb hml hown hts hfl hK hKJ hT hX hbl hL k hk hs hl kk
      · refine z_tabIn hx hb (tgt := 375) d_law_39 hzz 5 (by omega) (by omega) rfl (by decide) ?_
        exact lc_sheet hx hb hml hown hts hfl hK hKJ hT hX hbl hL k hk hs hl kk
      · refine z_tabIn hx hb (tgt := 435) d_law_39 hzz 6 (by omega) (by omega) rfl (by decide) ?_
        exact lc_lay hx hb hml hown hts hfl hK hKJ hT hX hbl hL k hk hs hl kk
      · refine z_tabIn hx hb (tgt := 448) d_law_39 hzz 7 (by omega) (by omega) rfl (by decide) ?_
        exact lc_count hx hb hml hown hts hfl hK hKJ hT hX hbl hL k hk hs hl kk
      · refine z_tabIn hx hb (tgt := 473) d_law_39 hzz 8 (by omega) (by omega) rfl (by decide) ?_
        exact lc_line hx hb hml hown hts hfl hK hKJ hT hX hbl hL k hk hs hl kk
      · refine z_tabIn hx hb (tgt := 541) d_law_39 hzz 9 (by omega) (by omega) rfl (by decide) ?_
        exact lc_where hx hb hml hown hts hfl hK hKJ hT hX hbl hL k hk hs hl kk
      · refine z_tabIn hx hb (tgt := 609) d_law_39 hzz 10 (by omega) (by omega) rfl (by decide) ?_
        exact lc_page hx hb hml hown hts hfl hK hKJ hT hX hbl hL k hk hs hl kk
      · refine z_tabIn hx hb (tgt := 677) d_law_39 hzz 11 (by omega) (by omega) rfl (by decide) ?_
        exact lc_hit hx hb hml hown hts hfl hK hKJ hT hX hbl hL k hk hs hl kk
