set_option maxHeartbeats 4000000 in
set_option maxRecDepth 100000 in
theorem lc_page {p : Program} {l : Launch} {e : Env} {s : State} {m : MethodId} {below : List Frame} {meth : Method} {c : Code} {Q : State → Prop} {b L : Nat} {xs : Nat → Int32} {D : va_G} {cs : pg_C} {cJ : ClassId} {ao : Nat} {ad ad2 : Nat → Nat} (hx : p.tables.exec = Jvm.exec) (hb : c.code = code) (hml : c.maxLocals = 7) (hown : s.vm.findClass R_LW = some m.cls) (hts : ∀ w ∈ lw_tbl, w.before #[Value.ref b] s = true) (hfl : l.flags = flags0) (hK : va_K D vwCl (pg_tys cs) s) (hKJ : va_K D vwCl [(cJ, .long)] s) (hT : z_T s) (hX : va_X b L xs s s.heap) (hbl : b < s.heap.size) (hL : L ≤ 2048) (k : Nat) (hk : 4 * k + 3 < L) {M N : Nat → Nat → Int} {np ns : Nat} {rp : Option Nat} {f : Nat → Int64} {H : Heap} {locs : List Loc} {ls : Array Slot} (hs : lw_St D cs cJ ao ad ad2 s M N np ns rp f H locs) (hl : lv_has ls 7 [(4, .int (iI ((4 * k : Nat) : Int))), (3, .ref ao), (2, .ref (ad2 0)), (1, .ref (ad 0)), (0, .ref b)]) (kk : ∀ (M N : Nat → Nat → Int) (np ns : Nat) (rp : Option Nat) (f : Nat → Int64) (H : Heap) (locs : List Loc) (ls : Array Slot), lw_St D cs cJ ao ad ad2 s M N np ns rp f H locs → lv_has ls 7 [(4, .int (iI ((4 * k : Nat) : Int))), (3, .ref ao), (2, .ref (ad2 0)), (1, .ref (ad 0)), (0, .ref b)] → W p l e room_1 s m #[Value.ref b] below meth c H locs (175 + (k + 1)) (25604 + 6 * (k + 1)) Q (F0 m 757 ls [])) : W p l e room_1 s m #[Value.ref b] below meth c H locs (175 + k) (25604 + 6 * k) Q (F0 m 609 ls []) := by
  obtain ⟨hi, ⟨hP, hPm, hPo⟩, ⟨hD, hDm, hDo⟩, ⟨j1, j2, j3⟩, hS⟩ := hs
  have hg : ∀ w ∈ gt, w.before #[Value.ref b] s = true := fun w h => hts w (gt_in w h)
  have hKm : va_K D vwCl (mo_tys cs.1) s := hK.sub [0] rfl
  have hA : ∀ q : Nat, s.heap.size ≤ q → aH s q := fun q h => h
  obtain ⟨e1, he1⟩ : ∃ z : Int, z = (xs (4 * k + 1)).toInt := ⟨_, rfl⟩
  have z1 : zb e1 := by rw [he1]; exact zb_of _
  obtain ⟨e2, he2⟩ : ∃ z : Int, z = (xs (4 * k + 2)).toInt := ⟨_, rfl⟩
  have z2 : zb e2 := by rw [he2]; exact zb_of _
  obtain ⟨e3, he3⟩ : ∃ z : Int, z = (xs (4 * k + 3)).toInt := ⟨_, rfl⟩
  have z3 : zb e3 := by rw [he3]; exact zb_of _
  refine lv_aload_n hx hb d_law_609 rfl (lv_at hl 3 rfl) ?_
  refine lv_aload_n hx hb d_law_610 rfl (lv_at hl 4 rfl) ?_
  refine lv_iload hx hb d_law_611 (lv_at hl 0 rfl) ?_
  refine z_iconst hx hb (z := 1) d_law_613 ?_
  refine z_iadd hx hb d_law_614 (v := ((4 * k + 1 : Nat) : Int)) (by omega) ?_
  refine lw_sld (j := 4 * k + 1) hx hb hX hbl hS (by omega) hL d_law_615 ?_
  rw [← he1]
  refine lv_aload_n hx hb d_law_616 rfl (lv_at hl 4 rfl) ?_
  refine lv_iload hx hb d_law_617 (lv_at hl 0 rfl) ?_
  refine z_iconst hx hb (z := 2) d_law_619 ?_
  refine z_iadd hx hb d_law_620 (v := ((4 * k + 2 : Nat) : Int)) (by omega) ?_
  refine lw_sld (j := 4 * k + 2) hx hb hX hbl hS (by omega) hL d_law_621 ?_
  rw [← he2]
  refine lv_aload_n hx hb d_law_622 rfl (lv_at hl 1 rfl) ?_
  refine lw_SW (n := 4) (As := [.ref (ad 0), .int (iI e1), .int (iI e2), .ref ao]) (rest := []) (z := r_pgc N e1 e2) (w' := pg_w ad cs rp (M)) (w2' := wo cJ ao (if r_pgc N e1 e2 = 0 then (fun _ => (iI (r_pgv N e1.toNat e2)).toInt64) else f)) ⟨hx, hb, hml, hown, hts⟩ (j_page l hfl _ hi e1 e2 z1 z2) rfl rfl ⟨Nat.le_of_ble_eq_true rfl, Nat.le_of_ble_eq_true rfl⟩ (lw_hws hts cw_page cwk_page) List.mem_cons_self (hg _ (List.mem_append_right _ (List.mem_append_left _ (List.mem_of_getElem? (i := 1) rfl)))) (by decide +kernel) (hg _ (List.mem_append_right _ (List.mem_append_right _ (List.mem_append_right _ (List.mem_append_right _ (List.mem_append_right _ (List.mem_append_right _ (List.mem_append_right _ (List.mem_append_right _ (List.mem_append_right _ (List.mem_append_right _ (List.mem_append_right _ (List.mem_append_right _ (List.mem_append_left _ (List.mem_of_getElem? (i := 17) rfl))))))))))))))) (hg _ (List.mem_append_right _ (List.mem_append_right _ (List.mem_append_right _ (List.mem_append_right _ (List.mem_append_right _ (List.mem_append_right _ (List.mem_append_right _ (List.mem_append_right _ (List.mem_append_right _ (List.mem_append_right _ (List.mem_append_right _ (List.mem_append_right _ (List.mem_append_left _ (List.mem_of_getElem? (i := 18) rfl))))))))))))))) hK hKJ hP hPo hD hDo j2 hS hT hA (fun q h => Nat.not_le.mpr h) rfl hl.1 rfl (Nat.le_of_ble_eq_true rfl) d_law_623 ⟨by show 175 + k + 1 ≤ 601024; omega, by show 25604 + 6 * k + 6 ≤ 7293034; omega⟩ (fun H1 locs1 hP1 hPo1 hD1 hDo1 hDq hDoq hS1 hz1 hk1 => ?_)
  have hPm1 := z_keep hPm (dj_app j1 j3.symm) hk1
  have hS := hS1
  have haf := (⟨inv_code _ hi, mset_same _ _ _ _, pgc_b N e1 e2⟩ : INV M (mset N 0 0 (r_pgc N e1 e2)) np ns ∧ mset N 0 0 (r_pgc N e1 e2) 0 0 = r_pgc N e1 e2 ∧ _)
  obtain ⟨cd, hcd⟩ : ∃ z : Int, z = r_pgc N e1 e2 := ⟨_, rfl⟩
  have hcz : zb cd := by have h9 := haf.2.2; rw [← hcd] at h9; exact ⟨by omega, by omega⟩
  have hth : (mset N 0 0 (r_pgc N e1 e2)) 0 0 = cd := by rw [hcd]; exact haf.2.1
  have hi2 : INV (M) (mset N 0 0 (r_pgc N e1 e2)) (np) (ns) := haf.1
  obtain ⟨M2, hM2⟩ : ∃ q, q = (M) := ⟨_, rfl⟩
  obtain ⟨N2, hN2⟩ : ∃ q, q = (mset N 0 0 (r_pgc N e1 e2)) := ⟨_, rfl⟩
  obtain ⟨f2, hf2⟩ : ∃ q : Nat → Int64, q = (if r_pgc N e1 e2 = 0 then (fun _ => (iI (r_pgv N e1.toNat e2)).toInt64) else f) := ⟨_, rfl⟩
  rw [← hM2] at hP1 hD1 hDq
  rw [← hM2, ← hN2] at hi2
  rw [← hN2] at hth
  rw [← hf2] at hPo1 hDo1 hDoq
  rw [← hcd]
  refine lv_istore (lv' := [(5, .int (iI cd)), (4, .int (iI ((4 * k : Nat) : Int))), (3, .ref ao), (2, .ref (ad2 0)), (1, .ref (ad 0)), (0, .ref b)]) hx hb d_law_626 hl (by decide) rfl (fun ls hl => ?_)
  refine lv_aload_n hx hb d_law_628 rfl (lv_at hl 3 rfl) ?_
  refine lv_aload_n hx hb d_law_629 rfl (lv_at hl 5 rfl) ?_
  refine lv_iload hx hb d_law_630 (lv_at hl 1 rfl) ?_
  refine z_iconst hx hb (z := 1) d_law_632 ?_
  refine z_iadd hx hb d_law_633 (v := ((4 * k + 1 : Nat) : Int)) (by omega) ?_
  refine lw_sld (j := 4 * k + 1) hx hb hX hbl hS (by omega) hL d_law_634 ?_
  rw [← he1]
  refine lv_aload_n hx hb d_law_635 rfl (lv_at hl 5 rfl) ?_
  refine lv_iload hx hb d_law_636 (lv_at hl 1 rfl) ?_
  refine z_iconst hx hb (z := 2) d_law_638 ?_
  refine z_iadd hx hb d_law_639 (v := ((4 * k + 2 : Nat) : Int)) (by omega) ?_
  refine lw_sld (j := 4 * k + 2) hx hb hX hbl hS (by omega) hL d_law_640 ?_
  rw [← he2]
  have jc : dj (mo_w ad2 cs.1 N) (pg_w ad cs rp M2) := (pg_dj j1).symm
  have jo : dj (mo_w ad2 cs.1 N) (wo cJ ao f2) := wo_dj j3
  refine lw_Vi (As := [.int (iI e1), .int (iI e2)]) (rest := []) (z := if r_pgc N e1 e2 = 0 then r_pgv N e1.toNat e2 else 0) (w' := mo_w ad2 cs.1 (mset N 0 0 (r_pgc N e1 e2))) ⟨hx, hb, hml, hown, hg⟩ (r_page l _ e1 e2 z1 z2 (inv_G hi).1 (inv_G hi).2) (cwV 2 hg (gt_V (List.mem_append_right _ (List.mem_append_right _ (List.mem_append_right _ (List.mem_append_right _ (List.mem_append_right _ (List.mem_append_right _ (List.mem_append_right _ (List.mem_append_right _ (List.mem_append_right _ (List.mem_append_right _ (List.mem_append_right _ (List.mem_append_right _ (List.mem_append_right _ (List.mem_append_right _ (List.mem_append_right _ (List.mem_append_right _ (List.mem_append_right _ (List.mem_of_getElem? (i := 14) rfl)))))))))))))))))) (List.mem_append_right _ (List.mem_append_right _ (List.mem_append_right _ (List.mem_append_right _ (List.mem_append_right _ (List.mem_append_right _ (List.mem_append_right _ (List.mem_append_right _ (List.mem_append_right _ (List.mem_append_right _ (List.mem_append_right _ (List.mem_append_right _ (List.mem_append_right _ (List.mem_append_right _ (List.mem_append_right _ (List.mem_append_right _ (List.mem_append_right _ (List.mem_of_getElem? (i := 15) rfl)))))))))))))))))) (List.mem_append_right _ (List.mem_append_right _ (List.mem_append_right _ (List.mem_append_right _ (List.mem_append_right _ (List.mem_append_right _ (List.mem_append_right _ (List.mem_append_right _ (List.mem_append_right _ (List.mem_append_right _ (List.mem_append_right _ (List.mem_append_right _ (List.mem_append_right _ (List.mem_append_right _ (List.mem_append_right _ (List.mem_append_right _ (List.mem_append_right _ (List.mem_of_getElem? (i := 16) rfl)))))))))))))))))) (List.mem_append_right _ (List.mem_append_left _ (List.mem_of_getElem? (i := 9) rfl))) (List.mem_append_right _ (List.mem_append_right _ (List.mem_append_right _ (List.mem_append_right _ (List.mem_append_right _ (List.mem_append_right _ (List.mem_append_right _ (List.mem_append_right _ (List.mem_append_right _ (List.mem_append_right _ (List.mem_append_right _ (List.mem_append_right _ (List.mem_append_right _ (List.mem_append_right _ (List.mem_append_right _ (List.mem_append_right _ (List.mem_append_right _ (List.mem_of_getElem? (i := 17) rfl))))))))))))))))))) rfl rfl rfl (by decide +kernel) ⟨Nat.le_of_ble_eq_true rfl, Nat.le_of_ble_eq_true rfl⟩) rw_blind (fun U hU hW => ⟨by rw [hU], by rw [hU]; exact hPm1, va_K.moved hW.alike hKm, hDm.weaken (fun _ _ _ _ => trivial)⟩) hDm hS1 hA (va_recv hKm hPm1 (ci := 7) (q0 := 0) rfl (wl_atE (by decide) rfl)) rfl hl.1 rfl (Nat.le_of_ble_eq_true rfl) d_law_641 ⟨by show 175 + k + 1 + 0 ≤ 601024; omega, by show 25604 + 6 * k + 6 + 0 ≤ 7293034; omega⟩ (fun H2 locs2 hPm2 hDm2 hDmq hS2 hk2 => ?_)
  have hP2 := z_keep hP1 jc hk2
  have hPo2 := z_keep hPo1 jo hk2
  rw [← hN2] at hPm2 hDm2
  obtain ⟨bz2, hbz⟩ : ∃ z : Int, z = (if r_pgc N e1 e2 = 0 then r_pgv N e1.toNat e2 else 0) := ⟨_, rfl⟩
  rw [← hbz]
  refine lv_istore (lv' := [(6, .int (iI bz2)), (5, .int (iI cd)), (4, .int (iI ((4 * k : Nat) : Int))), (3, .ref ao), (2, .ref (ad2 0)), (1, .ref (ad 0)), (0, .ref b)]) hx hb d_law_644 hl (by decide) rfl (fun ls hl => ?_)
  refine lv_aload_n hx hb d_law_646 rfl (lv_at hl 4 rfl) ?_
  refine ro_V (As := []) (rest := []) (z := N2 0 0) ⟨hx, hb, hml, hown, hg⟩ (r_thrown l) (cwV 0 hg (gt_V (List.mem_append_right _ (List.mem_append_right _ (List.mem_append_right _ (List.mem_append_right _ (List.mem_append_right _ (List.mem_append_right _ (List.mem_append_right _ (List.mem_append_right _ (List.mem_append_right _ (List.mem_append_right _ (List.mem_append_right _ (List.mem_append_right _ (List.mem_append_right _ (List.mem_append_right _ (List.mem_append_left _ (List.mem_of_getElem? (i := 27) rfl)))))))))))))))) (List.mem_append_right _ (List.mem_append_right _ (List.mem_append_right _ (List.mem_append_right _ (List.mem_append_right _ (List.mem_append_right _ (List.mem_append_right _ (List.mem_append_right _ (List.mem_append_right _ (List.mem_append_right _ (List.mem_append_right _ (List.mem_append_right _ (List.mem_append_right _ (List.mem_append_right _ (List.mem_append_left _ (List.mem_of_getElem? (i := 28) rfl)))))))))))))))) (List.mem_append_right _ (List.mem_append_right _ (List.mem_append_right _ (List.mem_append_right _ (List.mem_append_right _ (List.mem_append_right _ (List.mem_append_right _ (List.mem_append_right _ (List.mem_append_right _ (List.mem_append_right _ (List.mem_append_right _ (List.mem_append_right _ (List.mem_append_right _ (List.mem_append_right _ (List.mem_append_left _ (List.mem_of_getElem? (i := 29) rfl)))))))))))))))) (List.mem_append_right _ (List.mem_append_left _ (List.mem_of_getElem? (i := 9) rfl))) (List.mem_append_right _ (List.mem_append_right _ (List.mem_append_right _ (List.mem_append_right _ (List.mem_append_right _ (List.mem_append_right _ (List.mem_append_right _ (List.mem_append_right _ (List.mem_append_right _ (List.mem_append_right _ (List.mem_append_right _ (List.mem_append_right _ (List.mem_append_right _ (List.mem_append_right _ (List.mem_append_left _ (List.mem_of_getElem? (i := 30) rfl))))))))))))))))) rfl rfl rfl (by decide +kernel) ⟨Nat.le_of_ble_eq_true rfl, Nat.le_of_ble_eq_true rfl⟩) hKm hPm2 (va_recv hKm hPm2 (ci := 7) (q0 := 0) rfl (wl_atE (by decide) rfl)) rfl hl.1 rfl (Nat.le_of_ble_eq_true rfl) d_law_647 ⟨by show 175 + k + 1 + 0 ≤ 601024; omega, by show 25604 + 6 * k + 6 + 0 ≤ 7293034; omega⟩ ?_
  rw [hth]
  refine lv_iload hx hb d_law_650 (lv_at hl 1 rfl) ?_
  refine z_icmp_eq hx hb (tgt := 657) d_law_652 (by decide) hcz hcz (fun c_652 => ?_) (fun c_652 => absurd rfl c_652)
  have hst : lw_St D cs cJ ao ad ad2 s M2 N2 (np) (ns) rp f2 H2 locs2 := ⟨hi2, ⟨hP2, hPm2, hPo2⟩, ⟨hD1, hDm2, hDo1⟩, ⟨(mo_dj jc).symm, pg_dj (wo_dj j2), mo_dj jo⟩, hS2⟩
  have hl9 : lv_has ls 7 [(4, .int (iI ((4 * k : Nat) : Int))), (3, .ref ao), (2, .ref (ad2 0)), (1, .ref (ad 0)), (0, .ref b)] := lv_sub hl [2, 3, 4, 5, 6] rfl
  have hgo : W p l e room_1 s m #[Value.ref b] below meth c H2 locs2 (175 + k + 1) (25604 + 6 * k + 6) Q (F0 m 757 ls []) := kk M2 N2 _ _ rp f2 H2 locs2 ls hst hl9
  refine lv_iload hx hb d_law_657 (lv_at hl 1 rfl) ?_
  refine z_if_ne hx hb (tgt := 674) d_law_659 (by decide) hcz (fun c_659 => lv_goto (tgt := 757) hx hb d_law_674 (by decide) hgo) (fun c_659 => ?_)
  refine lv_aload_n hx hb d_law_662 rfl (lv_at hl 3 rfl) ?_
  refine z_iconst hx hb (z := 0) d_law_663 ?_
  refine va_lald hx hb hKJ hPo2 0 0 rfl rfl (iI_in (n := 1) (j := 0) (by decide) (by decide)) d_law_664 ?_
  refine lv_iload hx hb d_law_665 (lv_at hl 0 rfl) ?_
  refine lv_i2l hx hb d_law_667 rfl ?_
  have hz0 : r_pgc N e1 e2 = 0 := by rw [← hcd]; exact c_659
  have hb9 : bz2 = r_pgv N e1.toNat e2 := by rw [hbz, if_pos hz0]
  refine lw_same hx hb (tgt := 674) (by rw [hf2, if_pos hz0, hb9]) d_law_668 d_law_669 (by decide) ?_
  exact lv_goto (tgt := 757) hx hb d_law_674 (by decide) hgo
set_option maxHeartbeats 4000000 in
set_option maxRecDepth 100000 in
theorem lc_hit {p : Program} {l : Launch} {e : Env} {s : State} {m : MethodId} {below : List Frame} {meth : Method} {c : Code} {Q : State → Prop} {b L : Nat} {xs : Nat → Int32} {D : va_G} {cs : pg_C} {cJ : ClassId} {ao : Nat} {ad ad2 : Nat → Nat} (hx : p.tables.exec = Jvm.exec) (hb : c.code = code) (hml : c.maxLocals = 7) (hown : s.vm.findClass R_LW = some m.cls) (hts : ∀ w ∈ lw_tbl, w.before #[Value.ref b] s = true) (hfl : l.flags = flags0) (hK : va_K D vwCl (pg_tys cs) s) (hKJ : va_K D vwCl [(cJ, .long)] s) (hT : z_T s) (hX : va_X b L xs s s.heap) (hbl : b < s.heap.size) (hL : L ≤ 2048) (k : Nat) (hk : 4 * k + 3 < L) {M N : Nat → Nat → Int} {np ns : Nat} {rp : Option Nat} {f : Nat → Int64} {H : Heap} {locs : List Loc} {ls : Array Slot} (hs : lw_St D cs cJ ao ad ad2 s M N np ns rp f H locs) (hl : lv_has ls 7 [(4, .int (iI ((4 * k : Nat) : Int))), (3, .ref ao), (2, .ref (ad2 0)), (1, .ref (ad 0)), (0, .ref b)]) (kk : ∀ (M N : Nat → Nat → Int) (np ns : Nat) (rp : Option Nat) (f : Nat → Int64) (H : Heap) (locs : List Loc) (ls : Array Slot), lw_St D cs cJ ao ad ad2 s M N np ns rp f H locs → lv_has ls 7 [(4, .int (iI ((4 * k : Nat) : Int))), (3, .ref ao), (2, .ref (ad2 0)), (1, .ref (ad 0)), (0, .ref b)] → W p l e room_1 s m #[Value.ref b] below meth c H locs (175 + (k + 1)) (25604 + 6 * (k + 1)) Q (F0 m 757 ls [])) : W p l e room_1 s m #[Value.ref b] below meth c H locs (175 + k) (25604 + 6 * k) Q (F0 m 677 ls []) := by
  obtain ⟨hi, ⟨hP, hPm, hPo⟩, ⟨hD, hDm, hDo⟩, ⟨j1, j2, j3⟩, hS⟩ := hs
  have hg : ∀ w ∈ gt, w.before #[Value.ref b] s = true := fun w h => hts w (gt_in w h)
  have hKm : va_K D vwCl (mo_tys cs.1) s := hK.sub [0] rfl
  have hA : ∀ q : Nat, s.heap.size ≤ q → aH s q := fun q h => h
  obtain ⟨e1, he1⟩ : ∃ z : Int, z = (xs (4 * k + 1)).toInt := ⟨_, rfl⟩
  have z1 : zb e1 := by rw [he1]; exact zb_of _
  obtain ⟨e2, he2⟩ : ∃ z : Int, z = (xs (4 * k + 2)).toInt := ⟨_, rfl⟩
  have z2 : zb e2 := by rw [he2]; exact zb_of _
  obtain ⟨e3, he3⟩ : ∃ z : Int, z = (xs (4 * k + 3)).toInt := ⟨_, rfl⟩
  have z3 : zb e3 := by rw [he3]; exact zb_of _
  refine lv_aload_n hx hb d_law_677 rfl (lv_at hl 3 rfl) ?_
  refine lv_aload_n hx hb d_law_678 rfl (lv_at hl 4 rfl) ?_
  refine lv_iload hx hb d_law_679 (lv_at hl 0 rfl) ?_
  refine z_iconst hx hb (z := 1) d_law_681 ?_
  refine z_iadd hx hb d_law_682 (v := ((4 * k + 1 : Nat) : Int)) (by omega) ?_
  refine lw_sld (j := 4 * k + 1) hx hb hX hbl hS (by omega) hL d_law_683 ?_
  rw [← he1]
  refine lv_aload_n hx hb d_law_684 rfl (lv_at hl 4 rfl) ?_
  refine lv_iload hx hb d_law_685 (lv_at hl 0 rfl) ?_
  refine z_iconst hx hb (z := 2) d_law_687 ?_
  refine z_iadd hx hb d_law_688 (v := ((4 * k + 2 : Nat) : Int)) (by omega) ?_
  refine lw_sld (j := 4 * k + 2) hx hb hX hbl hS (by omega) hL d_law_689 ?_
  rw [← he2]
  refine lv_aload_n hx hb d_law_690 rfl (lv_at hl 4 rfl) ?_
  refine lv_iload hx hb d_law_691 (lv_at hl 0 rfl) ?_
  refine z_iconst hx hb (z := 3) d_law_693 ?_
  refine z_iadd hx hb d_law_694 (v := ((4 * k + 3 : Nat) : Int)) (by omega) ?_
  refine lw_sld (j := 4 * k + 3) hx hb hX hbl hS (by omega) hL d_law_695 ?_
  rw [← he3]
  refine lv_aload_n hx hb d_law_696 rfl (lv_at hl 1 rfl) ?_
  refine lw_SW (n := 5) (As := [.ref (ad 0), .int (iI e1), .int (iI e2), .int (iI e3), .ref ao]) (rest := []) (z := r_htc N e1) (w' := pg_w ad cs rp (M)) (w2' := wo cJ ao (if r_htc N e1 = 0 then (fun _ => (iI (((r_hit N e1.toNat e2 e3 : Nat) : Int))).toInt64) else f)) ⟨hx, hb, hml, hown, hts⟩ (j_hit l hfl _ hi e1 e2 e3 z1 z2 z3) rfl rfl ⟨Nat.le_of_ble_eq_true rfl, Nat.le_of_ble_eq_true rfl⟩ (lw_hws hts cw_hit cwk_hit) List.mem_cons_self (hg _ (List.mem_append_right _ (List.mem_append_left _ (List.mem_of_getElem? (i := 1) rfl)))) (by decide +kernel) (hg _ (List.mem_append_right _ (List.mem_append_right _ (List.mem_append_right _ (List.mem_append_right _ (List.mem_append_right _ (List.mem_append_right _ (List.mem_append_right _ (List.mem_append_right _ (List.mem_append_right _ (List.mem_append_right _ (List.mem_append_right _ (List.mem_append_right _ (List.mem_append_left _ (List.mem_of_getElem? (i := 23) rfl))))))))))))))) (hg _ (List.mem_append_right _ (List.mem_append_right _ (List.mem_append_right _ (List.mem_append_right _ (List.mem_append_right _ (List.mem_append_right _ (List.mem_append_right _ (List.mem_append_right _ (List.mem_append_right _ (List.mem_append_right _ (List.mem_append_right _ (List.mem_append_right _ (List.mem_append_left _ (List.mem_of_getElem? (i := 24) rfl))))))))))))))) hK hKJ hP hPo hD hDo j2 hS hT hA (fun q h => Nat.not_le.mpr h) rfl hl.1 rfl (Nat.le_of_ble_eq_true rfl) d_law_697 ⟨by show 175 + k + 1 ≤ 601024; omega, by show 25604 + 6 * k + 6 ≤ 7293034; omega⟩ (fun H1 locs1 hP1 hPo1 hD1 hDo1 hDq hDoq hS1 hz1 hk1 => ?_)
  have hPm1 := z_keep hPm (dj_app j1 j3.symm) hk1
  have hS := hS1
  have haf := (⟨inv_code _ hi, mset_same _ _ _ _, htc_b N e1⟩ : INV M (mset N 0 0 (r_htc N e1)) np ns ∧ mset N 0 0 (r_htc N e1) 0 0 = r_htc N e1 ∧ _)
  obtain ⟨cd, hcd⟩ : ∃ z : Int, z = r_htc N e1 := ⟨_, rfl⟩
  have hcz : zb cd := by have h9 := haf.2.2; rw [← hcd] at h9; exact ⟨by omega, by omega⟩
  have hth : (mset N 0 0 (r_htc N e1)) 0 0 = cd := by rw [hcd]; exact haf.2.1
  have hi2 : INV (M) (mset N 0 0 (r_htc N e1)) (np) (ns) := haf.1
  obtain ⟨M2, hM2⟩ : ∃ q, q = (M) := ⟨_, rfl⟩
  obtain ⟨N2, hN2⟩ : ∃ q, q = (mset N 0 0 (r_htc N e1)) := ⟨_, rfl⟩
  obtain ⟨f2, hf2⟩ : ∃ q : Nat → Int64, q = (if r_htc N e1 = 0 then (fun _ => (iI (((r_hit N e1.toNat e2 e3 : Nat) : Int))).toInt64) else f) := ⟨_, rfl⟩
  rw [← hM2] at hP1 hD1 hDq
  rw [← hM2, ← hN2] at hi2
  rw [← hN2] at hth
  rw [← hf2] at hPo1 hDo1 hDoq
  rw [← hcd]
  refine lv_istore (lv' := [(5, .int (iI cd)), (4, .int (iI ((4 * k : Nat) : Int))), (3, .ref ao), (2, .ref (ad2 0)), (1, .ref (ad 0)), (0, .ref b)]) hx hb d_law_700 hl (by decide) rfl (fun ls hl => ?_)
  refine lv_aload_n hx hb d_law_702 rfl (lv_at hl 3 rfl) ?_
  refine lv_aload_n hx hb d_law_703 rfl (lv_at hl 5 rfl) ?_
  refine lv_iload hx hb d_law_704 (lv_at hl 1 rfl) ?_
  refine z_iconst hx hb (z := 1) d_law_706 ?_
  refine z_iadd hx hb d_law_707 (v := ((4 * k + 1 : Nat) : Int)) (by omega) ?_
  refine lw_sld (j := 4 * k + 1) hx hb hX hbl hS (by omega) hL d_law_708 ?_
  rw [← he1]
  refine lv_aload_n hx hb d_law_709 rfl (lv_at hl 5 rfl) ?_
  refine lv_iload hx hb d_law_710 (lv_at hl 1 rfl) ?_
  refine z_iconst hx hb (z := 2) d_law_712 ?_
  refine z_iadd hx hb d_law_713 (v := ((4 * k + 2 : Nat) : Int)) (by omega) ?_
  refine lw_sld (j := 4 * k + 2) hx hb hX hbl hS (by omega) hL d_law_714 ?_
  rw [← he2]
  refine lv_aload_n hx hb d_law_715 rfl (lv_at hl 5 rfl) ?_
  refine lv_iload hx hb d_law_716 (lv_at hl 1 rfl) ?_
  refine z_iconst hx hb (z := 3) d_law_718 ?_
  refine z_iadd hx hb d_law_719 (v := ((4 * k + 3 : Nat) : Int)) (by omega) ?_
  refine lw_sld (j := 4 * k + 3) hx hb hX hbl hS (by omega) hL d_law_720 ?_
  rw [← he3]
  have jc : dj (mo_w ad2 cs.1 N) (pg_w ad cs rp M2) := (pg_dj j1).symm
  have jo : dj (mo_w ad2 cs.1 N) (wo cJ ao f2) := wo_dj j3
  refine lw_Vi (As := [.int (iI e1), .int (iI e2), .int (iI e3)]) (rest := []) (z := if r_htc N e1 = 0 then ((r_hit N e1.toNat e2 e3 : Nat) : Int) else 0) (w' := mo_w ad2 cs.1 (mset N 0 0 (r_htc N e1))) ⟨hx, hb, hml, hown, hg⟩ (r_hitc l _ e1 e2 e3 z1 z2 z3 (inv_G hi).1 (inv_G hi).2 hi.2.2.1.2.1 (zb_6 hi.2.2.1.1.2.2.1)) (cwV 3 hg (gt_V (List.mem_append_right _ (List.mem_append_right _ (List.mem_append_right _ (List.mem_append_right _ (List.mem_append_right _ (List.mem_append_right _ (List.mem_append_right _ (List.mem_append_right _ (List.mem_append_right _ (List.mem_append_right _ (List.mem_append_right _ (List.mem_append_right _ (List.mem_append_right _ (List.mem_append_right _ (List.mem_append_right _ (List.mem_append_right _ (List.mem_append_right _ (List.mem_of_getElem? (i := 21) rfl)))))))))))))))))) (List.mem_append_right _ (List.mem_append_right _ (List.mem_append_right _ (List.mem_append_right _ (List.mem_append_right _ (List.mem_append_right _ (List.mem_append_right _ (List.mem_append_right _ (List.mem_append_right _ (List.mem_append_right _ (List.mem_append_right _ (List.mem_append_right _ (List.mem_append_right _ (List.mem_append_right _ (List.mem_append_right _ (List.mem_append_right _ (List.mem_append_right _ (List.mem_of_getElem? (i := 22) rfl)))))))))))))))))) (List.mem_append_right _ (List.mem_append_right _ (List.mem_append_right _ (List.mem_append_right _ (List.mem_append_right _ (List.mem_append_right _ (List.mem_append_right _ (List.mem_append_right _ (List.mem_append_right _ (List.mem_append_right _ (List.mem_append_right _ (List.mem_append_right _ (List.mem_append_right _ (List.mem_append_right _ (List.mem_append_right _ (List.mem_append_right _ (List.mem_append_right _ (List.mem_of_getElem? (i := 23) rfl)))))))))))))))))) (List.mem_append_right _ (List.mem_append_left _ (List.mem_of_getElem? (i := 9) rfl))) (List.mem_append_right _ (List.mem_append_right _ (List.mem_append_right _ (List.mem_append_right _ (List.mem_append_right _ (List.mem_append_right _ (List.mem_append_right _ (List.mem_append_right _ (List.mem_append_right _ (List.mem_append_right _ (List.mem_append_right _ (List.mem_append_right _ (List.mem_append_right _ (List.mem_append_right _ (List.mem_append_right _ (List.mem_append_right _ (List.mem_append_right _ (List.mem_of_getElem? (i := 24) rfl))))))))))))))))))) rfl rfl rfl (by decide +kernel) ⟨Nat.le_of_ble_eq_true rfl, Nat.le_of_ble_eq_true rfl⟩) rw_blind (fun U hU hW => ⟨by rw [hU], by rw [hU]; exact hPm1, va_K.moved hW.alike hKm, hDm.weaken (fun _ _ _ _ => trivial)⟩) hDm hS1 hA (va_recv hKm hPm1 (ci := 7) (q0 := 0) rfl (wl_atE (by decide) rfl)) rfl hl.1 rfl (Nat.le_of_ble_eq_true rfl) d_law_721 ⟨by show 175 + k + 1 + 0 ≤ 601024; omega, by show 25604 + 6 * k + 6 + 0 ≤ 7293034; omega⟩ (fun H2 locs2 hPm2 hDm2 hDmq hS2 hk2 => ?_)
  have hP2 := z_keep hP1 jc hk2
  have hPo2 := z_keep hPo1 jo hk2
  rw [← hN2] at hPm2 hDm2
  obtain ⟨bz2, hbz⟩ : ∃ z : Int, z = (if r_htc N e1 = 0 then ((r_hit N e1.toNat e2 e3 : Nat) : Int) else 0) := ⟨_, rfl⟩
  rw [← hbz]
  refine lv_istore (lv' := [(6, .int (iI bz2)), (5, .int (iI cd)), (4, .int (iI ((4 * k : Nat) : Int))), (3, .ref ao), (2, .ref (ad2 0)), (1, .ref (ad 0)), (0, .ref b)]) hx hb d_law_724 hl (by decide) rfl (fun ls hl => ?_)
  refine lv_aload_n hx hb d_law_726 rfl (lv_at hl 4 rfl) ?_
  refine ro_V (As := []) (rest := []) (z := N2 0 0) ⟨hx, hb, hml, hown, hg⟩ (r_thrown l) (cwV 0 hg (gt_V (List.mem_append_right _ (List.mem_append_right _ (List.mem_append_right _ (List.mem_append_right _ (List.mem_append_right _ (List.mem_append_right _ (List.mem_append_right _ (List.mem_append_right _ (List.mem_append_right _ (List.mem_append_right _ (List.mem_append_right _ (List.mem_append_right _ (List.mem_append_right _ (List.mem_append_right _ (List.mem_append_left _ (List.mem_of_getElem? (i := 27) rfl)))))))))))))))) (List.mem_append_right _ (List.mem_append_right _ (List.mem_append_right _ (List.mem_append_right _ (List.mem_append_right _ (List.mem_append_right _ (List.mem_append_right _ (List.mem_append_right _ (List.mem_append_right _ (List.mem_append_right _ (List.mem_append_right _ (List.mem_append_right _ (List.mem_append_right _ (List.mem_append_right _ (List.mem_append_left _ (List.mem_of_getElem? (i := 28) rfl)))))))))))))))) (List.mem_append_right _ (List.mem_append_right _ (List.mem_append_right _ (List.mem_append_right _ (List.mem_append_right _ (List.mem_append_right _ (List.mem_append_right _ (List.mem_append_right _ (List.mem_append_right _ (List.mem_append_right _ (List.mem_append_right _ (List.mem_append_right _ (List.mem_append_right _ (List.mem_append_right _ (List.mem_append_left _ (List.mem_of_getElem? (i := 29) rfl)))))))))))))))) (List.mem_append_right _ (List.mem_append_left _ (List.mem_of_getElem? (i := 9) rfl))) (List.mem_append_right _ (List.mem_append_right _ (List.mem_append_right _ (List.mem_append_right _ (List.mem_append_right _ (List.mem_append_right _ (List.mem_append_right _ (List.mem_append_right _ (List.mem_append_right _ (List.mem_append_right _ (List.mem_append_right _ (List.mem_append_right _ (List.mem_append_right _ (List.mem_append_right _ (List.mem_append_left _ (List.mem_of_getElem? (i := 30) rfl))))))))))))))))) rfl rfl rfl (by decide +kernel) ⟨Nat.le_of_ble_eq_true rfl, Nat.le_of_ble_eq_true rfl⟩) hKm hPm2 (va_recv hKm hPm2 (ci := 7) (q0 := 0) rfl (wl_atE (by decide) rfl)) rfl hl.1 rfl (Nat.le_of_ble_eq_true rfl) d_law_727 ⟨by show 175 + k + 1 + 0 ≤ 601024; omega, by show 25604 + 6 * k + 6 + 0 ≤ 7293034; omega⟩ ?_
  rw [hth]
  refine lv_iload hx hb d_law_730 (lv_at hl 1 rfl) ?_
  refine z_icmp_eq hx hb (tgt := 737) d_law_732 (by decide) hcz hcz (fun c_732 => ?_) (fun c_732 => absurd rfl c_732)
  have hst : lw_St D cs cJ ao ad ad2 s M2 N2 (np) (ns) rp f2 H2 locs2 := ⟨hi2, ⟨hP2, hPm2, hPo2⟩, ⟨hD1, hDm2, hDo1⟩, ⟨(mo_dj jc).symm, pg_dj (wo_dj j2), mo_dj jo⟩, hS2⟩
  have hl9 : lv_has ls 7 [(4, .int (iI ((4 * k : Nat) : Int))), (3, .ref ao), (2, .ref (ad2 0)), (1, .ref (ad 0)), (0, .ref b)] := lv_sub hl [2, 3, 4, 5, 6] rfl
  have hgo : W p l e room_1 s m #[Value.ref b] below meth c H2 locs2 (175 + k + 1) (25604 + 6 * k + 6) Q (F0 m 757 ls []) := kk M2 N2 _ _ rp f2 H2 locs2 ls hst hl9
  refine lv_iload hx hb d_law_737 (lv_at hl 1 rfl) ?_
  refine z_if_ne hx hb (tgt := 754) d_law_739 (by decide) hcz (fun c_739 => lv_goto (tgt := 757) hx hb d_law_754 (by decide) hgo) (fun c_739 => ?_)
  refine lv_aload_n hx hb d_law_742 rfl (lv_at hl 3 rfl) ?_
  refine z_iconst hx hb (z := 0) d_law_743 ?_
  refine va_lald hx hb hKJ hPo2 0 0 rfl rfl (iI_in (n := 1) (j := 0) (by decide) (by decide)) d_law_744 ?_
  refine lv_iload hx hb d_law_745 (lv_at hl 0 rfl) ?_
  refine lv_i2l hx hb d_law_747 rfl ?_
  have hz0 : r_htc N e1 = 0 := by rw [← hcd]; exact c_739
  have hb9 : bz2 = ((r_hit N e1.toNat e2 e3 : Nat) : Int) := by rw [hbz, if_pos hz0]
  refine lw_same hx hb (tgt := 754) (by rw [hf2, if_pos hz0, hb9]) d_law_748 d_law_749 (by decide) ?_
  exact lv_goto (tgt := 757) hx hb d_law_754 (by decide) hgo
