set_option maxHeartbeats 4000000 in
set_option maxRecDepth 100000 in
theorem lc_line {p : Program} {l : Launch} {e : Env} {s : State} {m : MethodId} {below : List Frame} {meth : Method} {c : Code} {Q : State → Prop} {b L : Nat} {xs : Nat → Int32} {D : va_G} {cs : pg_C} {cJ : ClassId} {ao : Nat} {ad ad2 : Nat → Nat} (hx : p.tables.exec = Jvm.exec) (hb : c.code = code) (hml : c.maxLocals = 7) (hown : s.vm.findClass R_LW = some m.cls) (hts : ∀ w ∈ lw_tbl, w.before #[Value.ref b] s = true) (hfl : l.flags = flags0) (hK : va_K D vwCl (pg_tys cs) s) (hKJ : va_K D vwCl [(cJ, .long)] s) (hT : z_T s) (hX : va_X b L xs s s.heap) (hbl : b < s.heap.size) (hL : L ≤ 2048) (k : Nat) (hk : 4 * k + 3 < L) {M N : Nat → Nat → Int} {np ns : Nat} {rp : Option Nat} {f : Nat → Int64} {H : Heap} {locs : List Loc} {ls : Array Slot} (hs : lw_St D cs cJ ao ad ad2 s M N np ns rp f H locs) (hl : lv_has ls 7 [(4, .int (iI ((4 * k : Nat) : Int))), (3, .ref ao), (2, .ref (ad2 0)), (1, .ref (ad 0)), (0, .ref b)]) (kk : ∀ (M N : Nat → Nat → Int) (np ns : Nat) (rp : Option Nat) (f : Nat → Int64) (H : Heap) (locs : List Loc) (ls : Array Slot), lw_St D cs cJ ao ad ad2 s M N np ns rp f H locs → lv_has ls 7 [(4, .int (iI ((4 * k : Nat) : Int))), (3, .ref ao), (2, .ref (ad2 0)), (1, .ref (ad 0)), (0, .ref b)] → W p l e room_1 s m #[Value.ref b] below meth c H locs (175 + (k + 1)) (25604 + 6 * (k + 1)) Q (F0 m 757 ls [])) : W p l e room_1 s m #[Value.ref b] below meth c H locs (175 + k) (25604 + 6 * k) Q (F0 m 473 ls []) := by
  obtain ⟨hi, ⟨hP, hPm, hPo⟩, ⟨hD, hDm, hDo⟩, ⟨j1, j2, j3⟩, hS⟩ := hs
  have hg : ∀ w ∈ gt, w.before #[Value.ref b] s = true := fun w h => hts w (gt_in w h)
  have hKm : va_K D vwCl (mo_tys cs.1) s := hK.sub [0] rfl
  have hA : ∀ q : Nat, s.heap.size ≤ q → aH s q := fun q h => h
  obtain ⟨e1, he1⟩ : ∃ z : Int, z = (xs (4 * k + 1)).toInt := ⟨_, rfl⟩
  have z1 : zb e1 := by rw [he1]; exact zb_of _
  obtain ⟨e2, he2⟩ : ∃ z : Int, z = (xs (4 * k + 2)).toInt := ⟨_, rfl⟩
  have z2 : zb e2 := by rw [he2]; exact zb_of _
  obtain ⟨e3, he3⟩ : ∃ z : Int, z = (xs (4 * k + 3)).toInt := ⟨_, rfl⟩
  have z3 : zb e3 := by rw [he3]; exact zb_of _
  refine lv_aload_n hx hb d_law_473 rfl (lv_at hl 3 rfl) ?_
  refine lv_aload_n hx hb d_law_474 rfl (lv_at hl 4 rfl) ?_
  refine lv_iload hx hb d_law_475 (lv_at hl 0 rfl) ?_
  refine z_iconst hx hb (z := 1) d_law_477 ?_
  refine z_iadd hx hb d_law_478 (v := ((4 * k + 1 : Nat) : Int)) (by omega) ?_
  refine lw_sld (j := 4 * k + 1) hx hb hX hbl hS (by omega) hL d_law_479 ?_
  rw [← he1]
  refine lv_aload_n hx hb d_law_480 rfl (lv_at hl 4 rfl) ?_
  refine lv_iload hx hb d_law_481 (lv_at hl 0 rfl) ?_
  refine z_iconst hx hb (z := 2) d_law_483 ?_
  refine z_iadd hx hb d_law_484 (v := ((4 * k + 2 : Nat) : Int)) (by omega) ?_
  refine lw_sld (j := 4 * k + 2) hx hb hX hbl hS (by omega) hL d_law_485 ?_
  rw [← he2]
  refine lv_aload_n hx hb d_law_486 rfl (lv_at hl 1 rfl) ?_
  refine lw_SW (n := 4) (As := [.ref (ad 0), .int (iI e1), .int (iI e2), .ref ao]) (rest := []) (z := r_lic N e1 e2) (w' := pg_w ad cs rp (M)) (w2' := wo cJ ao (if r_lic N e1 e2 = 0 then (fun _ => (iI (N (11 + e2.toNat) e1.toNat)).toInt64) else f)) ⟨hx, hb, hml, hown, hts⟩ (j_line l hfl _ hi e1 e2 z1 z2) rfl rfl ⟨Nat.le_of_ble_eq_true rfl, Nat.le_of_ble_eq_true rfl⟩ (lw_hws hts cw_line cwk_line) List.mem_cons_self (hg _ (List.mem_append_right _ (List.mem_append_left _ (List.mem_of_getElem? (i := 1) rfl)))) (by decide +kernel) (hg _ (List.mem_append_right _ (List.mem_append_right _ (List.mem_append_right _ (List.mem_append_right _ (List.mem_append_right _ (List.mem_append_right _ (List.mem_append_right _ (List.mem_append_right _ (List.mem_append_right _ (List.mem_append_right _ (List.mem_append_right _ (List.mem_append_right _ (List.mem_append_left _ (List.mem_of_getElem? (i := 5) rfl))))))))))))))) (hg _ (List.mem_append_right _ (List.mem_append_right _ (List.mem_append_right _ (List.mem_append_right _ (List.mem_append_right _ (List.mem_append_right _ (List.mem_append_right _ (List.mem_append_right _ (List.mem_append_right _ (List.mem_append_right _ (List.mem_append_right _ (List.mem_append_right _ (List.mem_append_left _ (List.mem_of_getElem? (i := 6) rfl))))))))))))))) hK hKJ hP hPo hD hDo j2 hS hT hA (fun q h => Nat.not_le.mpr h) rfl hl.1 rfl (Nat.le_of_ble_eq_true rfl) d_law_487 ⟨by show 175 + k + 1 ≤ 601024; omega, by show 25604 + 6 * k + 6 ≤ 7293034; omega⟩ (fun H1 locs1 hP1 hPo1 hD1 hDo1 hDq hDoq hS1 hz1 hk1 => ?_)
  have hPm1 := z_keep hPm (dj_app j1 j3.symm) hk1
  have hS := hS1
  have haf := (⟨inv_code _ hi, mset_same _ _ _ _, lic_b N e1 e2⟩ : INV M (mset N 0 0 (r_lic N e1 e2)) np ns ∧ mset N 0 0 (r_lic N e1 e2) 0 0 = r_lic N e1 e2 ∧ _)
  obtain ⟨cd, hcd⟩ : ∃ z : Int, z = r_lic N e1 e2 := ⟨_, rfl⟩
  have hcz : zb cd := by have h9 := haf.2.2; rw [← hcd] at h9; exact ⟨by omega, by omega⟩
  have hth : (mset N 0 0 (r_lic N e1 e2)) 0 0 = cd := by rw [hcd]; exact haf.2.1
  have hi2 : INV (M) (mset N 0 0 (r_lic N e1 e2)) (np) (ns) := haf.1
  obtain ⟨M2, hM2⟩ : ∃ q, q = (M) := ⟨_, rfl⟩
  obtain ⟨N2, hN2⟩ : ∃ q, q = (mset N 0 0 (r_lic N e1 e2)) := ⟨_, rfl⟩
  obtain ⟨f2, hf2⟩ : ∃ q : Nat → Int64, q = (if r_lic N e1 e2 = 0 then (fun _ => (iI (N (11 + e2.toNat) e1.toNat)).toInt64) else f) := ⟨_, rfl⟩
  rw [← hM2] at hP1 hD1 hDq
  rw [← hM2, ← hN2] at hi2
  rw [← hN2] at hth
  rw [← hf2] at hPo1 hDo1 hDoq
  rw [← hcd]
  refine lv_istore (lv' := [(5, .int (iI cd)), (4, .int (iI ((4 * k : Nat) : Int))), (3, .ref ao), (2, .ref (ad2 0)), (1, .ref (ad 0)), (0, .ref b)]) hx hb d_law_490 hl (by decide) rfl (fun ls hl => ?_)
  refine lv_aload_n hx hb d_law_492 rfl (lv_at hl 3 rfl) ?_
  refine lv_aload_n hx hb d_law_493 rfl (lv_at hl 5 rfl) ?_
  refine lv_iload hx hb d_law_494 (lv_at hl 1 rfl) ?_
  refine z_iconst hx hb (z := 1) d_law_496 ?_
  refine z_iadd hx hb d_law_497 (v := ((4 * k + 1 : Nat) : Int)) (by omega) ?_
  refine lw_sld (j := 4 * k + 1) hx hb hX hbl hS (by omega) hL d_law_498 ?_
  rw [← he1]
  refine lv_aload_n hx hb d_law_499 rfl (lv_at hl 5 rfl) ?_
  refine lv_iload hx hb d_law_500 (lv_at hl 1 rfl) ?_
  refine z_iconst hx hb (z := 2) d_law_502 ?_
  refine z_iadd hx hb d_law_503 (v := ((4 * k + 2 : Nat) : Int)) (by omega) ?_
  refine lw_sld (j := 4 * k + 2) hx hb hX hbl hS (by omega) hL d_law_504 ?_
  rw [← he2]
  have jc : dj (mo_w ad2 cs.1 N) (pg_w ad cs rp M2) := (pg_dj j1).symm
  have jo : dj (mo_w ad2 cs.1 N) (wo cJ ao f2) := wo_dj j3
  refine lw_Vi (As := [.int (iI e1), .int (iI e2)]) (rest := []) (z := if r_lic N e1 e2 = 0 then N (11 + e2.toNat) e1.toNat else 0) (w' := mo_w ad2 cs.1 (mset N 0 0 (r_lic N e1 e2))) ⟨hx, hb, hml, hown, hg⟩ (r_line l _ e1 e2 z1 z2 (inv_G hi).1) (cwV 2 hg (gt_V (List.mem_append_right _ (List.mem_append_right _ (List.mem_append_right _ (List.mem_append_right _ (List.mem_append_right _ (List.mem_append_right _ (List.mem_append_right _ (List.mem_append_right _ (List.mem_append_right _ (List.mem_append_right _ (List.mem_append_right _ (List.mem_append_right _ (List.mem_append_right _ (List.mem_append_right _ (List.mem_append_right _ (List.mem_append_right _ (List.mem_append_right _ (List.mem_of_getElem? (i := 6) rfl)))))))))))))))))) (List.mem_append_right _ (List.mem_append_right _ (List.mem_append_right _ (List.mem_append_right _ (List.mem_append_right _ (List.mem_append_right _ (List.mem_append_right _ (List.mem_append_right _ (List.mem_append_right _ (List.mem_append_right _ (List.mem_append_right _ (List.mem_append_right _ (List.mem_append_right _ (List.mem_append_right _ (List.mem_append_right _ (List.mem_append_right _ (List.mem_append_right _ (List.mem_of_getElem? (i := 7) rfl)))))))))))))))))) (List.mem_append_right _ (List.mem_append_right _ (List.mem_append_right _ (List.mem_append_right _ (List.mem_append_right _ (List.mem_append_right _ (List.mem_append_right _ (List.mem_append_right _ (List.mem_append_right _ (List.mem_append_right _ (List.mem_append_right _ (List.mem_append_right _ (List.mem_append_right _ (List.mem_append_right _ (List.mem_append_right _ (List.mem_append_right _ (List.mem_append_right _ (List.mem_of_getElem? (i := 8) rfl)))))))))))))))))) (List.mem_append_right _ (List.mem_append_left _ (List.mem_of_getElem? (i := 9) rfl))) (List.mem_append_right _ (List.mem_append_right _ (List.mem_append_right _ (List.mem_append_right _ (List.mem_append_right _ (List.mem_append_right _ (List.mem_append_right _ (List.mem_append_right _ (List.mem_append_right _ (List.mem_append_right _ (List.mem_append_right _ (List.mem_append_right _ (List.mem_append_right _ (List.mem_append_right _ (List.mem_append_right _ (List.mem_append_right _ (List.mem_append_right _ (List.mem_of_getElem? (i := 9) rfl))))))))))))))))))) rfl rfl rfl (by decide +kernel) ⟨Nat.le_of_ble_eq_true rfl, Nat.le_of_ble_eq_true rfl⟩) rw_blind (fun U hU hW => ⟨by rw [hU], by rw [hU]; exact hPm1, va_K.moved hW.alike hKm, hDm.weaken (fun _ _ _ _ => trivial)⟩) hDm hS1 hA (va_recv hKm hPm1 (ci := 7) (q0 := 0) rfl (wl_atE (by decide) rfl)) rfl hl.1 rfl (Nat.le_of_ble_eq_true rfl) d_law_505 ⟨by show 175 + k + 1 + 0 ≤ 601024; omega, by show 25604 + 6 * k + 6 + 0 ≤ 7293034; omega⟩ (fun H2 locs2 hPm2 hDm2 hDmq hS2 hk2 => ?_)
  have hP2 := z_keep hP1 jc hk2
  have hPo2 := z_keep hPo1 jo hk2
  rw [← hN2] at hPm2 hDm2
  obtain ⟨bz2, hbz⟩ : ∃ z : Int, z = (if r_lic N e1 e2 = 0 then N (11 + e2.toNat) e1.toNat else 0) := ⟨_, rfl⟩
  rw [← hbz]
  refine lv_istore (lv' := [(6, .int (iI bz2)), (5, .int (iI cd)), (4, .int (iI ((4 * k : Nat) : Int))), (3, .ref ao), (2, .ref (ad2 0)), (1, .ref (ad 0)), (0, .ref b)]) hx hb d_law_508 hl (by decide) rfl (fun ls hl => ?_)
  refine lv_aload_n hx hb d_law_510 rfl (lv_at hl 4 rfl) ?_
  refine ro_V (As := []) (rest := []) (z := N2 0 0) ⟨hx, hb, hml, hown, hg⟩ (r_thrown l) (cwV 0 hg (gt_V (List.mem_append_right _ (List.mem_append_right _ (List.mem_append_right _ (List.mem_append_right _ (List.mem_append_right _ (List.mem_append_right _ (List.mem_append_right _ (List.mem_append_right _ (List.mem_append_right _ (List.mem_append_right _ (List.mem_append_right _ (List.mem_append_right _ (List.mem_append_right _ (List.mem_append_right _ (List.mem_append_left _ (List.mem_of_getElem? (i := 27) rfl)))))))))))))))) (List.mem_append_right _ (List.mem_append_right _ (List.mem_append_right _ (List.mem_append_right _ (List.mem_append_right _ (List.mem_append_right _ (List.mem_append_right _ (List.mem_append_right _ (List.mem_append_right _ (List.mem_append_right _ (List.mem_append_right _ (List.mem_append_right _ (List.mem_append_right _ (List.mem_append_right _ (List.mem_append_left _ (List.mem_of_getElem? (i := 28) rfl)))))))))))))))) (List.mem_append_right _ (List.mem_append_right _ (List.mem_append_right _ (List.mem_append_right _ (List.mem_append_right _ (List.mem_append_right _ (List.mem_append_right _ (List.mem_append_right _ (List.mem_append_right _ (List.mem_append_right _ (List.mem_append_right _ (List.mem_append_right _ (List.mem_append_right _ (List.mem_append_right _ (List.mem_append_left _ (List.mem_of_getElem? (i := 29) rfl)))))))))))))))) (List.mem_append_right _ (List.mem_append_left _ (List.mem_of_getElem? (i := 9) rfl))) (List.mem_append_right _ (List.mem_append_right _ (List.mem_append_right _ (List.mem_append_right _ (List.mem_append_right _ (List.mem_append_right _ (List.mem_append_right _ (List.mem_append_right _ (List.mem_append_right _ (List.mem_append_right _ (List.mem_append_right _ (List.mem_append_right _ (List.mem_append_right _ (List.mem_append_right _ (List.mem_append_left _ (List.mem_of_getElem? (i := 30) rfl))))))))))))))))) rfl rfl rfl (by decide +kernel) ⟨Nat.le_of_ble_eq_true rfl, Nat.le_of_ble_eq_true rfl⟩) hKm hPm2 (va_recv hKm hPm2 (ci := 7) (q0 := 0) rfl (wl_atE (by decide) rfl)) rfl hl.1 rfl (Nat.le_of_ble_eq_true rfl) d_law_511 ⟨by show 175 + k + 1 + 0 ≤ 601024; omega, by show 25604 + 6 * k + 6 + 0 ≤ 7293034; omega⟩ ?_
  rw [hth]
  refine lv_iload hx hb d_law_514 (lv_at hl 1 rfl) ?_
  refine z_icmp_eq hx hb (tgt := 521) d_law_516 (by decide) hcz hcz (fun c_516 => ?_) (fun c_516 => absurd rfl c_516)
  have hst : lw_St D cs cJ ao ad ad2 s M2 N2 (np) (ns) rp f2 H2 locs2 := ⟨hi2, ⟨hP2, hPm2, hPo2⟩, ⟨hD1, hDm2, hDo1⟩, ⟨(mo_dj jc).symm, pg_dj (wo_dj j2), mo_dj jo⟩, hS2⟩
  have hl9 : lv_has ls 7 [(4, .int (iI ((4 * k : Nat) : Int))), (3, .ref ao), (2, .ref (ad2 0)), (1, .ref (ad 0)), (0, .ref b)] := lv_sub hl [2, 3, 4, 5, 6] rfl
  have hgo : W p l e room_1 s m #[Value.ref b] below meth c H2 locs2 (175 + k + 1) (25604 + 6 * k + 6) Q (F0 m 757 ls []) := kk M2 N2 _ _ rp f2 H2 locs2 ls hst hl9
  refine lv_iload hx hb d_law_521 (lv_at hl 1 rfl) ?_
  refine z_if_ne hx hb (tgt := 538) d_law_523 (by decide) hcz (fun c_523 => lv_goto (tgt := 757) hx hb d_law_538 (by decide) hgo) (fun c_523 => ?_)
  refine lv_aload_n hx hb d_law_526 rfl (lv_at hl 3 rfl) ?_
  refine z_iconst hx hb (z := 0) d_law_527 ?_
  refine va_lald hx hb hKJ hPo2 0 0 rfl rfl (iI_in (n := 1) (j := 0) (by decide) (by decide)) d_law_528 ?_
  refine lv_iload hx hb d_law_529 (lv_at hl 0 rfl) ?_
  refine lv_i2l hx hb d_law_531 rfl ?_
  have hz0 : r_lic N e1 e2 = 0 := by rw [← hcd]; exact c_523
  have hb9 : bz2 = N (11 + e2.toNat) e1.toNat := by rw [hbz, if_pos hz0]
  refine lw_same hx hb (tgt := 538) (by rw [hf2, if_pos hz0, hb9]) d_law_532 d_law_533 (by decide) ?_
  exact lv_goto (tgt := 757) hx hb d_law_538 (by decide) hgo
set_option maxHeartbeats 4000000 in
set_option maxRecDepth 100000 in
theorem lc_where {p : Program} {l : Launch} {e : Env} {s : State} {m : MethodId} {below : List Frame} {meth : Method} {c : Code} {Q : State → Prop} {b L : Nat} {xs : Nat → Int32} {D : va_G} {cs : pg_C} {cJ : ClassId} {ao : Nat} {ad ad2 : Nat → Nat} (hx : p.tables.exec = Jvm.exec) (hb : c.code = code) (hml : c.maxLocals = 7) (hown : s.vm.findClass R_LW = some m.cls) (hts : ∀ w ∈ lw_tbl, w.before #[Value.ref b] s = true) (hfl : l.flags = flags0) (hK : va_K D vwCl (pg_tys cs) s) (hKJ : va_K D vwCl [(cJ, .long)] s) (hT : z_T s) (hX : va_X b L xs s s.heap) (hbl : b < s.heap.size) (hL : L ≤ 2048) (k : Nat) (hk : 4 * k + 3 < L) {M N : Nat → Nat → Int} {np ns : Nat} {rp : Option Nat} {f : Nat → Int64} {H : Heap} {locs : List Loc} {ls : Array Slot} (hs : lw_St D cs cJ ao ad ad2 s M N np ns rp f H locs) (hl : lv_has ls 7 [(4, .int (iI ((4 * k : Nat) : Int))), (3, .ref ao), (2, .ref (ad2 0)), (1, .ref (ad 0)), (0, .ref b)]) (kk : ∀ (M N : Nat → Nat → Int) (np ns : Nat) (rp : Option Nat) (f : Nat → Int64) (H : Heap) (locs : List Loc) (ls : Array Slot), lw_St D cs cJ ao ad ad2 s M N np ns rp f H locs → lv_has ls 7 [(4, .int (iI ((4 * k : Nat) : Int))), (3, .ref ao), (2, .ref (ad2 0)), (1, .ref (ad 0)), (0, .ref b)] → W p l e room_1 s m #[Value.ref b] below meth c H locs (175 + (k + 1)) (25604 + 6 * (k + 1)) Q (F0 m 757 ls [])) : W p l e room_1 s m #[Value.ref b] below meth c H locs (175 + k) (25604 + 6 * k) Q (F0 m 541 ls []) := by
  obtain ⟨hi, ⟨hP, hPm, hPo⟩, ⟨hD, hDm, hDo⟩, ⟨j1, j2, j3⟩, hS⟩ := hs
  have hg : ∀ w ∈ gt, w.before #[Value.ref b] s = true := fun w h => hts w (gt_in w h)
  have hKm : va_K D vwCl (mo_tys cs.1) s := hK.sub [0] rfl
  have hA : ∀ q : Nat, s.heap.size ≤ q → aH s q := fun q h => h
  obtain ⟨e1, he1⟩ : ∃ z : Int, z = (xs (4 * k + 1)).toInt := ⟨_, rfl⟩
  have z1 : zb e1 := by rw [he1]; exact zb_of _
  obtain ⟨e2, he2⟩ : ∃ z : Int, z = (xs (4 * k + 2)).toInt := ⟨_, rfl⟩
  have z2 : zb e2 := by rw [he2]; exact zb_of _
  obtain ⟨e3, he3⟩ : ∃ z : Int, z = (xs (4 * k + 3)).toInt := ⟨_, rfl⟩
  have z3 : zb e3 := by rw [he3]; exact zb_of _
  refine lv_aload_n hx hb d_law_541 rfl (lv_at hl 3 rfl) ?_
  refine lv_aload_n hx hb d_law_542 rfl (lv_at hl 4 rfl) ?_
  refine lv_iload hx hb d_law_543 (lv_at hl 0 rfl) ?_
  refine z_iconst hx hb (z := 1) d_law_545 ?_
  refine z_iadd hx hb d_law_546 (v := ((4 * k + 1 : Nat) : Int)) (by omega) ?_
  refine lw_sld (j := 4 * k + 1) hx hb hX hbl hS (by omega) hL d_law_547 ?_
  rw [← he1]
  refine lv_aload_n hx hb d_law_548 rfl (lv_at hl 4 rfl) ?_
  refine lv_iload hx hb d_law_549 (lv_at hl 0 rfl) ?_
  refine z_iconst hx hb (z := 2) d_law_551 ?_
  refine z_iadd hx hb d_law_552 (v := ((4 * k + 2 : Nat) : Int)) (by omega) ?_
  refine lw_sld (j := 4 * k + 2) hx hb hX hbl hS (by omega) hL d_law_553 ?_
  rw [← he2]
  refine lv_aload_n hx hb d_law_554 rfl (lv_at hl 1 rfl) ?_
  refine lw_SW (n := 4) (As := [.ref (ad 0), .int (iI e1), .int (iI e2), .ref ao]) (rest := []) (z := r_whc N np e1 e2) (w' := pg_w ad cs rp (M)) (w2' := wo cJ ao (if r_whc N np e1 e2 = 0 then (fun _ => (iI (N (21 + e2.toNat) e1.toNat)).toInt64) else f)) ⟨hx, hb, hml, hown, hts⟩ (j_where l hfl _ hi e1 e2 z1 z2) rfl rfl ⟨Nat.le_of_ble_eq_true rfl, Nat.le_of_ble_eq_true rfl⟩ (lw_hws hts cw_where cwk_where) List.mem_cons_self (hg _ (List.mem_append_right _ (List.mem_append_left _ (List.mem_of_getElem? (i := 1) rfl)))) (by decide +kernel) (hg _ (List.mem_append_right _ (List.mem_append_right _ (List.mem_append_right _ (List.mem_append_right _ (List.mem_append_right _ (List.mem_append_right _ (List.mem_append_right _ (List.mem_append_right _ (List.mem_append_right _ (List.mem_append_right _ (List.mem_append_right _ (List.mem_append_right _ (List.mem_append_left _ (List.mem_of_getElem? (i := 11) rfl))))))))))))))) (hg _ (List.mem_append_right _ (List.mem_append_right _ (List.mem_append_right _ (List.mem_append_right _ (List.mem_append_right _ (List.mem_append_right _ (List.mem_append_right _ (List.mem_append_right _ (List.mem_append_right _ (List.mem_append_right _ (List.mem_append_right _ (List.mem_append_right _ (List.mem_append_left _ (List.mem_of_getElem? (i := 12) rfl))))))))))))))) hK hKJ hP hPo hD hDo j2 hS hT hA (fun q h => Nat.not_le.mpr h) rfl hl.1 rfl (Nat.le_of_ble_eq_true rfl) d_law_555 ⟨by show 175 + k + 1 ≤ 601024; omega, by show 25604 + 6 * k + 6 ≤ 7293034; omega⟩ (fun H1 locs1 hP1 hPo1 hD1 hDo1 hDq hDoq hS1 hz1 hk1 => ?_)
  have hPm1 := z_keep hPm (dj_app j1 j3.symm) hk1
  have hS := hS1
  have haf := (⟨inv_code _ hi, mset_same _ _ _ _, whc_b N np e1 e2⟩ : INV M (mset N 0 0 (r_whc N np e1 e2)) np ns ∧ mset N 0 0 (r_whc N np e1 e2) 0 0 = r_whc N np e1 e2 ∧ _)
  obtain ⟨cd, hcd⟩ : ∃ z : Int, z = r_whc N np e1 e2 := ⟨_, rfl⟩
  have hcz : zb cd := by have h9 := haf.2.2; rw [← hcd] at h9; exact ⟨by omega, by omega⟩
  have hth : (mset N 0 0 (r_whc N np e1 e2)) 0 0 = cd := by rw [hcd]; exact haf.2.1
  have hi2 : INV (M) (mset N 0 0 (r_whc N np e1 e2)) (np) (ns) := haf.1
  obtain ⟨M2, hM2⟩ : ∃ q, q = (M) := ⟨_, rfl⟩
  obtain ⟨N2, hN2⟩ : ∃ q, q = (mset N 0 0 (r_whc N np e1 e2)) := ⟨_, rfl⟩
  obtain ⟨f2, hf2⟩ : ∃ q : Nat → Int64, q = (if r_whc N np e1 e2 = 0 then (fun _ => (iI (N (21 + e2.toNat) e1.toNat)).toInt64) else f) := ⟨_, rfl⟩
  rw [← hM2] at hP1 hD1 hDq
  rw [← hM2, ← hN2] at hi2
  rw [← hN2] at hth
  rw [← hf2] at hPo1 hDo1 hDoq
  rw [← hcd]
  refine lv_istore (lv' := [(5, .int (iI cd)), (4, .int (iI ((4 * k : Nat) : Int))), (3, .ref ao), (2, .ref (ad2 0)), (1, .ref (ad 0)), (0, .ref b)]) hx hb d_law_558 hl (by decide) rfl (fun ls hl => ?_)
  refine lv_aload_n hx hb d_law_560 rfl (lv_at hl 3 rfl) ?_
  refine lv_aload_n hx hb d_law_561 rfl (lv_at hl 5 rfl) ?_
  refine lv_iload hx hb d_law_562 (lv_at hl 1 rfl) ?_
  refine z_iconst hx hb (z := 1) d_law_564 ?_
  refine z_iadd hx hb d_law_565 (v := ((4 * k + 1 : Nat) : Int)) (by omega) ?_
  refine lw_sld (j := 4 * k + 1) hx hb hX hbl hS (by omega) hL d_law_566 ?_
  rw [← he1]
  refine lv_aload_n hx hb d_law_567 rfl (lv_at hl 5 rfl) ?_
  refine lv_iload hx hb d_law_568 (lv_at hl 1 rfl) ?_
  refine z_iconst hx hb (z := 2) d_law_570 ?_
  refine z_iadd hx hb d_law_571 (v := ((4 * k + 2 : Nat) : Int)) (by omega) ?_
  refine lw_sld (j := 4 * k + 2) hx hb hX hbl hS (by omega) hL d_law_572 ?_
  rw [← he2]
  have jc : dj (mo_w ad2 cs.1 N) (pg_w ad cs rp M2) := (pg_dj j1).symm
  have jo : dj (mo_w ad2 cs.1 N) (wo cJ ao f2) := wo_dj j3
  refine lw_Vi (As := [.int (iI e1), .int (iI e2)]) (rest := []) (z := if r_whc N np e1 e2 = 0 then N (21 + e2.toNat) e1.toNat else 0) (w' := mo_w ad2 cs.1 (mset N 0 0 (r_whc N np e1 e2))) ⟨hx, hb, hml, hown, hg⟩ (r_where l _ np ns e1 e2 z1 z2 (inv_G hi).1 hi.1.2.2.2.1.2.1 hi.1.2.2.2.1.2.2 hi.1.2.2.2.2.1.2.2.1 hi.1.2.2.2.2.1.2.1) (cwV 2 hg (gt_V (List.mem_append_right _ (List.mem_append_right _ (List.mem_append_right _ (List.mem_append_right _ (List.mem_append_right _ (List.mem_append_right _ (List.mem_append_right _ (List.mem_append_right _ (List.mem_append_right _ (List.mem_append_right _ (List.mem_append_right _ (List.mem_append_right _ (List.mem_append_right _ (List.mem_append_right _ (List.mem_append_right _ (List.mem_append_right _ (List.mem_append_right _ (List.mem_of_getElem? (i := 10) rfl)))))))))))))))))) (List.mem_append_right _ (List.mem_append_right _ (List.mem_append_right _ (List.mem_append_right _ (List.mem_append_right _ (List.mem_append_right _ (List.mem_append_right _ (List.mem_append_right _ (List.mem_append_right _ (List.mem_append_right _ (List.mem_append_right _ (List.mem_append_right _ (List.mem_append_right _ (List.mem_append_right _ (List.mem_append_right _ (List.mem_append_right _ (List.mem_append_right _ (List.mem_of_getElem? (i := 11) rfl)))))))))))))))))) (List.mem_append_right _ (List.mem_append_right _ (List.mem_append_right _ (List.mem_append_right _ (List.mem_append_right _ (List.mem_append_right _ (List.mem_append_right _ (List.mem_append_right _ (List.mem_append_right _ (List.mem_append_right _ (List.mem_append_right _ (List.mem_append_right _ (List.mem_append_right _ (List.mem_append_right _ (List.mem_append_right _ (List.mem_append_right _ (List.mem_append_right _ (List.mem_of_getElem? (i := 12) rfl)))))))))))))))))) (List.mem_append_right _ (List.mem_append_left _ (List.mem_of_getElem? (i := 9) rfl))) (List.mem_append_right _ (List.mem_append_right _ (List.mem_append_right _ (List.mem_append_right _ (List.mem_append_right _ (List.mem_append_right _ (List.mem_append_right _ (List.mem_append_right _ (List.mem_append_right _ (List.mem_append_right _ (List.mem_append_right _ (List.mem_append_right _ (List.mem_append_right _ (List.mem_append_right _ (List.mem_append_right _ (List.mem_append_right _ (List.mem_append_right _ (List.mem_of_getElem? (i := 13) rfl))))))))))))))))))) rfl rfl rfl (by decide +kernel) ⟨Nat.le_of_ble_eq_true rfl, Nat.le_of_ble_eq_true rfl⟩) rw_blind (fun U hU hW => ⟨by rw [hU], by rw [hU]; exact hPm1, va_K.moved hW.alike hKm, hDm.weaken (fun _ _ _ _ => trivial)⟩) hDm hS1 hA (va_recv hKm hPm1 (ci := 7) (q0 := 0) rfl (wl_atE (by decide) rfl)) rfl hl.1 rfl (Nat.le_of_ble_eq_true rfl) d_law_573 ⟨by show 175 + k + 1 + 0 ≤ 601024; omega, by show 25604 + 6 * k + 6 + 0 ≤ 7293034; omega⟩ (fun H2 locs2 hPm2 hDm2 hDmq hS2 hk2 => ?_)
  have hP2 := z_keep hP1 jc hk2
  have hPo2 := z_keep hPo1 jo hk2
  rw [← hN2] at hPm2 hDm2
  obtain ⟨bz2, hbz⟩ : ∃ z : Int, z = (if r_whc N np e1 e2 = 0 then N (21 + e2.toNat) e1.toNat else 0) := ⟨_, rfl⟩
  rw [← hbz]
  refine lv_istore (lv' := [(6, .int (iI bz2)), (5, .int (iI cd)), (4, .int (iI ((4 * k : Nat) : Int))), (3, .ref ao), (2, .ref (ad2 0)), (1, .ref (ad 0)), (0, .ref b)]) hx hb d_law_576 hl (by decide) rfl (fun ls hl => ?_)
  refine lv_aload_n hx hb d_law_578 rfl (lv_at hl 4 rfl) ?_
  refine ro_V (As := []) (rest := []) (z := N2 0 0) ⟨hx, hb, hml, hown, hg⟩ (r_thrown l) (cwV 0 hg (gt_V (List.mem_append_right _ (List.mem_append_right _ (List.mem_append_right _ (List.mem_append_right _ (List.mem_append_right _ (List.mem_append_right _ (List.mem_append_right _ (List.mem_append_right _ (List.mem_append_right _ (List.mem_append_right _ (List.mem_append_right _ (List.mem_append_right _ (List.mem_append_right _ (List.mem_append_right _ (List.mem_append_left _ (List.mem_of_getElem? (i := 27) rfl)))))))))))))))) (List.mem_append_right _ (List.mem_append_right _ (List.mem_append_right _ (List.mem_append_right _ (List.mem_append_right _ (List.mem_append_right _ (List.mem_append_right _ (List.mem_append_right _ (List.mem_append_right _ (List.mem_append_right _ (List.mem_append_right _ (List.mem_append_right _ (List.mem_append_right _ (List.mem_append_right _ (List.mem_append_left _ (List.mem_of_getElem? (i := 28) rfl)))))))))))))))) (List.mem_append_right _ (List.mem_append_right _ (List.mem_append_right _ (List.mem_append_right _ (List.mem_append_right _ (List.mem_append_right _ (List.mem_append_right _ (List.mem_append_right _ (List.mem_append_right _ (List.mem_append_right _ (List.mem_append_right _ (List.mem_append_right _ (List.mem_append_right _ (List.mem_append_right _ (List.mem_append_left _ (List.mem_of_getElem? (i := 29) rfl)))))))))))))))) (List.mem_append_right _ (List.mem_append_left _ (List.mem_of_getElem? (i := 9) rfl))) (List.mem_append_right _ (List.mem_append_right _ (List.mem_append_right _ (List.mem_append_right _ (List.mem_append_right _ (List.mem_append_right _ (List.mem_append_right _ (List.mem_append_right _ (List.mem_append_right _ (List.mem_append_right _ (List.mem_append_right _ (List.mem_append_right _ (List.mem_append_right _ (List.mem_append_right _ (List.mem_append_left _ (List.mem_of_getElem? (i := 30) rfl))))))))))))))))) rfl rfl rfl (by decide +kernel) ⟨Nat.le_of_ble_eq_true rfl, Nat.le_of_ble_eq_true rfl⟩) hKm hPm2 (va_recv hKm hPm2 (ci := 7) (q0 := 0) rfl (wl_atE (by decide) rfl)) rfl hl.1 rfl (Nat.le_of_ble_eq_true rfl) d_law_579 ⟨by show 175 + k + 1 + 0 ≤ 601024; omega, by show 25604 + 6 * k + 6 + 0 ≤ 7293034; omega⟩ ?_
  rw [hth]
  refine lv_iload hx hb d_law_582 (lv_at hl 1 rfl) ?_
  refine z_icmp_eq hx hb (tgt := 589) d_law_584 (by decide) hcz hcz (fun c_584 => ?_) (fun c_584 => absurd rfl c_584)
  have hst : lw_St D cs cJ ao ad ad2 s M2 N2 (np) (ns) rp f2 H2 locs2 := ⟨hi2, ⟨hP2, hPm2, hPo2⟩, ⟨hD1, hDm2, hDo1⟩, ⟨(mo_dj jc).symm, pg_dj (wo_dj j2), mo_dj jo⟩, hS2⟩
  have hl9 : lv_has ls 7 [(4, .int (iI ((4 * k : Nat) : Int))), (3, .ref ao), (2, .ref (ad2 0)), (1, .ref (ad 0)), (0, .ref b)] := lv_sub hl [2, 3, 4, 5, 6] rfl
  have hgo : W p l e room_1 s m #[Value.ref b] below meth c H2 locs2 (175 + k + 1) (25604 + 6 * k + 6) Q (F0 m 757 ls []) := kk M2 N2 _ _ rp f2 H2 locs2 ls hst hl9
  refine lv_iload hx hb d_law_589 (lv_at hl 1 rfl) ?_
  refine z_if_ne hx hb (tgt := 606) d_law_591 (by decide) hcz (fun c_591 => lv_goto (tgt := 757) hx hb d_law_606 (by decide) hgo) (fun c_591 => ?_)
  refine lv_aload_n hx hb d_law_594 rfl (lv_at hl 3 rfl) ?_
  refine z_iconst hx hb (z := 0) d_law_595 ?_
  refine va_lald hx hb hKJ hPo2 0 0 rfl rfl (iI_in (n := 1) (j := 0) (by decide) (by decide)) d_law_596 ?_
  refine lv_iload hx hb d_law_597 (lv_at hl 0 rfl) ?_
  refine lv_i2l hx hb d_law_599 rfl ?_
  have hz0 : r_whc N np e1 e2 = 0 := by rw [← hcd]; exact c_591
  have hb9 : bz2 = N (21 + e2.toNat) e1.toNat := by rw [hbz, if_pos hz0]
  refine lw_same hx hb (tgt := 606) (by rw [hf2, if_pos hz0, hb9]) d_law_600 d_law_601 (by decide) ?_
  exact lv_goto (tgt := 757) hx hb d_law_606 (by decide) hgo
