set_option maxHeartbeats 4000000 in
set_option maxRecDepth 100000 in
theorem lc_paragraph {p : Program} {l : Launch} {e : Env} {s : State} {m : MethodId} {below : List Frame} {meth : Method} {c : Code} {Q : State → Prop} {b L : Nat} {xs : Nat → Int32} {D : va_G} {cs : pg_C} {cJ : ClassId} {ao : Nat} {ad ad2 : Nat → Nat} (hx : p.tables.exec = Jvm.exec) (hb : c.code = code) (hml : c.maxLocals = 7) (hown : s.vm.findClass R_LW = some m.cls) (hts : ∀ w ∈ lw_tbl, w.before #[Value.ref b] s = true) (hfl : l.flags = flags0) (hK : va_K D vwCl (pg_tys cs) s) (hKJ : va_K D vwCl [(cJ, .long)] s) (hT : z_T s) (hX : va_X b L xs s s.heap) (hbl : b < s.heap.size) (hL : L ≤ 2048) (k : Nat) (hk : 4 * k + 3 < L) {M N : Nat → Nat → Int} {np ns : Nat} {rp : Option Nat} {f : Nat → Int64} {H : Heap} {locs : List Loc} {ls : Array Slot} (hs : lw_St D cs cJ ao ad ad2 s M N np ns rp f H locs) (hl : lv_has ls 7 [(4, .int (iI ((4 * k : Nat) : Int))), (3, .ref ao), (2, .ref (ad2 0)), (1, .ref (ad 0)), (0, .ref b)]) (kk : ∀ (M N : Nat → Nat → Int) (np ns : Nat) (rp : Option Nat) (f : Nat → Int64) (H : Heap) (locs : List Loc) (ls : Array Slot), lw_St D cs cJ ao ad ad2 s M N np ns rp f H locs → lv_has ls 7 [(4, .int (iI ((4 * k : Nat) : Int))), (3, .ref ao), (2, .ref (ad2 0)), (1, .ref (ad 0)), (0, .ref b)] → W p l e room_1 s m #[Value.ref b] below meth c H locs (175 + (k + 1)) (25604 + 6 * (k + 1)) Q (F0 m 757 ls [])) : W p l e room_1 s m #[Value.ref b] below meth c H locs (175 + k) (25604 + 6 * k) Q (F0 m 111 ls []) := by
  obtain ⟨hi, ⟨hP, hPm, hPo⟩, ⟨hD, hDm, hDo⟩, ⟨j1, j2, j3⟩, hS⟩ := hs
  have hg : ∀ w ∈ gt, w.before #[Value.ref b] s = true := fun w h => hts w (gt_in w h)
  have hKm : va_K D vwCl (mo_tys cs.1) s := hK.sub [0] rfl
  have hA : ∀ q : Nat, s.heap.size ≤ q → aH s q := fun q h => h
  obtain ⟨e1, he1⟩ : ∃ z : Int, z = (xs (4 * k + 1)).toInt := ⟨_, rfl⟩
  have z1 : zb e1 := by rw [he1]; exact zb_of _
  obtain ⟨e2, he2⟩ : ∃ z : Int, z = (xs (4 * k + 2)).toInt := ⟨_, rfl⟩
  have z2 : zb e2 := by rw [he2]; exact zb_of _
  obtain ⟨e3, he3⟩ : ∃ z : Int, z = (xs (4 * k + 3)).toInt := ⟨_, rfl⟩
  have z3 : zb e3 := by rw [he3]; exact zb_of _
  refine lv_aload_n hx hb d_law_111 rfl (lv_at hl 3 rfl) ?_
  refine lv_aload_n hx hb d_law_112 rfl (lv_at hl 1 rfl) ?_
  refine lw_SW (n := 2) (As := [.ref (ad 0), .ref ao]) (rest := []) (z := r_pac np) (w' := pg_w ad cs rp (if r_pac np = 0 then q_apar (q_fg M) np else M)) (w2' := wo cJ ao (if r_pac np = 0 then (fun _ => (iI (((np : Nat) : Int))).toInt64) else f)) ⟨hx, hb, hml, hown, hts⟩ (j_paragraph l hfl _ hi  ) rfl rfl ⟨Nat.le_of_ble_eq_true rfl, Nat.le_of_ble_eq_true rfl⟩ (lw_hws hts cw_paragraph cwk_paragraph) List.mem_cons_self (hg _ (List.mem_append_right _ (List.mem_append_left _ (List.mem_of_getElem? (i := 1) rfl)))) (by decide +kernel) (hg _ (List.mem_append_right _ (List.mem_append_right _ (List.mem_append_right _ (List.mem_append_right _ (List.mem_append_right _ (List.mem_append_right _ (List.mem_append_right _ (List.mem_append_right _ (List.mem_append_left _ (List.mem_of_getElem? (i := 36) rfl))))))))))) (hg _ (List.mem_append_right _ (List.mem_append_right _ (List.mem_append_right _ (List.mem_append_right _ (List.mem_append_right _ (List.mem_append_right _ (List.mem_append_right _ (List.mem_append_right _ (List.mem_append_left _ (List.mem_of_getElem? (i := 37) rfl))))))))))) hK hKJ hP hPo hD hDo j2 hS hT hA (fun q h => Nat.not_le.mpr h) rfl hl.1 rfl (Nat.le_of_ble_eq_true rfl) d_law_113 ⟨by show 175 + k + 1 ≤ 601024; omega, by show 25604 + 6 * k + 6 ≤ 7293034; omega⟩ (fun H1 locs1 hP1 hPo1 hD1 hDo1 hDq hDoq hS1 hz1 hk1 => ?_)
  have hPm1 := z_keep hPm (dj_app j1 j3.symm) hk1
  have hS := hS1
  have haf := aft_par hi
  obtain ⟨cd, hcd⟩ : ∃ z : Int, z = r_pac np := ⟨_, rfl⟩
  have hcz : zb cd := by have h9 := haf.2.2.1; rw [← hcd] at h9; exact ⟨by omega, by omega⟩
  have hth : (if np = 30 then mset N 0 0 1 else r_pa N np) 0 0 = cd := by rw [hcd]; exact haf.2.1
  have hi2 : INV (if r_pac np = 0 then q_apar (q_fg M) np else M) (if np = 30 then mset N 0 0 1 else r_pa N np) (if r_pac np = 0 then np + 1 else np) (ns) := haf.1
  obtain ⟨M2, hM2⟩ : ∃ q, q = (if r_pac np = 0 then q_apar (q_fg M) np else M) := ⟨_, rfl⟩
  obtain ⟨N2, hN2⟩ : ∃ q, q = (if np = 30 then mset N 0 0 1 else r_pa N np) := ⟨_, rfl⟩
  obtain ⟨f2, hf2⟩ : ∃ q : Nat → Int64, q = (if r_pac np = 0 then (fun _ => (iI (((np : Nat) : Int))).toInt64) else f) := ⟨_, rfl⟩
  rw [← hM2] at hP1 hD1 hDq
  rw [← hM2, ← hN2] at hi2
  rw [← hN2] at hth
  rw [← hf2] at hPo1 hDo1 hDoq
  rw [← hcd]
  refine lv_istore (lv' := [(5, .int (iI cd)), (4, .int (iI ((4 * k : Nat) : Int))), (3, .ref ao), (2, .ref (ad2 0)), (1, .ref (ad 0)), (0, .ref b)]) hx hb d_law_116 hl (by decide) rfl (fun ls hl => ?_)
  refine lv_aload_n hx hb d_law_118 rfl (lv_at hl 3 rfl) ?_
  have jc : dj (mo_w ad2 cs.1 N) (pg_w ad cs rp M2) := (pg_dj j1).symm
  have jo : dj (mo_w ad2 cs.1 N) (wo cJ ao f2) := wo_dj j3
  refine lw_Vi (As := []) (rest := []) (z := if np = 30 then 0 else ((np : Nat) : Int)) (w' := mo_w ad2 cs.1 (if np = 30 then mset N 0 0 1 else r_pa N np)) ⟨hx, hb, hml, hown, hg⟩ (r_paragraph l _ np hi.1.2.2.2.1.2.1 hi.1.2.2.2.1.2.2) (cwV 0 hg (gt_V (List.mem_append_right _ (List.mem_append_right _ (List.mem_append_right _ (List.mem_append_right _ (List.mem_append_right _ (List.mem_append_right _ (List.mem_append_right _ (List.mem_append_right _ (List.mem_append_right _ (List.mem_append_right _ (List.mem_append_right _ (List.mem_append_right _ (List.mem_append_right _ (List.mem_append_right _ (List.mem_append_left _ (List.mem_of_getElem? (i := 35) rfl)))))))))))))))) (List.mem_append_right _ (List.mem_append_right _ (List.mem_append_right _ (List.mem_append_right _ (List.mem_append_right _ (List.mem_append_right _ (List.mem_append_right _ (List.mem_append_right _ (List.mem_append_right _ (List.mem_append_right _ (List.mem_append_right _ (List.mem_append_right _ (List.mem_append_right _ (List.mem_append_right _ (List.mem_append_left _ (List.mem_of_getElem? (i := 36) rfl)))))))))))))))) (List.mem_append_right _ (List.mem_append_right _ (List.mem_append_right _ (List.mem_append_right _ (List.mem_append_right _ (List.mem_append_right _ (List.mem_append_right _ (List.mem_append_right _ (List.mem_append_right _ (List.mem_append_right _ (List.mem_append_right _ (List.mem_append_right _ (List.mem_append_right _ (List.mem_append_right _ (List.mem_append_left _ (List.mem_of_getElem? (i := 37) rfl)))))))))))))))) (List.mem_append_right _ (List.mem_append_left _ (List.mem_of_getElem? (i := 9) rfl))) (List.mem_append_right _ (List.mem_append_right _ (List.mem_append_right _ (List.mem_append_right _ (List.mem_append_right _ (List.mem_append_right _ (List.mem_append_right _ (List.mem_append_right _ (List.mem_append_right _ (List.mem_append_right _ (List.mem_append_right _ (List.mem_append_right _ (List.mem_append_right _ (List.mem_append_right _ (List.mem_append_left _ (List.mem_of_getElem? (i := 38) rfl))))))))))))))))) rfl rfl rfl (by decide +kernel) ⟨Nat.le_of_ble_eq_true rfl, Nat.le_of_ble_eq_true rfl⟩) rw_blind (fun U hU hW => ⟨by rw [hU], by rw [hU]; exact hPm1, va_K.moved hW.alike hKm, hDm.weaken (fun _ _ _ _ => trivial)⟩) hDm hS1 hA (va_recv hKm hPm1 (ci := 7) (q0 := 0) rfl (wl_atE (by decide) rfl)) rfl hl.1 rfl (Nat.le_of_ble_eq_true rfl) d_law_119 ⟨by show 175 + k + 1 + 0 ≤ 601024; omega, by show 25604 + 6 * k + 6 + 0 ≤ 7293034; omega⟩ (fun H2 locs2 hPm2 hDm2 hDmq hS2 hk2 => ?_)
  have hP2 := z_keep hP1 jc hk2
  have hPo2 := z_keep hPo1 jo hk2
  rw [← hN2] at hPm2 hDm2
  obtain ⟨bz2, hbz⟩ : ∃ z : Int, z = (if np = 30 then 0 else ((np : Nat) : Int)) := ⟨_, rfl⟩
  rw [← hbz]
  refine lv_istore (lv' := [(6, .int (iI bz2)), (5, .int (iI cd)), (4, .int (iI ((4 * k : Nat) : Int))), (3, .ref ao), (2, .ref (ad2 0)), (1, .ref (ad 0)), (0, .ref b)]) hx hb d_law_122 hl (by decide) rfl (fun ls hl => ?_)
  refine lv_aload_n hx hb d_law_124 rfl (lv_at hl 4 rfl) ?_
  refine ro_V (As := []) (rest := []) (z := N2 0 0) ⟨hx, hb, hml, hown, hg⟩ (r_thrown l) (cwV 0 hg (gt_V (List.mem_append_right _ (List.mem_append_right _ (List.mem_append_right _ (List.mem_append_right _ (List.mem_append_right _ (List.mem_append_right _ (List.mem_append_right _ (List.mem_append_right _ (List.mem_append_right _ (List.mem_append_right _ (List.mem_append_right _ (List.mem_append_right _ (List.mem_append_right _ (List.mem_append_right _ (List.mem_append_left _ (List.mem_of_getElem? (i := 27) rfl)))))))))))))))) (List.mem_append_right _ (List.mem_append_right _ (List.mem_append_right _ (List.mem_append_right _ (List.mem_append_right _ (List.mem_append_right _ (List.mem_append_right _ (List.mem_append_right _ (List.mem_append_right _ (List.mem_append_right _ (List.mem_append_right _ (List.mem_append_right _ (List.mem_append_right _ (List.mem_append_right _ (List.mem_append_left _ (List.mem_of_getElem? (i := 28) rfl)))))))))))))))) (List.mem_append_right _ (List.mem_append_right _ (List.mem_append_right _ (List.mem_append_right _ (List.mem_append_right _ (List.mem_append_right _ (List.mem_append_right _ (List.mem_append_right _ (List.mem_append_right _ (List.mem_append_right _ (List.mem_append_right _ (List.mem_append_right _ (List.mem_append_right _ (List.mem_append_right _ (List.mem_append_left _ (List.mem_of_getElem? (i := 29) rfl)))))))))))))))) (List.mem_append_right _ (List.mem_append_left _ (List.mem_of_getElem? (i := 9) rfl))) (List.mem_append_right _ (List.mem_append_right _ (List.mem_append_right _ (List.mem_append_right _ (List.mem_append_right _ (List.mem_append_right _ (List.mem_append_right _ (List.mem_append_right _ (List.mem_append_right _ (List.mem_append_right _ (List.mem_append_right _ (List.mem_append_right _ (List.mem_append_right _ (List.mem_append_right _ (List.mem_append_left _ (List.mem_of_getElem? (i := 30) rfl))))))))))))))))) rfl rfl rfl (by decide +kernel) ⟨Nat.le_of_ble_eq_true rfl, Nat.le_of_ble_eq_true rfl⟩) hKm hPm2 (va_recv hKm hPm2 (ci := 7) (q0 := 0) rfl (wl_atE (by decide) rfl)) rfl hl.1 rfl (Nat.le_of_ble_eq_true rfl) d_law_125 ⟨by show 175 + k + 1 + 0 ≤ 601024; omega, by show 25604 + 6 * k + 6 + 0 ≤ 7293034; omega⟩ ?_
  rw [hth]
  refine lv_iload hx hb d_law_128 (lv_at hl 1 rfl) ?_
  refine z_icmp_eq hx hb (tgt := 135) d_law_130 (by decide) hcz hcz (fun c_130 => ?_) (fun c_130 => absurd rfl c_130)
  have hst : lw_St D cs cJ ao ad ad2 s M2 N2 (if r_pac np = 0 then np + 1 else np) (ns) rp f2 H2 locs2 := ⟨hi2, ⟨hP2, hPm2, hPo2⟩, ⟨hD1, hDm2, hDo1⟩, ⟨(mo_dj jc).symm, pg_dj (wo_dj j2), mo_dj jo⟩, hS2⟩
  have hl9 : lv_has ls 7 [(4, .int (iI ((4 * k : Nat) : Int))), (3, .ref ao), (2, .ref (ad2 0)), (1, .ref (ad 0)), (0, .ref b)] := lv_sub hl [2, 3, 4, 5, 6] rfl
  have hgo : W p l e room_1 s m #[Value.ref b] below meth c H2 locs2 (175 + k + 1) (25604 + 6 * k + 6) Q (F0 m 757 ls []) := kk M2 N2 _ _ rp f2 H2 locs2 ls hst hl9
  refine lv_iload hx hb d_law_135 (lv_at hl 1 rfl) ?_
  refine z_if_ne hx hb (tgt := 152) d_law_137 (by decide) hcz (fun c_137 => lv_goto (tgt := 757) hx hb d_law_152 (by decide) hgo) (fun c_137 => ?_)
  refine lv_aload_n hx hb d_law_140 rfl (lv_at hl 3 rfl) ?_
  refine z_iconst hx hb (z := 0) d_law_141 ?_
  refine va_lald hx hb hKJ hPo2 0 0 rfl rfl (iI_in (n := 1) (j := 0) (by decide) (by decide)) d_law_142 ?_
  refine lv_iload hx hb d_law_143 (lv_at hl 0 rfl) ?_
  refine lv_i2l hx hb d_law_145 rfl ?_
  have hz0 : r_pac np = 0 := by rw [← hcd]; exact c_137
  have hb9 : bz2 = ((np : Nat) : Int) := by rw [hbz]; exact haf.2.2.2 hz0
  refine lw_same hx hb (tgt := 152) (by rw [hf2, if_pos hz0, hb9]) d_law_146 d_law_147 (by decide) ?_
  exact lv_goto (tgt := 757) hx hb d_law_152 (by decide) hgo
set_option maxHeartbeats 4000000 in
set_option maxRecDepth 100000 in
theorem lc_sign {p : Program} {l : Launch} {e : Env} {s : State} {m : MethodId} {below : List Frame} {meth : Method} {c : Code} {Q : State → Prop} {b L : Nat} {xs : Nat → Int32} {D : va_G} {cs : pg_C} {cJ : ClassId} {ao : Nat} {ad ad2 : Nat → Nat} (hx : p.tables.exec = Jvm.exec) (hb : c.code = code) (hml : c.maxLocals = 7) (hown : s.vm.findClass R_LW = some m.cls) (hts : ∀ w ∈ lw_tbl, w.before #[Value.ref b] s = true) (hfl : l.flags = flags0) (hK : va_K D vwCl (pg_tys cs) s) (hKJ : va_K D vwCl [(cJ, .long)] s) (hT : z_T s) (hX : va_X b L xs s s.heap) (hbl : b < s.heap.size) (hL : L ≤ 2048) (k : Nat) (hk : 4 * k + 3 < L) {M N : Nat → Nat → Int} {np ns : Nat} {rp : Option Nat} {f : Nat → Int64} {H : Heap} {locs : List Loc} {ls : Array Slot} (hs : lw_St D cs cJ ao ad ad2 s M N np ns rp f H locs) (hl : lv_has ls 7 [(4, .int (iI ((4 * k : Nat) : Int))), (3, .ref ao), (2, .ref (ad2 0)), (1, .ref (ad 0)), (0, .ref b)]) (kk : ∀ (M N : Nat → Nat → Int) (np ns : Nat) (rp : Option Nat) (f : Nat → Int64) (H : Heap) (locs : List Loc) (ls : Array Slot), lw_St D cs cJ ao ad ad2 s M N np ns rp f H locs → lv_has ls 7 [(4, .int (iI ((4 * k : Nat) : Int))), (3, .ref ao), (2, .ref (ad2 0)), (1, .ref (ad 0)), (0, .ref b)] → W p l e room_1 s m #[Value.ref b] below meth c H locs (175 + (k + 1)) (25604 + 6 * (k + 1)) Q (F0 m 757 ls [])) : W p l e room_1 s m #[Value.ref b] below meth c H locs (175 + k) (25604 + 6 * k) Q (F0 m 155 ls []) := by
  obtain ⟨hi, ⟨hP, hPm, hPo⟩, ⟨hD, hDm, hDo⟩, ⟨j1, j2, j3⟩, hS⟩ := hs
  have hg : ∀ w ∈ gt, w.before #[Value.ref b] s = true := fun w h => hts w (gt_in w h)
  have hKm : va_K D vwCl (mo_tys cs.1) s := hK.sub [0] rfl
  have hA : ∀ q : Nat, s.heap.size ≤ q → aH s q := fun q h => h
  obtain ⟨e1, he1⟩ : ∃ z : Int, z = (xs (4 * k + 1)).toInt := ⟨_, rfl⟩
  have z1 : zb e1 := by rw [he1]; exact zb_of _
  obtain ⟨e2, he2⟩ : ∃ z : Int, z = (xs (4 * k + 2)).toInt := ⟨_, rfl⟩
  have z2 : zb e2 := by rw [he2]; exact zb_of _
  obtain ⟨e3, he3⟩ : ∃ z : Int, z = (xs (4 * k + 3)).toInt := ⟨_, rfl⟩
  have z3 : zb e3 := by rw [he3]; exact zb_of _
  refine lv_aload_n hx hb d_law_155 rfl (lv_at hl 3 rfl) ?_
  refine lv_aload_n hx hb d_law_156 rfl (lv_at hl 4 rfl) ?_
  refine lv_iload hx hb d_law_157 (lv_at hl 0 rfl) ?_
  refine z_iconst hx hb (z := 1) d_law_159 ?_
  refine z_iadd hx hb d_law_160 (v := ((4 * k + 1 : Nat) : Int)) (by omega) ?_
  refine lw_sld (j := 4 * k + 1) hx hb hX hbl hS (by omega) hL d_law_161 ?_
  rw [← he1]
  refine lv_aload_n hx hb d_law_162 rfl (lv_at hl 4 rfl) ?_
  refine lv_iload hx hb d_law_163 (lv_at hl 0 rfl) ?_
  refine z_iconst hx hb (z := 2) d_law_165 ?_
  refine z_iadd hx hb d_law_166 (v := ((4 * k + 2 : Nat) : Int)) (by omega) ?_
  refine lw_sld (j := 4 * k + 2) hx hb hX hbl hS (by omega) hL d_law_167 ?_
  rw [← he2]
  refine lv_aload_n hx hb d_law_168 rfl (lv_at hl 4 rfl) ?_
  refine lv_iload hx hb d_law_169 (lv_at hl 0 rfl) ?_
  refine z_iconst hx hb (z := 3) d_law_171 ?_
  refine z_iadd hx hb d_law_172 (v := ((4 * k + 3 : Nat) : Int)) (by omega) ?_
  refine lw_sld (j := 4 * k + 3) hx hb hX hbl hS (by omega) hL d_law_173 ?_
  rw [← he3]
  refine lv_aload_n hx hb d_law_174 rfl (lv_at hl 1 rfl) ?_
  refine lw_SW (n := 5) (As := [.ref (ad 0), .int (iI e1), .int (iI e2), .int (iI e3), .ref ao]) (rest := []) (z := r_sgc N np e1 e2 e3) (w' := pg_w ad cs rp (if r_sgc N np e1 e2 e3 = 0 then q_asgn (q_fg M) np ns e1 e2 e3 else M)) (w2' := wo cJ ao (if r_sgc N np e1 e2 e3 = 0 then (fun _ => (iI (((ns : Nat) : Int))).toInt64) else f)) ⟨hx, hb, hml, hown, hts⟩ (j_sign l hfl _ hi e1 e2 e3 z1 z2 z3) rfl rfl ⟨Nat.le_of_ble_eq_true rfl, Nat.le_of_ble_eq_true rfl⟩ (lw_hws hts cw_sign cwk_sign) List.mem_cons_self (hg _ (List.mem_append_right _ (List.mem_append_left _ (List.mem_of_getElem? (i := 1) rfl)))) (by decide +kernel) (hg _ (List.mem_append_right _ (List.mem_append_right _ (List.mem_append_right _ (List.mem_append_right _ (List.mem_append_right _ (List.mem_append_right _ (List.mem_append_right _ (List.mem_append_right _ (List.mem_append_right _ (List.mem_append_right _ (List.mem_append_left _ (List.mem_of_getElem? (i := 19) rfl))))))))))))) (hg _ (List.mem_append_right _ (List.mem_append_right _ (List.mem_append_right _ (List.mem_append_right _ (List.mem_append_right _ (List.mem_append_right _ (List.mem_append_right _ (List.mem_append_right _ (List.mem_append_right _ (List.mem_append_right _ (List.mem_append_left _ (List.mem_of_getElem? (i := 20) rfl))))))))))))) hK hKJ hP hPo hD hDo j2 hS hT hA (fun q h => Nat.not_le.mpr h) rfl hl.1 rfl (Nat.le_of_ble_eq_true rfl) d_law_175 ⟨by show 175 + k + 1 ≤ 601024; omega, by show 25604 + 6 * k + 6 ≤ 7293034; omega⟩ (fun H1 locs1 hP1 hPo1 hD1 hDo1 hDq hDoq hS1 hz1 hk1 => ?_)
  have hPm1 := z_keep hPm (dj_app j1 j3.symm) hk1
  have hS := hS1
  have haf := aft_sign hi e1 e2 e3
  obtain ⟨cd, hcd⟩ : ∃ z : Int, z = r_sgc N np e1 e2 e3 := ⟨_, rfl⟩
  have hcz : zb cd := by have h9 := haf.2.2; rw [← hcd] at h9; exact ⟨by omega, by omega⟩
  have hth : (if r_sgc N np e1 e2 e3 = 0 then r_sg N np ns e1 e2 e3 else mset N 0 0 (r_sgc N np e1 e2 e3)) 0 0 = cd := by rw [hcd]; exact haf.2.1
  have hi2 : INV (if r_sgc N np e1 e2 e3 = 0 then q_asgn (q_fg M) np ns e1 e2 e3 else M) (if r_sgc N np e1 e2 e3 = 0 then r_sg N np ns e1 e2 e3 else mset N 0 0 (r_sgc N np e1 e2 e3)) (np) (if r_sgc N np e1 e2 e3 = 0 then ns + 1 else ns) := haf.1
  obtain ⟨M2, hM2⟩ : ∃ q, q = (if r_sgc N np e1 e2 e3 = 0 then q_asgn (q_fg M) np ns e1 e2 e3 else M) := ⟨_, rfl⟩
  obtain ⟨N2, hN2⟩ : ∃ q, q = (if r_sgc N np e1 e2 e3 = 0 then r_sg N np ns e1 e2 e3 else mset N 0 0 (r_sgc N np e1 e2 e3)) := ⟨_, rfl⟩
  obtain ⟨f2, hf2⟩ : ∃ q : Nat → Int64, q = (if r_sgc N np e1 e2 e3 = 0 then (fun _ => (iI (((ns : Nat) : Int))).toInt64) else f) := ⟨_, rfl⟩
  rw [← hM2] at hP1 hD1 hDq
  rw [← hM2, ← hN2] at hi2
  rw [← hN2] at hth
  rw [← hf2] at hPo1 hDo1 hDoq
  rw [← hcd]
  refine lv_istore (lv' := [(5, .int (iI cd)), (4, .int (iI ((4 * k : Nat) : Int))), (3, .ref ao), (2, .ref (ad2 0)), (1, .ref (ad 0)), (0, .ref b)]) hx hb d_law_178 hl (by decide) rfl (fun ls hl => ?_)
  refine lv_aload_n hx hb d_law_180 rfl (lv_at hl 3 rfl) ?_
  refine lv_aload_n hx hb d_law_181 rfl (lv_at hl 5 rfl) ?_
  refine lv_iload hx hb d_law_182 (lv_at hl 1 rfl) ?_
  refine z_iconst hx hb (z := 1) d_law_184 ?_
  refine z_iadd hx hb d_law_185 (v := ((4 * k + 1 : Nat) : Int)) (by omega) ?_
  refine lw_sld (j := 4 * k + 1) hx hb hX hbl hS (by omega) hL d_law_186 ?_
  rw [← he1]
  refine lv_aload_n hx hb d_law_187 rfl (lv_at hl 5 rfl) ?_
  refine lv_iload hx hb d_law_188 (lv_at hl 1 rfl) ?_
  refine z_iconst hx hb (z := 2) d_law_190 ?_
  refine z_iadd hx hb d_law_191 (v := ((4 * k + 2 : Nat) : Int)) (by omega) ?_
  refine lw_sld (j := 4 * k + 2) hx hb hX hbl hS (by omega) hL d_law_192 ?_
  rw [← he2]
  refine lv_aload_n hx hb d_law_193 rfl (lv_at hl 5 rfl) ?_
  refine lv_iload hx hb d_law_194 (lv_at hl 1 rfl) ?_
  refine z_iconst hx hb (z := 3) d_law_196 ?_
  refine z_iadd hx hb d_law_197 (v := ((4 * k + 3 : Nat) : Int)) (by omega) ?_
  refine lw_sld (j := 4 * k + 3) hx hb hX hbl hS (by omega) hL d_law_198 ?_
  rw [← he3]
  have jc : dj (mo_w ad2 cs.1 N) (pg_w ad cs rp M2) := (pg_dj j1).symm
  have jo : dj (mo_w ad2 cs.1 N) (wo cJ ao f2) := wo_dj j3
  refine lw_Vi (As := [.int (iI e1), .int (iI e2), .int (iI e3)]) (rest := []) (z := if r_sgc N np e1 e2 e3 = 0 then ((ns : Nat) : Int) else 0) (w' := mo_w ad2 cs.1 (if r_sgc N np e1 e2 e3 = 0 then r_sg N np ns e1 e2 e3 else mset N 0 0 (r_sgc N np e1 e2 e3))) ⟨hx, hb, hml, hown, hg⟩ (r_sign l _ np ns e1 e2 e3 z1 z2 z3 hi.1.2.2.2.1.2.1 hi.1.2.2.2.1.2.2 hi.1.2.2.2.2.1.2.2.1 hi.1.2.2.2.2.1.2.1) (cwV 3 hg (gt_V (List.mem_append_right _ (List.mem_append_right _ (List.mem_append_right _ (List.mem_append_right _ (List.mem_append_right _ (List.mem_append_right _ (List.mem_append_right _ (List.mem_append_right _ (List.mem_append_right _ (List.mem_append_right _ (List.mem_append_right _ (List.mem_append_right _ (List.mem_append_right _ (List.mem_append_right _ (List.mem_append_left _ (List.mem_of_getElem? (i := 39) rfl)))))))))))))))) (List.mem_append_right _ (List.mem_append_right _ (List.mem_append_right _ (List.mem_append_right _ (List.mem_append_right _ (List.mem_append_right _ (List.mem_append_right _ (List.mem_append_right _ (List.mem_append_right _ (List.mem_append_right _ (List.mem_append_right _ (List.mem_append_right _ (List.mem_append_right _ (List.mem_append_right _ (List.mem_append_right _ (List.mem_append_left _ (List.mem_of_getElem? (i := 0) rfl))))))))))))))))) (List.mem_append_right _ (List.mem_append_right _ (List.mem_append_right _ (List.mem_append_right _ (List.mem_append_right _ (List.mem_append_right _ (List.mem_append_right _ (List.mem_append_right _ (List.mem_append_right _ (List.mem_append_right _ (List.mem_append_right _ (List.mem_append_right _ (List.mem_append_right _ (List.mem_append_right _ (List.mem_append_right _ (List.mem_append_left _ (List.mem_of_getElem? (i := 1) rfl))))))))))))))))) (List.mem_append_right _ (List.mem_append_left _ (List.mem_of_getElem? (i := 9) rfl))) (List.mem_append_right _ (List.mem_append_right _ (List.mem_append_right _ (List.mem_append_right _ (List.mem_append_right _ (List.mem_append_right _ (List.mem_append_right _ (List.mem_append_right _ (List.mem_append_right _ (List.mem_append_right _ (List.mem_append_right _ (List.mem_append_right _ (List.mem_append_right _ (List.mem_append_right _ (List.mem_append_right _ (List.mem_append_left _ (List.mem_of_getElem? (i := 2) rfl)))))))))))))))))) rfl rfl rfl (by decide +kernel) ⟨Nat.le_of_ble_eq_true rfl, Nat.le_of_ble_eq_true rfl⟩) rw_blind (fun U hU hW => ⟨by rw [hU], by rw [hU]; exact hPm1, va_K.moved hW.alike hKm, hDm.weaken (fun _ _ _ _ => trivial)⟩) hDm hS1 hA (va_recv hKm hPm1 (ci := 7) (q0 := 0) rfl (wl_atE (by decide) rfl)) rfl hl.1 rfl (Nat.le_of_ble_eq_true rfl) d_law_199 ⟨by show 175 + k + 1 + 0 ≤ 601024; omega, by show 25604 + 6 * k + 6 + 0 ≤ 7293034; omega⟩ (fun H2 locs2 hPm2 hDm2 hDmq hS2 hk2 => ?_)
  have hP2 := z_keep hP1 jc hk2
  have hPo2 := z_keep hPo1 jo hk2
  rw [← hN2] at hPm2 hDm2
  obtain ⟨bz2, hbz⟩ : ∃ z : Int, z = (if r_sgc N np e1 e2 e3 = 0 then ((ns : Nat) : Int) else 0) := ⟨_, rfl⟩
  rw [← hbz]
  refine lv_istore (lv' := [(6, .int (iI bz2)), (5, .int (iI cd)), (4, .int (iI ((4 * k : Nat) : Int))), (3, .ref ao), (2, .ref (ad2 0)), (1, .ref (ad 0)), (0, .ref b)]) hx hb d_law_202 hl (by decide) rfl (fun ls hl => ?_)
  refine lv_aload_n hx hb d_law_204 rfl (lv_at hl 4 rfl) ?_
  refine ro_V (As := []) (rest := []) (z := N2 0 0) ⟨hx, hb, hml, hown, hg⟩ (r_thrown l) (cwV 0 hg (gt_V (List.mem_append_right _ (List.mem_append_right _ (List.mem_append_right _ (List.mem_append_right _ (List.mem_append_right _ (List.mem_append_right _ (List.mem_append_right _ (List.mem_append_right _ (List.mem_append_right _ (List.mem_append_right _ (List.mem_append_right _ (List.mem_append_right _ (List.mem_append_right _ (List.mem_append_right _ (List.mem_append_left _ (List.mem_of_getElem? (i := 27) rfl)))))))))))))))) (List.mem_append_right _ (List.mem_append_right _ (List.mem_append_right _ (List.mem_append_right _ (List.mem_append_right _ (List.mem_append_right _ (List.mem_append_right _ (List.mem_append_right _ (List.mem_append_right _ (List.mem_append_right _ (List.mem_append_right _ (List.mem_append_right _ (List.mem_append_right _ (List.mem_append_right _ (List.mem_append_left _ (List.mem_of_getElem? (i := 28) rfl)))))))))))))))) (List.mem_append_right _ (List.mem_append_right _ (List.mem_append_right _ (List.mem_append_right _ (List.mem_append_right _ (List.mem_append_right _ (List.mem_append_right _ (List.mem_append_right _ (List.mem_append_right _ (List.mem_append_right _ (List.mem_append_right _ (List.mem_append_right _ (List.mem_append_right _ (List.mem_append_right _ (List.mem_append_left _ (List.mem_of_getElem? (i := 29) rfl)))))))))))))))) (List.mem_append_right _ (List.mem_append_left _ (List.mem_of_getElem? (i := 9) rfl))) (List.mem_append_right _ (List.mem_append_right _ (List.mem_append_right _ (List.mem_append_right _ (List.mem_append_right _ (List.mem_append_right _ (List.mem_append_right _ (List.mem_append_right _ (List.mem_append_right _ (List.mem_append_right _ (List.mem_append_right _ (List.mem_append_right _ (List.mem_append_right _ (List.mem_append_right _ (List.mem_append_left _ (List.mem_of_getElem? (i := 30) rfl))))))))))))))))) rfl rfl rfl (by decide +kernel) ⟨Nat.le_of_ble_eq_true rfl, Nat.le_of_ble_eq_true rfl⟩) hKm hPm2 (va_recv hKm hPm2 (ci := 7) (q0 := 0) rfl (wl_atE (by decide) rfl)) rfl hl.1 rfl (Nat.le_of_ble_eq_true rfl) d_law_205 ⟨by show 175 + k + 1 + 0 ≤ 601024; omega, by show 25604 + 6 * k + 6 + 0 ≤ 7293034; omega⟩ ?_
  rw [hth]
  refine lv_iload hx hb d_law_208 (lv_at hl 1 rfl) ?_
  refine z_icmp_eq hx hb (tgt := 215) d_law_210 (by decide) hcz hcz (fun c_210 => ?_) (fun c_210 => absurd rfl c_210)
  have hst : lw_St D cs cJ ao ad ad2 s M2 N2 (np) (if r_sgc N np e1 e2 e3 = 0 then ns + 1 else ns) rp f2 H2 locs2 := ⟨hi2, ⟨hP2, hPm2, hPo2⟩, ⟨hD1, hDm2, hDo1⟩, ⟨(mo_dj jc).symm, pg_dj (wo_dj j2), mo_dj jo⟩, hS2⟩
  have hl9 : lv_has ls 7 [(4, .int (iI ((4 * k : Nat) : Int))), (3, .ref ao), (2, .ref (ad2 0)), (1, .ref (ad 0)), (0, .ref b)] := lv_sub hl [2, 3, 4, 5, 6] rfl
  have hgo : W p l e room_1 s m #[Value.ref b] below meth c H2 locs2 (175 + k + 1) (25604 + 6 * k + 6) Q (F0 m 757 ls []) := kk M2 N2 _ _ rp f2 H2 locs2 ls hst hl9
  refine lv_iload hx hb d_law_215 (lv_at hl 1 rfl) ?_
  refine z_if_ne hx hb (tgt := 232) d_law_217 (by decide) hcz (fun c_217 => lv_goto (tgt := 757) hx hb d_law_232 (by decide) hgo) (fun c_217 => ?_)
  refine lv_aload_n hx hb d_law_220 rfl (lv_at hl 3 rfl) ?_
  refine z_iconst hx hb (z := 0) d_law_221 ?_
  refine va_lald hx hb hKJ hPo2 0 0 rfl rfl (iI_in (n := 1) (j := 0) (by decide) (by decide)) d_law_222 ?_
  refine lv_iload hx hb d_law_223 (lv_at hl 0 rfl) ?_
  refine lv_i2l hx hb d_law_225 rfl ?_
  have hz0 : r_sgc N np e1 e2 e3 = 0 := by rw [← hcd]; exact c_217
  have hb9 : bz2 = ((ns : Nat) : Int) := by rw [hbz, if_pos hz0]
  refine lw_same hx hb (tgt := 232) (by rw [hf2, if_pos hz0, hb9]) d_law_226 d_law_227 (by decide) ?_
  exact lv_goto (tgt := 757) hx hb d_law_232 (by decide) hgo
