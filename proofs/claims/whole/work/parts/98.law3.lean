set_option maxHeartbeats 4000000 in
set_option maxRecDepth 100000 in
theorem lc_shape {p : Program} {l : Launch} {e : Env} {s : State} {m : MethodId} {below : List Frame} {meth : Method} {c : Code} {Q : State → Prop} {b L : Nat} {xs : Nat → Int32} {D : va_G} {cs : pg_C} {cJ : ClassId} {ao : Nat} {ad ad2 : Nat → Nat} (hx : p.tables.exec = Jvm.exec) (hb : c.code = code) (hml : c.maxLocals = 7) (hown : s.vm.findClass R_LW = some m.cls) (hts : ∀ w ∈ lw_tbl, w.before #[Value.ref b] s = true) (hfl : l.flags = flags0) (hK : va_K D vwCl (pg_tys cs) s) (hKJ : va_K D vwCl [(cJ, .long)] s) (hT : z_T s) (hX : va_X b L xs s s.heap) (hbl : b < s.heap.size) (hL : L ≤ 2048) (k : Nat) (hk : 4 * k + 3 < L) {M N : Nat → Nat → Int} {np ns : Nat} {rp : Option Nat} {f : Nat → Int64} {H : Heap} {locs : List Loc} {ls : Array Slot} (hs : lw_St D cs cJ ao ad ad2 s M N np ns rp f H locs) (hl : lv_has ls 7 [(4, .int (iI ((4 * k : Nat) : Int))), (3, .ref ao), (2, .ref (ad2 0)), (1, .ref (ad 0)), (0, .ref b)]) (kk : ∀ (M N : Nat → Nat → Int) (np ns : Nat) (rp : Option Nat) (f : Nat → Int64) (H : Heap) (locs : List Loc) (ls : Array Slot), lw_St D cs cJ ao ad ad2 s M N np ns rp f H locs → lv_has ls 7 [(4, .int (iI ((4 * k : Nat) : Int))), (3, .ref ao), (2, .ref (ad2 0)), (1, .ref (ad 0)), (0, .ref b)] → W p l e room_1 s m #[Value.ref b] below meth c H locs (175 + (k + 1)) (25604 + 6 * (k + 1)) Q (F0 m 757 ls [])) : W p l e room_1 s m #[Value.ref b] below meth c H locs (175 + k) (25604 + 6 * k) Q (F0 m 235 ls []) := by
  obtain ⟨hi, ⟨hP, hPm, hPo⟩, ⟨hD, hDm, hDo⟩, ⟨j1, j2, j3⟩, hS⟩ := hs
  have hg : ∀ w ∈ gt, w.before #[Value.ref b] s = true := fun w h => hts w (gt_in w h)
  have hKm : va_K D vwCl (mo_tys cs.1) s := hK.sub [0] rfl
  have hA : ∀ q : Nat, s.heap.size ≤ q → aH s q := fun q h => h
  obtain ⟨e1, he1⟩ : ∃ z : Int, z = (xs (4 * k + 1)).toInt := ⟨_, rfl⟩
  have z1 : zb e1 := by rw [he1]; exact zb_of _
  obtain ⟨e2, he2⟩ : ∃ z : Int, z = (xs (4 * k + 2)).toInt := ⟨_, rfl⟩
  have z2 : zb e2 := by rw [he2]; exact zb_of _
  obtain ⟨e3, he3⟩ : ∃ z : Int, z = (xs (4 * k + 3)).toInt := ⟨_, rfl⟩
  have z3 : zb e3 := by rw [he3]; exact zb_of _
  refine lv_aload_n hx hb d_law_235 rfl (lv_at hl 3 rfl) ?_
  refine lv_aload_n hx hb d_law_236 rfl (lv_at hl 4 rfl) ?_
  refine lv_iload hx hb d_law_237 (lv_at hl 0 rfl) ?_
  refine z_iconst hx hb (z := 1) d_law_239 ?_
  refine z_iadd hx hb d_law_240 (v := ((4 * k + 1 : Nat) : Int)) (by omega) ?_
  refine lw_sld (j := 4 * k + 1) hx hb hX hbl hS (by omega) hL d_law_241 ?_
  rw [← he1]
  refine lv_aload_n hx hb d_law_242 rfl (lv_at hl 4 rfl) ?_
  refine lv_iload hx hb d_law_243 (lv_at hl 0 rfl) ?_
  refine z_iconst hx hb (z := 2) d_law_245 ?_
  refine z_iadd hx hb d_law_246 (v := ((4 * k + 2 : Nat) : Int)) (by omega) ?_
  refine lw_sld (j := 4 * k + 2) hx hb hX hbl hS (by omega) hL d_law_247 ?_
  rw [← he2]
  refine lv_aload_n hx hb d_law_248 rfl (lv_at hl 4 rfl) ?_
  refine lv_iload hx hb d_law_249 (lv_at hl 0 rfl) ?_
  refine z_iconst hx hb (z := 3) d_law_251 ?_
  refine z_iadd hx hb d_law_252 (v := ((4 * k + 3 : Nat) : Int)) (by omega) ?_
  refine lw_sld (j := 4 * k + 3) hx hb hX hbl hS (by omega) hL d_law_253 ?_
  rw [← he3]
  refine lw_SW (n := 4) (As := [.ref (ad 0), .int (iI e1), .int (iI e2), .int (iI e3)]) (rest := []) (z := r_spc np e1 e2 e3) (w' := pg_w ad cs rp (if r_spc np e1 e2 e3 = 0 then mset (q_fg M) (30 + 4 * e1.toNat) e2.toNat e3 else M)) (w2' := wo cJ ao (f)) ⟨hx, hb, hml, hown, hts⟩ (j_shape l hfl _ hi e1 e2 e3 z1 z2 z3) rfl rfl ⟨Nat.le_of_ble_eq_true rfl, Nat.le_of_ble_eq_true rfl⟩ (lw_hws hts cw_shape cwk_shape) List.mem_cons_self (hg _ (List.mem_append_right _ (List.mem_append_left _ (List.mem_of_getElem? (i := 1) rfl)))) (by decide +kernel) (hg _ (List.mem_append_right _ (List.mem_append_right _ (List.mem_append_right _ (List.mem_append_right _ (List.mem_append_right _ (List.mem_append_right _ (List.mem_append_right _ (List.mem_append_right _ (List.mem_append_right _ (List.mem_append_right _ (List.mem_append_right _ (List.mem_append_left _ (List.mem_of_getElem? (i := 20) rfl)))))))))))))) (hg _ (List.mem_append_right _ (List.mem_append_right _ (List.mem_append_right _ (List.mem_append_right _ (List.mem_append_right _ (List.mem_append_right _ (List.mem_append_right _ (List.mem_append_right _ (List.mem_append_right _ (List.mem_append_right _ (List.mem_append_right _ (List.mem_append_left _ (List.mem_of_getElem? (i := 21) rfl)))))))))))))) hK hKJ hP hPo hD hDo j2 hS hT hA (fun q h => Nat.not_le.mpr h) rfl hl.1 rfl (Nat.le_of_ble_eq_true rfl) d_law_254 ⟨by show 175 + k + 1 ≤ 601024; omega, by show 25604 + 6 * k + 6 ≤ 7293034; omega⟩ (fun H1 locs1 hP1 hPo1 hD1 hDo1 hDq hDoq hS1 hz1 hk1 => ?_)
  have hPm1 := z_keep hPm (dj_app j1 j3.symm) hk1
  have hS := hS1
  have haf := aft_shape hi e1 e2 e3
  obtain ⟨cd, hcd⟩ : ∃ z : Int, z = r_spc np e1 e2 e3 := ⟨_, rfl⟩
  have hcz : zb cd := by have h9 := haf.2.2; rw [← hcd] at h9; exact ⟨by omega, by omega⟩
  have hth : (if r_spc np e1 e2 e3 = 0 then r_spM N e1.toNat e2.toNat e3 else mset N 0 0 (r_spc np e1 e2 e3)) 0 0 = cd := by rw [hcd]; exact haf.2.1
  have hi2 : INV (if r_spc np e1 e2 e3 = 0 then mset (q_fg M) (30 + 4 * e1.toNat) e2.toNat e3 else M) (if r_spc np e1 e2 e3 = 0 then r_spM N e1.toNat e2.toNat e3 else mset N 0 0 (r_spc np e1 e2 e3)) (np) (ns) := haf.1
  obtain ⟨M2, hM2⟩ : ∃ q, q = (if r_spc np e1 e2 e3 = 0 then mset (q_fg M) (30 + 4 * e1.toNat) e2.toNat e3 else M) := ⟨_, rfl⟩
  obtain ⟨N2, hN2⟩ : ∃ q, q = (if r_spc np e1 e2 e3 = 0 then r_spM N e1.toNat e2.toNat e3 else mset N 0 0 (r_spc np e1 e2 e3)) := ⟨_, rfl⟩
  obtain ⟨f2, hf2⟩ : ∃ q : Nat → Int64, q = f := ⟨_, rfl⟩
  rw [← hM2] at hP1 hD1 hDq
  rw [← hM2, ← hN2] at hi2
  rw [← hN2] at hth
  rw [← hf2] at hPo1 hDo1 hDoq
  rw [← hcd]
  refine lv_istore (lv' := [(5, .int (iI cd)), (4, .int (iI ((4 * k : Nat) : Int))), (3, .ref ao), (2, .ref (ad2 0)), (1, .ref (ad 0)), (0, .ref b)]) hx hb d_law_257 hl (by decide) rfl (fun ls hl => ?_)
  refine lv_aload_n hx hb d_law_259 rfl (lv_at hl 3 rfl) ?_
  refine lv_aload_n hx hb d_law_260 rfl (lv_at hl 5 rfl) ?_
  refine lv_iload hx hb d_law_261 (lv_at hl 1 rfl) ?_
  refine z_iconst hx hb (z := 1) d_law_263 ?_
  refine z_iadd hx hb d_law_264 (v := ((4 * k + 1 : Nat) : Int)) (by omega) ?_
  refine lw_sld (j := 4 * k + 1) hx hb hX hbl hS (by omega) hL d_law_265 ?_
  rw [← he1]
  refine lv_aload_n hx hb d_law_266 rfl (lv_at hl 5 rfl) ?_
  refine lv_iload hx hb d_law_267 (lv_at hl 1 rfl) ?_
  refine z_iconst hx hb (z := 2) d_law_269 ?_
  refine z_iadd hx hb d_law_270 (v := ((4 * k + 2 : Nat) : Int)) (by omega) ?_
  refine lw_sld (j := 4 * k + 2) hx hb hX hbl hS (by omega) hL d_law_271 ?_
  rw [← he2]
  refine lv_aload_n hx hb d_law_272 rfl (lv_at hl 5 rfl) ?_
  refine lv_iload hx hb d_law_273 (lv_at hl 1 rfl) ?_
  refine z_iconst hx hb (z := 3) d_law_275 ?_
  refine z_iadd hx hb d_law_276 (v := ((4 * k + 3 : Nat) : Int)) (by omega) ?_
  refine lw_sld (j := 4 * k + 3) hx hb hX hbl hS (by omega) hL d_law_277 ?_
  rw [← he3]
  have jc : dj (mo_w ad2 cs.1 N) (pg_w ad cs rp M2) := (pg_dj j1).symm
  have jo : dj (mo_w ad2 cs.1 N) (wo cJ ao f2) := wo_dj j3
  refine lw_Vv (As := [.int (iI e1), .int (iI e2), .int (iI e3)]) (rest := []) (w' := mo_w ad2 cs.1 (if r_spc np e1 e2 e3 = 0 then r_spM N e1.toNat e2.toNat e3 else mset N 0 0 (r_spc np e1 e2 e3))) ⟨hx, hb, hml, hown, hg⟩ (r_shape l _ np e1 e2 e3 z1 z2 z3 hi.1.2.2.2.1.2.1 hi.1.2.2.2.1.2.2) (cwV 3 hg (gt_V (List.mem_append_right _ (List.mem_append_right _ (List.mem_append_right _ (List.mem_append_right _ (List.mem_append_right _ (List.mem_append_right _ (List.mem_append_right _ (List.mem_append_right _ (List.mem_append_right _ (List.mem_append_right _ (List.mem_append_right _ (List.mem_append_right _ (List.mem_append_right _ (List.mem_append_right _ (List.mem_append_right _ (List.mem_append_left _ (List.mem_of_getElem? (i := 6) rfl))))))))))))))))) (List.mem_append_right _ (List.mem_append_right _ (List.mem_append_right _ (List.mem_append_right _ (List.mem_append_right _ (List.mem_append_right _ (List.mem_append_right _ (List.mem_append_right _ (List.mem_append_right _ (List.mem_append_right _ (List.mem_append_right _ (List.mem_append_right _ (List.mem_append_right _ (List.mem_append_right _ (List.mem_append_right _ (List.mem_append_left _ (List.mem_of_getElem? (i := 7) rfl))))))))))))))))) (List.mem_append_right _ (List.mem_append_right _ (List.mem_append_right _ (List.mem_append_right _ (List.mem_append_right _ (List.mem_append_right _ (List.mem_append_right _ (List.mem_append_right _ (List.mem_append_right _ (List.mem_append_right _ (List.mem_append_right _ (List.mem_append_right _ (List.mem_append_right _ (List.mem_append_right _ (List.mem_append_right _ (List.mem_append_left _ (List.mem_of_getElem? (i := 8) rfl))))))))))))))))) (List.mem_append_right _ (List.mem_append_left _ (List.mem_of_getElem? (i := 9) rfl))) (List.mem_append_right _ (List.mem_append_right _ (List.mem_append_right _ (List.mem_append_right _ (List.mem_append_right _ (List.mem_append_right _ (List.mem_append_right _ (List.mem_append_right _ (List.mem_append_right _ (List.mem_append_right _ (List.mem_append_right _ (List.mem_append_right _ (List.mem_append_right _ (List.mem_append_right _ (List.mem_append_right _ (List.mem_append_left _ (List.mem_of_getElem? (i := 9) rfl)))))))))))))))))) rfl rfl rfl (by decide +kernel) ⟨Nat.le_of_ble_eq_true rfl, Nat.le_of_ble_eq_true rfl⟩) rw_blind (fun U hU hW => ⟨by rw [hU], by rw [hU]; exact hPm1, va_K.moved hW.alike hKm, hDm.weaken (fun _ _ _ _ => trivial)⟩) hDm hS1 hA (va_recv hKm hPm1 (ci := 7) (q0 := 0) rfl (wl_atE (by decide) rfl)) rfl hl.1 rfl (Nat.le_of_ble_eq_true rfl) d_law_278 ⟨by show 175 + k + 1 + 0 ≤ 601024; omega, by show 25604 + 6 * k + 6 + 0 ≤ 7293034; omega⟩ (fun H2 locs2 hPm2 hDm2 hDmq hS2 hk2 => ?_)
  have hP2 := z_keep hP1 jc hk2
  have hPo2 := z_keep hPo1 jo hk2
  rw [← hN2] at hPm2 hDm2
  refine lv_aload_n hx hb d_law_281 rfl (lv_at hl 3 rfl) ?_
  refine ro_V (As := []) (rest := []) (z := N2 0 0) ⟨hx, hb, hml, hown, hg⟩ (r_thrown l) (cwV 0 hg (gt_V (List.mem_append_right _ (List.mem_append_right _ (List.mem_append_right _ (List.mem_append_right _ (List.mem_append_right _ (List.mem_append_right _ (List.mem_append_right _ (List.mem_append_right _ (List.mem_append_right _ (List.mem_append_right _ (List.mem_append_right _ (List.mem_append_right _ (List.mem_append_right _ (List.mem_append_right _ (List.mem_append_left _ (List.mem_of_getElem? (i := 27) rfl)))))))))))))))) (List.mem_append_right _ (List.mem_append_right _ (List.mem_append_right _ (List.mem_append_right _ (List.mem_append_right _ (List.mem_append_right _ (List.mem_append_right _ (List.mem_append_right _ (List.mem_append_right _ (List.mem_append_right _ (List.mem_append_right _ (List.mem_append_right _ (List.mem_append_right _ (List.mem_append_right _ (List.mem_append_left _ (List.mem_of_getElem? (i := 28) rfl)))))))))))))))) (List.mem_append_right _ (List.mem_append_right _ (List.mem_append_right _ (List.mem_append_right _ (List.mem_append_right _ (List.mem_append_right _ (List.mem_append_right _ (List.mem_append_right _ (List.mem_append_right _ (List.mem_append_right _ (List.mem_append_right _ (List.mem_append_right _ (List.mem_append_right _ (List.mem_append_right _ (List.mem_append_left _ (List.mem_of_getElem? (i := 29) rfl)))))))))))))))) (List.mem_append_right _ (List.mem_append_left _ (List.mem_of_getElem? (i := 9) rfl))) (List.mem_append_right _ (List.mem_append_right _ (List.mem_append_right _ (List.mem_append_right _ (List.mem_append_right _ (List.mem_append_right _ (List.mem_append_right _ (List.mem_append_right _ (List.mem_append_right _ (List.mem_append_right _ (List.mem_append_right _ (List.mem_append_right _ (List.mem_append_right _ (List.mem_append_right _ (List.mem_append_left _ (List.mem_of_getElem? (i := 30) rfl))))))))))))))))) rfl rfl rfl (by decide +kernel) ⟨Nat.le_of_ble_eq_true rfl, Nat.le_of_ble_eq_true rfl⟩) hKm hPm2 (va_recv hKm hPm2 (ci := 7) (q0 := 0) rfl (wl_atE (by decide) rfl)) rfl hl.1 rfl (Nat.le_of_ble_eq_true rfl) d_law_282 ⟨by show 175 + k + 1 + 0 ≤ 601024; omega, by show 25604 + 6 * k + 6 + 0 ≤ 7293034; omega⟩ ?_
  rw [hth]
  refine lv_iload hx hb d_law_285 (lv_at hl 0 rfl) ?_
  refine z_icmp_eq hx hb (tgt := 292) d_law_287 (by decide) hcz hcz (fun c_287 => ?_) (fun c_287 => absurd rfl c_287)
  have hst : lw_St D cs cJ ao ad ad2 s M2 N2 (np) (ns) rp f2 H2 locs2 := ⟨hi2, ⟨hP2, hPm2, hPo2⟩, ⟨hD1, hDm2, hDo1⟩, ⟨(mo_dj jc).symm, pg_dj (wo_dj j2), mo_dj jo⟩, hS2⟩
  have hl9 : lv_has ls 7 [(4, .int (iI ((4 * k : Nat) : Int))), (3, .ref ao), (2, .ref (ad2 0)), (1, .ref (ad 0)), (0, .ref b)] := lv_sub hl [1, 2, 3, 4, 5] rfl
  have hgo : W p l e room_1 s m #[Value.ref b] below meth c H2 locs2 (175 + k + 1) (25604 + 6 * k + 6) Q (F0 m 757 ls []) := kk M2 N2 _ _ rp f2 H2 locs2 ls hst hl9
  exact lv_goto (tgt := 757) hx hb d_law_292 (by decide) hgo
set_option maxHeartbeats 4000000 in
set_option maxRecDepth 100000 in
theorem lc_stop {p : Program} {l : Launch} {e : Env} {s : State} {m : MethodId} {below : List Frame} {meth : Method} {c : Code} {Q : State → Prop} {b L : Nat} {xs : Nat → Int32} {D : va_G} {cs : pg_C} {cJ : ClassId} {ao : Nat} {ad ad2 : Nat → Nat} (hx : p.tables.exec = Jvm.exec) (hb : c.code = code) (hml : c.maxLocals = 7) (hown : s.vm.findClass R_LW = some m.cls) (hts : ∀ w ∈ lw_tbl, w.before #[Value.ref b] s = true) (hfl : l.flags = flags0) (hK : va_K D vwCl (pg_tys cs) s) (hKJ : va_K D vwCl [(cJ, .long)] s) (hT : z_T s) (hX : va_X b L xs s s.heap) (hbl : b < s.heap.size) (hL : L ≤ 2048) (k : Nat) (hk : 4 * k + 3 < L) {M N : Nat → Nat → Int} {np ns : Nat} {rp : Option Nat} {f : Nat → Int64} {H : Heap} {locs : List Loc} {ls : Array Slot} (hs : lw_St D cs cJ ao ad ad2 s M N np ns rp f H locs) (hl : lv_has ls 7 [(4, .int (iI ((4 * k : Nat) : Int))), (3, .ref ao), (2, .ref (ad2 0)), (1, .ref (ad 0)), (0, .ref b)]) (kk : ∀ (M N : Nat → Nat → Int) (np ns : Nat) (rp : Option Nat) (f : Nat → Int64) (H : Heap) (locs : List Loc) (ls : Array Slot), lw_St D cs cJ ao ad ad2 s M N np ns rp f H locs → lv_has ls 7 [(4, .int (iI ((4 * k : Nat) : Int))), (3, .ref ao), (2, .ref (ad2 0)), (1, .ref (ad 0)), (0, .ref b)] → W p l e room_1 s m #[Value.ref b] below meth c H locs (175 + (k + 1)) (25604 + 6 * (k + 1)) Q (F0 m 757 ls [])) : W p l e room_1 s m #[Value.ref b] below meth c H locs (175 + k) (25604 + 6 * k) Q (F0 m 295 ls []) := by
  obtain ⟨hi, ⟨hP, hPm, hPo⟩, ⟨hD, hDm, hDo⟩, ⟨j1, j2, j3⟩, hS⟩ := hs
  have hg : ∀ w ∈ gt, w.before #[Value.ref b] s = true := fun w h => hts w (gt_in w h)
  have hKm : va_K D vwCl (mo_tys cs.1) s := hK.sub [0] rfl
  have hA : ∀ q : Nat, s.heap.size ≤ q → aH s q := fun q h => h
  obtain ⟨e1, he1⟩ : ∃ z : Int, z = (xs (4 * k + 1)).toInt := ⟨_, rfl⟩
  have z1 : zb e1 := by rw [he1]; exact zb_of _
  obtain ⟨e2, he2⟩ : ∃ z : Int, z = (xs (4 * k + 2)).toInt := ⟨_, rfl⟩
  have z2 : zb e2 := by rw [he2]; exact zb_of _
  obtain ⟨e3, he3⟩ : ∃ z : Int, z = (xs (4 * k + 3)).toInt := ⟨_, rfl⟩
  have z3 : zb e3 := by rw [he3]; exact zb_of _
  refine lv_aload_n hx hb d_law_295 rfl (lv_at hl 3 rfl) ?_
  refine lv_aload_n hx hb d_law_296 rfl (lv_at hl 4 rfl) ?_
  refine lv_iload hx hb d_law_297 (lv_at hl 0 rfl) ?_
  refine z_iconst hx hb (z := 1) d_law_299 ?_
  refine z_iadd hx hb d_law_300 (v := ((4 * k + 1 : Nat) : Int)) (by omega) ?_
  refine lw_sld (j := 4 * k + 1) hx hb hX hbl hS (by omega) hL d_law_301 ?_
  rw [← he1]
  refine lv_aload_n hx hb d_law_302 rfl (lv_at hl 4 rfl) ?_
  refine lv_iload hx hb d_law_303 (lv_at hl 0 rfl) ?_
  refine z_iconst hx hb (z := 2) d_law_305 ?_
  refine z_iadd hx hb d_law_306 (v := ((4 * k + 2 : Nat) : Int)) (by omega) ?_
  refine lw_sld (j := 4 * k + 2) hx hb hX hbl hS (by omega) hL d_law_307 ?_
  rw [← he2]
  refine lv_aload_n hx hb d_law_308 rfl (lv_at hl 4 rfl) ?_
  refine lv_iload hx hb d_law_309 (lv_at hl 0 rfl) ?_
  refine z_iconst hx hb (z := 3) d_law_311 ?_
  refine z_iadd hx hb d_law_312 (v := ((4 * k + 3 : Nat) : Int)) (by omega) ?_
  refine lw_sld (j := 4 * k + 3) hx hb hX hbl hS (by omega) hL d_law_313 ?_
  rw [← he3]
  refine lv_aload_n hx hb d_law_314 rfl (lv_at hl 1 rfl) ?_
  refine lw_SW (n := 5) (As := [.ref (ad 0), .int (iI e1), .int (iI e2), .int (iI e3), .ref ao]) (rest := []) (z := r_stc N np e1 e2 e3) (w' := pg_w ad cs rp (if r_stc N np e1 e2 e3 = 0 then q_stp (q_fg M) e1.toNat (N 3 e1.toNat).toNat e2 e3 else M)) (w2' := wo cJ ao (if r_stc N np e1 e2 e3 = 0 then (fun _ => (iI (N 3 e1.toNat + 1)).toInt64) else f)) ⟨hx, hb, hml, hown, hts⟩ (j_stop l hfl _ hi e1 e2 e3 z1 z2 z3) rfl rfl ⟨Nat.le_of_ble_eq_true rfl, Nat.le_of_ble_eq_true rfl⟩ (lw_hws hts cw_stop cwk_stop) List.mem_cons_self (hg _ (List.mem_append_right _ (List.mem_append_left _ (List.mem_of_getElem? (i := 1) rfl)))) (by decide +kernel) (hg _ (List.mem_append_right _ (List.mem_append_right _ (List.mem_append_right _ (List.mem_append_right _ (List.mem_append_right _ (List.mem_append_right _ (List.mem_append_right _ (List.mem_append_right _ (List.mem_append_right _ (List.mem_append_right _ (List.mem_append_right _ (List.mem_append_left _ (List.mem_of_getElem? (i := 28) rfl)))))))))))))) (hg _ (List.mem_append_right _ (List.mem_append_right _ (List.mem_append_right _ (List.mem_append_right _ (List.mem_append_right _ (List.mem_append_right _ (List.mem_append_right _ (List.mem_append_right _ (List.mem_append_right _ (List.mem_append_right _ (List.mem_append_right _ (List.mem_append_left _ (List.mem_of_getElem? (i := 29) rfl)))))))))))))) hK hKJ hP hPo hD hDo j2 hS hT hA (fun q h => Nat.not_le.mpr h) rfl hl.1 rfl (Nat.le_of_ble_eq_true rfl) d_law_315 ⟨by show 175 + k + 1 ≤ 601024; omega, by show 25604 + 6 * k + 6 ≤ 7293034; omega⟩ (fun H1 locs1 hP1 hPo1 hD1 hDo1 hDq hDoq hS1 hz1 hk1 => ?_)
  have hPm1 := z_keep hPm (dj_app j1 j3.symm) hk1
  have hS := hS1
  have haf := aft_stop hi e1 e2 e3
  obtain ⟨cd, hcd⟩ : ∃ z : Int, z = r_stc N np e1 e2 e3 := ⟨_, rfl⟩
  have hcz : zb cd := by have h9 := haf.2.2; rw [← hcd] at h9; exact ⟨by omega, by omega⟩
  have hth : (if r_stc N np e1 e2 e3 = 0 then r_stM N e1.toNat (N 3 e1.toNat).toNat e2 e3 else mset N 0 0 (r_stc N np e1 e2 e3)) 0 0 = cd := by rw [hcd]; exact haf.2.1
  have hi2 : INV (if r_stc N np e1 e2 e3 = 0 then q_stp (q_fg M) e1.toNat (N 3 e1.toNat).toNat e2 e3 else M) (if r_stc N np e1 e2 e3 = 0 then r_stM N e1.toNat (N 3 e1.toNat).toNat e2 e3 else mset N 0 0 (r_stc N np e1 e2 e3)) (np) (ns) := haf.1
  obtain ⟨M2, hM2⟩ : ∃ q, q = (if r_stc N np e1 e2 e3 = 0 then q_stp (q_fg M) e1.toNat (N 3 e1.toNat).toNat e2 e3 else M) := ⟨_, rfl⟩
  obtain ⟨N2, hN2⟩ : ∃ q, q = (if r_stc N np e1 e2 e3 = 0 then r_stM N e1.toNat (N 3 e1.toNat).toNat e2 e3 else mset N 0 0 (r_stc N np e1 e2 e3)) := ⟨_, rfl⟩
  obtain ⟨f2, hf2⟩ : ∃ q : Nat → Int64, q = (if r_stc N np e1 e2 e3 = 0 then (fun _ => (iI (N 3 e1.toNat + 1)).toInt64) else f) := ⟨_, rfl⟩
  rw [← hM2] at hP1 hD1 hDq
  rw [← hM2, ← hN2] at hi2
  rw [← hN2] at hth
  rw [← hf2] at hPo1 hDo1 hDoq
  rw [← hcd]
  refine lv_istore (lv' := [(5, .int (iI cd)), (4, .int (iI ((4 * k : Nat) : Int))), (3, .ref ao), (2, .ref (ad2 0)), (1, .ref (ad 0)), (0, .ref b)]) hx hb d_law_318 hl (by decide) rfl (fun ls hl => ?_)
  refine lv_aload_n hx hb d_law_320 rfl (lv_at hl 3 rfl) ?_
  refine lv_aload_n hx hb d_law_321 rfl (lv_at hl 5 rfl) ?_
  refine lv_iload hx hb d_law_322 (lv_at hl 1 rfl) ?_
  refine z_iconst hx hb (z := 1) d_law_324 ?_
  refine z_iadd hx hb d_law_325 (v := ((4 * k + 1 : Nat) : Int)) (by omega) ?_
  refine lw_sld (j := 4 * k + 1) hx hb hX hbl hS (by omega) hL d_law_326 ?_
  rw [← he1]
  refine lv_aload_n hx hb d_law_327 rfl (lv_at hl 5 rfl) ?_
  refine lv_iload hx hb d_law_328 (lv_at hl 1 rfl) ?_
  refine z_iconst hx hb (z := 2) d_law_330 ?_
  refine z_iadd hx hb d_law_331 (v := ((4 * k + 2 : Nat) : Int)) (by omega) ?_
  refine lw_sld (j := 4 * k + 2) hx hb hX hbl hS (by omega) hL d_law_332 ?_
  rw [← he2]
  refine lv_aload_n hx hb d_law_333 rfl (lv_at hl 5 rfl) ?_
  refine lv_iload hx hb d_law_334 (lv_at hl 1 rfl) ?_
  refine z_iconst hx hb (z := 3) d_law_336 ?_
  refine z_iadd hx hb d_law_337 (v := ((4 * k + 3 : Nat) : Int)) (by omega) ?_
  refine lw_sld (j := 4 * k + 3) hx hb hX hbl hS (by omega) hL d_law_338 ?_
  rw [← he3]
  have jc : dj (mo_w ad2 cs.1 N) (pg_w ad cs rp M2) := (pg_dj j1).symm
  have jo : dj (mo_w ad2 cs.1 N) (wo cJ ao f2) := wo_dj j3
  refine lw_Vi (As := [.int (iI e1), .int (iI e2), .int (iI e3)]) (rest := []) (z := if r_stc N np e1 e2 e3 = 0 then N 3 e1.toNat + 1 else 0) (w' := mo_w ad2 cs.1 (if r_stc N np e1 e2 e3 = 0 then r_stM N e1.toNat (N 3 e1.toNat).toNat e2 e3 else mset N 0 0 (r_stc N np e1 e2 e3))) ⟨hx, hb, hml, hown, hg⟩ (r_stop l _ np e1 e2 e3 z1 z2 z3 hi.1.2.2.2.1.2.1 hi.1.2.2.2.1.2.2 (fun q hq => (hi.2.2.1.1.2.2.2.1 q hq).2.1)) (cwV 3 hg (gt_V (List.mem_append_right _ (List.mem_append_right _ (List.mem_append_right _ (List.mem_append_right _ (List.mem_append_right _ (List.mem_append_right _ (List.mem_append_right _ (List.mem_append_right _ (List.mem_append_right _ (List.mem_append_right _ (List.mem_append_right _ (List.mem_append_right _ (List.mem_append_right _ (List.mem_append_right _ (List.mem_append_right _ (List.mem_append_left _ (List.mem_of_getElem? (i := 19) rfl))))))))))))))))) (List.mem_append_right _ (List.mem_append_right _ (List.mem_append_right _ (List.mem_append_right _ (List.mem_append_right _ (List.mem_append_right _ (List.mem_append_right _ (List.mem_append_right _ (List.mem_append_right _ (List.mem_append_right _ (List.mem_append_right _ (List.mem_append_right _ (List.mem_append_right _ (List.mem_append_right _ (List.mem_append_right _ (List.mem_append_left _ (List.mem_of_getElem? (i := 20) rfl))))))))))))))))) (List.mem_append_right _ (List.mem_append_right _ (List.mem_append_right _ (List.mem_append_right _ (List.mem_append_right _ (List.mem_append_right _ (List.mem_append_right _ (List.mem_append_right _ (List.mem_append_right _ (List.mem_append_right _ (List.mem_append_right _ (List.mem_append_right _ (List.mem_append_right _ (List.mem_append_right _ (List.mem_append_right _ (List.mem_append_left _ (List.mem_of_getElem? (i := 21) rfl))))))))))))))))) (List.mem_append_right _ (List.mem_append_left _ (List.mem_of_getElem? (i := 9) rfl))) (List.mem_append_right _ (List.mem_append_right _ (List.mem_append_right _ (List.mem_append_right _ (List.mem_append_right _ (List.mem_append_right _ (List.mem_append_right _ (List.mem_append_right _ (List.mem_append_right _ (List.mem_append_right _ (List.mem_append_right _ (List.mem_append_right _ (List.mem_append_right _ (List.mem_append_right _ (List.mem_append_right _ (List.mem_append_left _ (List.mem_of_getElem? (i := 22) rfl)))))))))))))))))) rfl rfl rfl (by decide +kernel) ⟨Nat.le_of_ble_eq_true rfl, Nat.le_of_ble_eq_true rfl⟩) rw_blind (fun U hU hW => ⟨by rw [hU], by rw [hU]; exact hPm1, va_K.moved hW.alike hKm, hDm.weaken (fun _ _ _ _ => trivial)⟩) hDm hS1 hA (va_recv hKm hPm1 (ci := 7) (q0 := 0) rfl (wl_atE (by decide) rfl)) rfl hl.1 rfl (Nat.le_of_ble_eq_true rfl) d_law_339 ⟨by show 175 + k + 1 + 0 ≤ 601024; omega, by show 25604 + 6 * k + 6 + 0 ≤ 7293034; omega⟩ (fun H2 locs2 hPm2 hDm2 hDmq hS2 hk2 => ?_)
  have hP2 := z_keep hP1 jc hk2
  have hPo2 := z_keep hPo1 jo hk2
  rw [← hN2] at hPm2 hDm2
  obtain ⟨bz2, hbz⟩ : ∃ z : Int, z = (if r_stc N np e1 e2 e3 = 0 then N 3 e1.toNat + 1 else 0) := ⟨_, rfl⟩
  rw [← hbz]
  refine lv_istore (lv' := [(6, .int (iI bz2)), (5, .int (iI cd)), (4, .int (iI ((4 * k : Nat) : Int))), (3, .ref ao), (2, .ref (ad2 0)), (1, .ref (ad 0)), (0, .ref b)]) hx hb d_law_342 hl (by decide) rfl (fun ls hl => ?_)
  refine lv_aload_n hx hb d_law_344 rfl (lv_at hl 4 rfl) ?_
  refine ro_V (As := []) (rest := []) (z := N2 0 0) ⟨hx, hb, hml, hown, hg⟩ (r_thrown l) (cwV 0 hg (gt_V (List.mem_append_right _ (List.mem_append_right _ (List.mem_append_right _ (List.mem_append_right _ (List.mem_append_right _ (List.mem_append_right _ (List.mem_append_right _ (List.mem_append_right _ (List.mem_append_right _ (List.mem_append_right _ (List.mem_append_right _ (List.mem_append_right _ (List.mem_append_right _ (List.mem_append_right _ (List.mem_append_left _ (List.mem_of_getElem? (i := 27) rfl)))))))))))))))) (List.mem_append_right _ (List.mem_append_right _ (List.mem_append_right _ (List.mem_append_right _ (List.mem_append_right _ (List.mem_append_right _ (List.mem_append_right _ (List.mem_append_right _ (List.mem_append_right _ (List.mem_append_right _ (List.mem_append_right _ (List.mem_append_right _ (List.mem_append_right _ (List.mem_append_right _ (List.mem_append_left _ (List.mem_of_getElem? (i := 28) rfl)))))))))))))))) (List.mem_append_right _ (List.mem_append_right _ (List.mem_append_right _ (List.mem_append_right _ (List.mem_append_right _ (List.mem_append_right _ (List.mem_append_right _ (List.mem_append_right _ (List.mem_append_right _ (List.mem_append_right _ (List.mem_append_right _ (List.mem_append_right _ (List.mem_append_right _ (List.mem_append_right _ (List.mem_append_left _ (List.mem_of_getElem? (i := 29) rfl)))))))))))))))) (List.mem_append_right _ (List.mem_append_left _ (List.mem_of_getElem? (i := 9) rfl))) (List.mem_append_right _ (List.mem_append_right _ (List.mem_append_right _ (List.mem_append_right _ (List.mem_append_right _ (List.mem_append_right _ (List.mem_append_right _ (List.mem_append_right _ (List.mem_append_right _ (List.mem_append_right _ (List.mem_append_right _ (List.mem_append_right _ (List.mem_append_right _ (List.mem_append_right _ (List.mem_append_left _ (List.mem_of_getElem? (i := 30) rfl))))))))))))))))) rfl rfl rfl (by decide +kernel) ⟨Nat.le_of_ble_eq_true rfl, Nat.le_of_ble_eq_true rfl⟩) hKm hPm2 (va_recv hKm hPm2 (ci := 7) (q0 := 0) rfl (wl_atE (by decide) rfl)) rfl hl.1 rfl (Nat.le_of_ble_eq_true rfl) d_law_345 ⟨by show 175 + k + 1 + 0 ≤ 601024; omega, by show 25604 + 6 * k + 6 + 0 ≤ 7293034; omega⟩ ?_
  rw [hth]
  refine lv_iload hx hb d_law_348 (lv_at hl 1 rfl) ?_
  refine z_icmp_eq hx hb (tgt := 355) d_law_350 (by decide) hcz hcz (fun c_350 => ?_) (fun c_350 => absurd rfl c_350)
  have hst : lw_St D cs cJ ao ad ad2 s M2 N2 (np) (ns) rp f2 H2 locs2 := ⟨hi2, ⟨hP2, hPm2, hPo2⟩, ⟨hD1, hDm2, hDo1⟩, ⟨(mo_dj jc).symm, pg_dj (wo_dj j2), mo_dj jo⟩, hS2⟩
  have hl9 : lv_has ls 7 [(4, .int (iI ((4 * k : Nat) : Int))), (3, .ref ao), (2, .ref (ad2 0)), (1, .ref (ad 0)), (0, .ref b)] := lv_sub hl [2, 3, 4, 5, 6] rfl
  have hgo : W p l e room_1 s m #[Value.ref b] below meth c H2 locs2 (175 + k + 1) (25604 + 6 * k + 6) Q (F0 m 757 ls []) := kk M2 N2 _ _ rp f2 H2 locs2 ls hst hl9
  refine lv_iload hx hb d_law_355 (lv_at hl 1 rfl) ?_
  refine z_if_ne hx hb (tgt := 372) d_law_357 (by decide) hcz (fun c_357 => lv_goto (tgt := 757) hx hb d_law_372 (by decide) hgo) (fun c_357 => ?_)
  refine lv_aload_n hx hb d_law_360 rfl (lv_at hl 3 rfl) ?_
  refine z_iconst hx hb (z := 0) d_law_361 ?_
  refine va_lald hx hb hKJ hPo2 0 0 rfl rfl (iI_in (n := 1) (j := 0) (by decide) (by decide)) d_law_362 ?_
  refine lv_iload hx hb d_law_363 (lv_at hl 0 rfl) ?_
  refine lv_i2l hx hb d_law_365 rfl ?_
  have hz0 : r_stc N np e1 e2 e3 = 0 := by rw [← hcd]; exact c_357
  have hb9 : bz2 = N 3 e1.toNat + 1 := by rw [hbz, if_pos hz0]
  refine lw_same hx hb (tgt := 372) (by rw [hf2, if_pos hz0, hb9]) d_law_366 d_law_367 (by decide) ?_
  exact lv_goto (tgt := 757) hx hb d_law_372 (by decide) hgo
set_option maxHeartbeats 4000000 in
set_option maxRecDepth 100000 in
theorem lc_sheet {p : Program} {l : Launch} {e : Env} {s : State} {m : MethodId} {below : List Frame} {meth : Method} {c : Code} {Q : State → Prop} {b L : Nat} {xs : Nat → Int32} {D : va_G} {cs : pg_C} {cJ : ClassId} {ao : Nat} {ad ad2 : Nat → Nat} (hx : p.tables.exec = Jvm.exec) (hb : c.code = code) (hml : c.maxLocals = 7) (hown : s.vm.findClass R_LW = some m.cls) (hts : ∀ w ∈ lw_tbl, w.before #[Value.ref b] s = true) (hfl : l.flags = flags0) (hK : va_K D vwCl (pg_tys cs) s) (hKJ : va_K D vwCl [(cJ, .long)] s) (hT : z_T s) (hX : va_X b L xs s s.heap) (hbl : b < s.heap.size) (hL : L ≤ 2048) (k : Nat) (hk : 4 * k + 3 < L) {M N : Nat → Nat → Int} {np ns : Nat} {rp : Option Nat} {f : Nat → Int64} {H : Heap} {locs : List Loc} {ls : Array Slot} (hs : lw_St D cs cJ ao ad ad2 s M N np ns rp f H locs) (hl : lv_has ls 7 [(4, .int (iI ((4 * k : Nat) : Int))), (3, .ref ao), (2, .ref (ad2 0)), (1, .ref (ad 0)), (0, .ref b)]) (kk : ∀ (M N : Nat → Nat → Int) (np ns : Nat) (rp : Option Nat) (f : Nat → Int64) (H : Heap) (locs : List Loc) (ls : Array Slot), lw_St D cs cJ ao ad ad2 s M N np ns rp f H locs → lv_has ls 7 [(4, .int (iI ((4 * k : Nat) : Int))), (3, .ref ao), (2, .ref (ad2 0)), (1, .ref (ad 0)), (0, .ref b)] → W p l e room_1 s m #[Value.ref b] below meth c H locs (175 + (k + 1)) (25604 + 6 * (k + 1)) Q (F0 m 757 ls [])) : W p l e room_1 s m #[Value.ref b] below meth c H locs (175 + k) (25604 + 6 * k) Q (F0 m 375 ls []) := by
  obtain ⟨hi, ⟨hP, hPm, hPo⟩, ⟨hD, hDm, hDo⟩, ⟨j1, j2, j3⟩, hS⟩ := hs
  have hg : ∀ w ∈ gt, w.before #[Value.ref b] s = true := fun w h => hts w (gt_in w h)
  have hKm : va_K D vwCl (mo_tys cs.1) s := hK.sub [0] rfl
  have hA : ∀ q : Nat, s.heap.size ≤ q → aH s q := fun q h => h
  obtain ⟨e1, he1⟩ : ∃ z : Int, z = (xs (4 * k + 1)).toInt := ⟨_, rfl⟩
  have z1 : zb e1 := by rw [he1]; exact zb_of _
  obtain ⟨e2, he2⟩ : ∃ z : Int, z = (xs (4 * k + 2)).toInt := ⟨_, rfl⟩
  have z2 : zb e2 := by rw [he2]; exact zb_of _
  obtain ⟨e3, he3⟩ : ∃ z : Int, z = (xs (4 * k + 3)).toInt := ⟨_, rfl⟩
  have z3 : zb e3 := by rw [he3]; exact zb_of _
  refine lv_aload_n hx hb d_law_375 rfl (lv_at hl 3 rfl) ?_
  refine lv_aload_n hx hb d_law_376 rfl (lv_at hl 4 rfl) ?_
  refine lv_iload hx hb d_law_377 (lv_at hl 0 rfl) ?_
  refine z_iconst hx hb (z := 1) d_law_379 ?_
  refine z_iadd hx hb d_law_380 (v := ((4 * k + 1 : Nat) : Int)) (by omega) ?_
  refine lw_sld (j := 4 * k + 1) hx hb hX hbl hS (by omega) hL d_law_381 ?_
  rw [← he1]
  refine lv_aload_n hx hb d_law_382 rfl (lv_at hl 4 rfl) ?_
  refine lv_iload hx hb d_law_383 (lv_at hl 0 rfl) ?_
  refine z_iconst hx hb (z := 2) d_law_385 ?_
  refine z_iadd hx hb d_law_386 (v := ((4 * k + 2 : Nat) : Int)) (by omega) ?_
  refine lw_sld (j := 4 * k + 2) hx hb hX hbl hS (by omega) hL d_law_387 ?_
  rw [← he2]
  refine lv_aload_n hx hb d_law_388 rfl (lv_at hl 4 rfl) ?_
  refine lv_iload hx hb d_law_389 (lv_at hl 0 rfl) ?_
  refine z_iconst hx hb (z := 3) d_law_391 ?_
  refine z_iadd hx hb d_law_392 (v := ((4 * k + 3 : Nat) : Int)) (by omega) ?_
  refine lw_sld (j := 4 * k + 3) hx hb hX hbl hS (by omega) hL d_law_393 ?_
  rw [← he3]
  refine lw_SW (n := 4) (As := [.ref (ad 0), .int (iI e1), .int (iI e2), .int (iI e3)]) (rest := []) (z := r_shc e1 e2 e3) (w' := pg_w ad cs rp (if r_shc e1 e2 e3 = 0 then mset (mset (mset (q_fg M) 2 0 e1) 2 1 e2) 2 2 e3 else M)) (w2' := wo cJ ao (f)) ⟨hx, hb, hml, hown, hts⟩ (j_sheet l hfl _ hi e1 e2 e3 z1 z2 z3) rfl rfl ⟨Nat.le_of_ble_eq_true rfl, Nat.le_of_ble_eq_true rfl⟩ (lw_hws hts cw_sheet cwk_sheet) List.mem_cons_self (hg _ (List.mem_append_right _ (List.mem_append_left _ (List.mem_of_getElem? (i := 1) rfl)))) (by decide +kernel) (hg _ (List.mem_append_right _ (List.mem_append_right _ (List.mem_append_right _ (List.mem_append_right _ (List.mem_append_right _ (List.mem_append_right _ (List.mem_append_right _ (List.mem_append_right _ (List.mem_append_right _ (List.mem_append_right _ (List.mem_append_right _ (List.mem_append_left _ (List.mem_of_getElem? (i := 39) rfl)))))))))))))) (hg _ (List.mem_append_right _ (List.mem_append_right _ (List.mem_append_right _ (List.mem_append_right _ (List.mem_append_right _ (List.mem_append_right _ (List.mem_append_right _ (List.mem_append_right _ (List.mem_append_right _ (List.mem_append_right _ (List.mem_append_right _ (List.mem_append_right _ (List.mem_append_left _ (List.mem_of_getElem? (i := 0) rfl))))))))))))))) hK hKJ hP hPo hD hDo j2 hS hT hA (fun q h => Nat.not_le.mpr h) rfl hl.1 rfl (Nat.le_of_ble_eq_true rfl) d_law_394 ⟨by show 175 + k + 1 ≤ 601024; omega, by show 25604 + 6 * k + 6 ≤ 7293034; omega⟩ (fun H1 locs1 hP1 hPo1 hD1 hDo1 hDq hDoq hS1 hz1 hk1 => ?_)
  have hPm1 := z_keep hPm (dj_app j1 j3.symm) hk1
  have hS := hS1
  have haf := aft_sheet hi e1 e2 e3
  obtain ⟨cd, hcd⟩ : ∃ z : Int, z = r_shc e1 e2 e3 := ⟨_, rfl⟩
  have hcz : zb cd := by have h9 := haf.2.2; rw [← hcd] at h9; exact ⟨by omega, by omega⟩
  have hth : (if r_shc e1 e2 e3 = 0 then r_shM N e1 e2 e3 else mset N 0 0 (r_shc e1 e2 e3)) 0 0 = cd := by rw [hcd]; exact haf.2.1
  have hi2 : INV (if r_shc e1 e2 e3 = 0 then mset (mset (mset (q_fg M) 2 0 e1) 2 1 e2) 2 2 e3 else M) (if r_shc e1 e2 e3 = 0 then r_shM N e1 e2 e3 else mset N 0 0 (r_shc e1 e2 e3)) (np) (ns) := haf.1
  obtain ⟨M2, hM2⟩ : ∃ q, q = (if r_shc e1 e2 e3 = 0 then mset (mset (mset (q_fg M) 2 0 e1) 2 1 e2) 2 2 e3 else M) := ⟨_, rfl⟩
  obtain ⟨N2, hN2⟩ : ∃ q, q = (if r_shc e1 e2 e3 = 0 then r_shM N e1 e2 e3 else mset N 0 0 (r_shc e1 e2 e3)) := ⟨_, rfl⟩
  obtain ⟨f2, hf2⟩ : ∃ q : Nat → Int64, q = f := ⟨_, rfl⟩
  rw [← hM2] at hP1 hD1 hDq
  rw [← hM2, ← hN2] at hi2
  rw [← hN2] at hth
  rw [← hf2] at hPo1 hDo1 hDoq
  rw [← hcd]
  refine lv_istore (lv' := [(5, .int (iI cd)), (4, .int (iI ((4 * k : Nat) : Int))), (3, .ref ao), (2, .ref (ad2 0)), (1, .ref (ad 0)), (0, .ref b)]) hx hb d_law_397 hl (by decide) rfl (fun ls hl => ?_)
  refine lv_aload_n hx hb d_law_399 rfl (lv_at hl 3 rfl) ?_
  refine lv_aload_n hx hb d_law_400 rfl (lv_at hl 5 rfl) ?_
  refine lv_iload hx hb d_law_401 (lv_at hl 1 rfl) ?_
  refine z_iconst hx hb (z := 1) d_law_403 ?_
  refine z_iadd hx hb d_law_404 (v := ((4 * k + 1 : Nat) : Int)) (by omega) ?_
  refine lw_sld (j := 4 * k + 1) hx hb hX hbl hS (by omega) hL d_law_405 ?_
  rw [← he1]
  refine lv_aload_n hx hb d_law_406 rfl (lv_at hl 5 rfl) ?_
  refine lv_iload hx hb d_law_407 (lv_at hl 1 rfl) ?_
  refine z_iconst hx hb (z := 2) d_law_409 ?_
  refine z_iadd hx hb d_law_410 (v := ((4 * k + 2 : Nat) : Int)) (by omega) ?_
  refine lw_sld (j := 4 * k + 2) hx hb hX hbl hS (by omega) hL d_law_411 ?_
  rw [← he2]
  refine lv_aload_n hx hb d_law_412 rfl (lv_at hl 5 rfl) ?_
  refine lv_iload hx hb d_law_413 (lv_at hl 1 rfl) ?_
  refine z_iconst hx hb (z := 3) d_law_415 ?_
  refine z_iadd hx hb d_law_416 (v := ((4 * k + 3 : Nat) : Int)) (by omega) ?_
  refine lw_sld (j := 4 * k + 3) hx hb hX hbl hS (by omega) hL d_law_417 ?_
  rw [← he3]
  have jc : dj (mo_w ad2 cs.1 N) (pg_w ad cs rp M2) := (pg_dj j1).symm
  have jo : dj (mo_w ad2 cs.1 N) (wo cJ ao f2) := wo_dj j3
  refine lw_Vv (As := [.int (iI e1), .int (iI e2), .int (iI e3)]) (rest := []) (w' := mo_w ad2 cs.1 (if r_shc e1 e2 e3 = 0 then r_shM N e1 e2 e3 else mset N 0 0 (r_shc e1 e2 e3))) ⟨hx, hb, hml, hown, hg⟩ (r_sheet l _ e1 e2 e3 z1 z2 z3) (cwV 3 hg (gt_V (List.mem_append_right _ (List.mem_append_right _ (List.mem_append_right _ (List.mem_append_right _ (List.mem_append_right _ (List.mem_append_right _ (List.mem_append_right _ (List.mem_append_right _ (List.mem_append_right _ (List.mem_append_right _ (List.mem_append_right _ (List.mem_append_right _ (List.mem_append_right _ (List.mem_append_right _ (List.mem_append_right _ (List.mem_append_left _ (List.mem_of_getElem? (i := 26) rfl))))))))))))))))) (List.mem_append_right _ (List.mem_append_right _ (List.mem_append_right _ (List.mem_append_right _ (List.mem_append_right _ (List.mem_append_right _ (List.mem_append_right _ (List.mem_append_right _ (List.mem_append_right _ (List.mem_append_right _ (List.mem_append_right _ (List.mem_append_right _ (List.mem_append_right _ (List.mem_append_right _ (List.mem_append_right _ (List.mem_append_left _ (List.mem_of_getElem? (i := 27) rfl))))))))))))))))) (List.mem_append_right _ (List.mem_append_right _ (List.mem_append_right _ (List.mem_append_right _ (List.mem_append_right _ (List.mem_append_right _ (List.mem_append_right _ (List.mem_append_right _ (List.mem_append_right _ (List.mem_append_right _ (List.mem_append_right _ (List.mem_append_right _ (List.mem_append_right _ (List.mem_append_right _ (List.mem_append_right _ (List.mem_append_left _ (List.mem_of_getElem? (i := 28) rfl))))))))))))))))) (List.mem_append_right _ (List.mem_append_left _ (List.mem_of_getElem? (i := 9) rfl))) (List.mem_append_right _ (List.mem_append_right _ (List.mem_append_right _ (List.mem_append_right _ (List.mem_append_right _ (List.mem_append_right _ (List.mem_append_right _ (List.mem_append_right _ (List.mem_append_right _ (List.mem_append_right _ (List.mem_append_right _ (List.mem_append_right _ (List.mem_append_right _ (List.mem_append_right _ (List.mem_append_right _ (List.mem_append_left _ (List.mem_of_getElem? (i := 29) rfl)))))))))))))))))) rfl rfl rfl (by decide +kernel) ⟨Nat.le_of_ble_eq_true rfl, Nat.le_of_ble_eq_true rfl⟩) rw_blind (fun U hU hW => ⟨by rw [hU], by rw [hU]; exact hPm1, va_K.moved hW.alike hKm, hDm.weaken (fun _ _ _ _ => trivial)⟩) hDm hS1 hA (va_recv hKm hPm1 (ci := 7) (q0 := 0) rfl (wl_atE (by decide) rfl)) rfl hl.1 rfl (Nat.le_of_ble_eq_true rfl) d_law_418 ⟨by show 175 + k + 1 + 0 ≤ 601024; omega, by show 25604 + 6 * k + 6 + 0 ≤ 7293034; omega⟩ (fun H2 locs2 hPm2 hDm2 hDmq hS2 hk2 => ?_)
  have hP2 := z_keep hP1 jc hk2
  have hPo2 := z_keep hPo1 jo hk2
  rw [← hN2] at hPm2 hDm2
  refine lv_aload_n hx hb d_law_421 rfl (lv_at hl 3 rfl) ?_
  refine ro_V (As := []) (rest := []) (z := N2 0 0) ⟨hx, hb, hml, hown, hg⟩ (r_thrown l) (cwV 0 hg (gt_V (List.mem_append_right _ (List.mem_append_right _ (List.mem_append_right _ (List.mem_append_right _ (List.mem_append_right _ (List.mem_append_right _ (List.mem_append_right _ (List.mem_append_right _ (List.mem_append_right _ (List.mem_append_right _ (List.mem_append_right _ (List.mem_append_right _ (List.mem_append_right _ (List.mem_append_right _ (List.mem_append_left _ (List.mem_of_getElem? (i := 27) rfl)))))))))))))))) (List.mem_append_right _ (List.mem_append_right _ (List.mem_append_right _ (List.mem_append_right _ (List.mem_append_right _ (List.mem_append_right _ (List.mem_append_right _ (List.mem_append_right _ (List.mem_append_right _ (List.mem_append_right _ (List.mem_append_right _ (List.mem_append_right _ (List.mem_append_right _ (List.mem_append_right _ (List.mem_append_left _ (List.mem_of_getElem? (i := 28) rfl)))))))))))))))) (List.mem_append_right _ (List.mem_append_right _ (List.mem_append_right _ (List.mem_append_right _ (List.mem_append_right _ (List.mem_append_right _ (List.mem_append_right _ (List.mem_append_right _ (List.mem_append_right _ (List.mem_append_right _ (List.mem_append_right _ (List.mem_append_right _ (List.mem_append_right _ (List.mem_append_right _ (List.mem_append_left _ (List.mem_of_getElem? (i := 29) rfl)))))))))))))))) (List.mem_append_right _ (List.mem_append_left _ (List.mem_of_getElem? (i := 9) rfl))) (List.mem_append_right _ (List.mem_append_right _ (List.mem_append_right _ (List.mem_append_right _ (List.mem_append_right _ (List.mem_append_right _ (List.mem_append_right _ (List.mem_append_right _ (List.mem_append_right _ (List.mem_append_right _ (List.mem_append_right _ (List.mem_append_right _ (List.mem_append_right _ (List.mem_append_right _ (List.mem_append_left _ (List.mem_of_getElem? (i := 30) rfl))))))))))))))))) rfl rfl rfl (by decide +kernel) ⟨Nat.le_of_ble_eq_true rfl, Nat.le_of_ble_eq_true rfl⟩) hKm hPm2 (va_recv hKm hPm2 (ci := 7) (q0 := 0) rfl (wl_atE (by decide) rfl)) rfl hl.1 rfl (Nat.le_of_ble_eq_true rfl) d_law_422 ⟨by show 175 + k + 1 + 0 ≤ 601024; omega, by show 25604 + 6 * k + 6 + 0 ≤ 7293034; omega⟩ ?_
  rw [hth]
  refine lv_iload hx hb d_law_425 (lv_at hl 0 rfl) ?_
  refine z_icmp_eq hx hb (tgt := 432) d_law_427 (by decide) hcz hcz (fun c_427 => ?_) (fun c_427 => absurd rfl c_427)
  have hst : lw_St D cs cJ ao ad ad2 s M2 N2 (np) (ns) rp f2 H2 locs2 := ⟨hi2, ⟨hP2, hPm2, hPo2⟩, ⟨hD1, hDm2, hDo1⟩, ⟨(mo_dj jc).symm, pg_dj (wo_dj j2), mo_dj jo⟩, hS2⟩
  have hl9 : lv_has ls 7 [(4, .int (iI ((4 * k : Nat) : Int))), (3, .ref ao), (2, .ref (ad2 0)), (1, .ref (ad 0)), (0, .ref b)] := lv_sub hl [1, 2, 3, 4, 5] rfl
  have hgo : W p l e room_1 s m #[Value.ref b] below meth c H2 locs2 (175 + k + 1) (25604 + 6 * k + 6) Q (F0 m 757 ls []) := kk M2 N2 _ _ rp f2 H2 locs2 ls hst hl9
  exact lv_goto (tgt := 757) hx hb d_law_432 (by decide) hgo
