set_option maxHeartbeats 4000000 in
set_option maxRecDepth 100000 in
theorem r_ll292 {p : Program} {l : Launch} {e : Env} {s : State} {m : MethodId} {args : Array Value} {below : List Frame} {meth : Method} {c : Code} {Q : State → Prop} {A : Nat → Prop} {H0 : Heap} {D : va_G} {ad : Nat → Nat} {cs : ClassId} {M : Nat → Nat → Int} (hx : p.tables.exec = Jvm.exec) (hb : c.code = b_MO_layLine) (hml : c.maxLocals = 18) (hg : ∀ w ∈ gt, w.before args s = true) (hown : s.vm.findClass R_MO = some m.cls) (hK : va_K D vwCl (mo_tys cs) s) (hA : ∀ q, H0.size ≤ q → A q) (a b so nl g : Nat) (mv sp rest : Int) (ha6 : a ≤ 600) (hb6 : b ≤ 600) (hso : so ≤ 600) (hn6 : nl < 640) (hg6 : g ≤ 600) (hsp : sp = 0 ∨ (sp = 1 ∧ 1 ≤ g)) (hre : 0 ≤ rest ∧ rest ≤ 30000) (hz : ∀ j, zb (M 6 j)) (hmv : M 19 nl = mv) (MF : Nat → Nat → Int) (hMF : r_l3 (M 6) (M 9) (M 10) so g sp rest ((nl : Nat) : Int) (b - a) a mv 0 ((q_gc (M 6) (so - a) a 0 : Nat) : Int) (mset M 20 nl (if sp = 0 then 0 else rest)) = MF) (kk : ∀ (H : Heap) (locs : List Loc) (ls : Array Slot), va_P D vwCl (mo_w ad cs MF) H → va_D A (mo_w ad cs MF) → va_S A H0 H locs → lv_has ls 18 [(0, .ref (ad 0))] → W p l e ({ frames := 4, cells := 0, slots := 0, locals := 101 } : Room) s m args below meth c H locs 0 0 Q (F0 m 507 ls [])) : ∀ (H : Heap) (locs : List Loc) (ls : Array Slot), va_P D vwCl (mo_w ad cs M) H → va_D A (mo_w ad cs M) → va_S A H0 H locs → lv_has ls 18 [(10, .int (iI (((g : Nat) : Int)))), (9, .int (iI (((so : Nat) : Int)))), (7, .int (iI (rest))), (5, .int (iI (((nl : Nat) : Int)))), (0, .ref (ad (0))), (2, .int (iI (((a : Nat) : Int)))), (3, .int (iI (((b : Nat) : Int))))] → W p l e ({ frames := 4, cells := 0, slots := 0, locals := 101 } : Room) s m args below meth c H locs 0 0 Q (F0 m 292 ls [.int (iI (sp))]) := by
  intro H locs ls hP hD hS hl
  obtain ⟨bl, ebl⟩ : ∃ q_, q_ = q_gc (M 6) (so - a) a 0 := ⟨_, rfl⟩
  have hbl := q_gc_le (M 6) (so - a) a 0
  rw [← ebl] at hbl hMF
  refine lv_istore (lv' := [(11, .int (iI (sp))), (10, .int (iI (((g : Nat) : Int)))), (9, .int (iI (((so : Nat) : Int)))), (7, .int (iI (rest))), (5, .int (iI (((nl : Nat) : Int)))), (0, .ref (ad (0))), (2, .int (iI (((a : Nat) : Int)))), (3, .int (iI (((b : Nat) : Int))))]) hx hb d_MO_layLine_292 hl (by decide) rfl (fun ls hl => ?_)
  refine lv_aload_n hx hb d_MO_layLine_294 rfl (lv_at hl 5 rfl) ?_
  refine z_get (ci := 7) (C := R_MO) (T := T_MO) (N := 32) (v := .ref (ad (20))) hx hb hg in_MO hown hK hP (0) (by decide) rfl rfl 26 (by decide) (hg _ (List.mem_append_right _ (List.mem_append_right _ (List.mem_append_right _ (List.mem_append_right _ (List.mem_append_right _ (List.mem_append_right _ (List.mem_append_right _ (List.mem_append_right _ (List.mem_append_right _ (List.mem_append_right _ (List.mem_append_right _ (List.mem_append_right _ (List.mem_append_right _ (List.mem_append_left _ (List.mem_of_getElem? (i := 29) rfl)))))))))))))))) (fun _ h9 => h9) rfl d_MO_layLine_295 ?_
  refine lv_iload hx hb d_MO_layLine_298 (lv_at hl 4 rfl) ?_
  refine lv_iload hx hb d_MO_layLine_300 (lv_at hl 0 rfl) ?_
  refine z_if_eq hx hb (tgt := 310) d_MO_layLine_302 (by decide) ⟨by omega, by omega⟩ (fun c_302 => ?_) (fun c_302 => ?_)
  · refine z_iconst hx hb (z := 0) d_MO_layLine_310 ?_
    refine z_iast hx hb hK hP hD hS (20) 0 (by decide) (fun _ => rfl) rfl (v := 0) (nl) rfl (by omega) (by decide) d_MO_layLine_311 (fun H locs hP hD hS => ?_)
    obtain ⟨M_1, eM_1⟩ : ∃ q_, q_ = mset M (20) (nl) (0) := ⟨_, rfl⟩
    have hP : va_P D vwCl (mo_w ad cs M_1) H := by rw [eM_1]; exact hP
    have hD : va_D A (mo_w ad cs M_1) := by rw [eM_1]; exact hD
    have hM1 : M_1 = mset M 20 nl (if sp = 0 then 0 else rest) := by rw [eM_1, if_pos c_302]
    have k19 : M_1 19 nl = mv := by rw [hM1, mset_ne (by omega)]; exact hmv
    have k6 : M_1 6 = M 6 := by rw [hM1]; exact mset_ne (by omega)
    have k9 : M_1 9 = M 9 := by rw [hM1]; exact mset_ne (by omega)
    have k10 : M_1 10 = M 10 := by rw [hM1]; exact mset_ne (by omega)
    refine lv_aload_n hx hb d_MO_layLine_312 rfl (lv_at hl 5 rfl) ?_
    refine z_get (ci := 7) (C := R_MO) (T := T_MO) (N := 32) (v := .ref (ad (19))) hx hb hg in_MO hown hK hP (0) (by decide) rfl rfl 25 (by decide) (hg _ (List.mem_append_right _ (List.mem_append_right _ (List.mem_append_right _ (List.mem_append_right _ (List.mem_append_right _ (List.mem_append_right _ (List.mem_append_right _ (List.mem_append_right _ (List.mem_append_right _ (List.mem_append_right _ (List.mem_append_right _ (List.mem_append_right _ (List.mem_append_right _ (List.mem_append_left _ (List.mem_of_getElem? (i := 28) rfl)))))))))))))))) (fun _ h9 => h9) rfl d_MO_layLine_313 ?_
    refine lv_iload hx hb d_MO_layLine_316 (lv_at hl 4 rfl) ?_
    refine z_iald hx hb hK hP (19) 0 (by decide) (fun _ => rfl) rfl (nl) rfl (by omega) (by decide) d_MO_layLine_318 ?_
    refine lv_topi (fun y_ ey => ?_)
    have ey := ey.trans (congrArg iI k19)
    subst ey
    refine lv_istore (lv' := [(12, .int (iI (mv))), (11, .int (iI (sp))), (10, .int (iI (((g : Nat) : Int)))), (9, .int (iI (((so : Nat) : Int)))), (7, .int (iI (rest))), (5, .int (iI (((nl : Nat) : Int)))), (0, .ref (ad (0))), (2, .int (iI (((a : Nat) : Int)))), (3, .int (iI (((b : Nat) : Int))))]) hx hb d_MO_layLine_319 hl (by decide) rfl (fun ls hl => ?_)
    refine z_iconst hx hb (z := 0) d_MO_layLine_321 ?_
    refine lv_istore (lv' := [(13, .int (iI (0))), (12, .int (iI (mv))), (11, .int (iI (sp))), (10, .int (iI (((g : Nat) : Int)))), (9, .int (iI (((so : Nat) : Int)))), (7, .int (iI (rest))), (5, .int (iI (((nl : Nat) : Int)))), (0, .ref (ad (0))), (2, .int (iI (((a : Nat) : Int)))), (3, .int (iI (((b : Nat) : Int))))]) hx hb d_MO_layLine_322 hl (by decide) rfl (fun ls hl => ?_)
    refine lv_iload hx hb d_MO_layLine_324 (lv_at hl 3 rfl) ?_
    refine lv_istore (lv' := [(14, .int (iI (((g : Nat) : Int)))), (13, .int (iI (0))), (12, .int (iI (mv))), (11, .int (iI (sp))), (10, .int (iI (((g : Nat) : Int)))), (9, .int (iI (((so : Nat) : Int)))), (7, .int (iI (rest))), (5, .int (iI (((nl : Nat) : Int)))), (0, .ref (ad (0))), (2, .int (iI (((a : Nat) : Int)))), (3, .int (iI (((b : Nat) : Int))))]) hx hb d_MO_layLine_326 hl (by decide) rfl (fun ls hl => ?_)
    refine z_iconst hx hb (z := 0) d_MO_layLine_328 ?_
    refine lv_istore (lv' := [(15, .int (iI (0))), (14, .int (iI (((g : Nat) : Int)))), (13, .int (iI (0))), (12, .int (iI (mv))), (11, .int (iI (sp))), (10, .int (iI (((g : Nat) : Int)))), (9, .int (iI (((so : Nat) : Int)))), (7, .int (iI (rest))), (5, .int (iI (((nl : Nat) : Int)))), (0, .ref (ad (0))), (2, .int (iI (((a : Nat) : Int)))), (3, .int (iI (((b : Nat) : Int))))]) hx hb d_MO_layLine_329 hl (by decide) rfl (fun ls hl => ?_)
    refine lv_iload_n hx hb d_MO_layLine_331 rfl (lv_at hl 10 rfl) ?_
    refine lv_istore (lv' := [(16, .int (iI (((a : Nat) : Int)))), (15, .int (iI (0))), (14, .int (iI (((g : Nat) : Int)))), (13, .int (iI (0))), (12, .int (iI (mv))), (11, .int (iI (sp))), (10, .int (iI (((g : Nat) : Int)))), (9, .int (iI (((so : Nat) : Int)))), (7, .int (iI (rest))), (5, .int (iI (((nl : Nat) : Int)))), (0, .ref (ad (0))), (2, .int (iI (((a : Nat) : Int)))), (3, .int (iI (((b : Nat) : Int))))]) hx hb d_MO_layLine_332 hl (by decide) rfl (fun ls hl => ?_)
    refine lr_layLine2 hx hb hml hg hown hK hP a b so nl g bl mv sp rest hso (by rw [k6]; exact hz) (fun ls hl => ?_) (so - a) a 0 ls (by omega) ha6 (by rw [k6]; exact ebl.symm) (lv_sub hl [0, 1, 2, 3, 4, 5, 6, 7, 8, 9, 10, 11, 12] rfl)
    refine lv_iload_n hx hb d_MO_layLine_368 rfl (lv_at hl 10 rfl) ?_
    refine lv_istore (lv' := [(16, .int (iI (((a : Nat) : Int)))), (15, .int (iI (((bl : Nat) : Int)))), (14, .int (iI (((g : Nat) : Int)))), (13, .int (iI (0))), (12, .int (iI (mv))), (11, .int (iI (sp))), (10, .int (iI (((g : Nat) : Int)))), (9, .int (iI (((so : Nat) : Int)))), (7, .int (iI (rest))), (5, .int (iI (((nl : Nat) : Int)))), (0, .ref (ad (0))), (2, .int (iI (((a : Nat) : Int)))), (3, .int (iI (((b : Nat) : Int))))]) hx hb d_MO_layLine_369 hl (by decide) rfl (fun ls hl => ?_)
    refine lr_layLine3 hx hb hml hg hown hK hA a b so nl g sp rest hb6 hso hg6 hsp hre (by rw [k6]; exact hz) MF (fun H locs ls hP hD hS hl => ?_) (b - a) a mv 0 ((bl : Nat) : Int) M_1 (by omega) ha6 (by omega) (by omega) eqb_rf (by rw [k6, k9, k10, hM1]; exact hMF) H locs ls hP hD hS (lv_sub hl [0, 1, 2, 3, 4, 5, 6, 7, 8, 9, 10, 11, 12] rfl)
    exact kk H locs ls hP hD hS hl
  · refine lv_iload hx hb d_MO_layLine_305 (lv_at hl 3 rfl) ?_
    refine lv_goto (tgt := 311) hx hb d_MO_layLine_307 (by decide) ?_
    refine z_iast hx hb hK hP hD hS (20) 0 (by decide) (fun _ => rfl) rfl (v := rest) (nl) rfl (by omega) (by decide) d_MO_layLine_311 (fun H locs hP hD hS => ?_)
    obtain ⟨M_2, eM_2⟩ : ∃ q_, q_ = mset M (20) (nl) (rest) := ⟨_, rfl⟩
    have hP : va_P D vwCl (mo_w ad cs M_2) H := by rw [eM_2]; exact hP
    have hD : va_D A (mo_w ad cs M_2) := by rw [eM_2]; exact hD
    have hM1 : M_2 = mset M 20 nl (if sp = 0 then 0 else rest) := by rw [eM_2, if_neg c_302]
    have k19 : M_2 19 nl = mv := by rw [hM1, mset_ne (by omega)]; exact hmv
    have k6 : M_2 6 = M 6 := by rw [hM1]; exact mset_ne (by omega)
    have k9 : M_2 9 = M 9 := by rw [hM1]; exact mset_ne (by omega)
    have k10 : M_2 10 = M 10 := by rw [hM1]; exact mset_ne (by omega)
    refine lv_aload_n hx hb d_MO_layLine_312 rfl (lv_at hl 5 rfl) ?_
    refine z_get (ci := 7) (C := R_MO) (T := T_MO) (N := 32) (v := .ref (ad (19))) hx hb hg in_MO hown hK hP (0) (by decide) rfl rfl 25 (by decide) (hg _ (List.mem_append_right _ (List.mem_append_right _ (List.mem_append_right _ (List.mem_append_right _ (List.mem_append_right _ (List.mem_append_right _ (List.mem_append_right _ (List.mem_append_right _ (List.mem_append_right _ (List.mem_append_right _ (List.mem_append_right _ (List.mem_append_right _ (List.mem_append_right _ (List.mem_append_left _ (List.mem_of_getElem? (i := 28) rfl)))))))))))))))) (fun _ h9 => h9) rfl d_MO_layLine_313 ?_
    refine lv_iload hx hb d_MO_layLine_316 (lv_at hl 4 rfl) ?_
    refine z_iald hx hb hK hP (19) 0 (by decide) (fun _ => rfl) rfl (nl) rfl (by omega) (by decide) d_MO_layLine_318 ?_
    refine lv_topi (fun y_ ey => ?_)
    have ey := ey.trans (congrArg iI k19)
    subst ey
    refine lv_istore (lv' := [(12, .int (iI (mv))), (11, .int (iI (sp))), (10, .int (iI (((g : Nat) : Int)))), (9, .int (iI (((so : Nat) : Int)))), (7, .int (iI (rest))), (5, .int (iI (((nl : Nat) : Int)))), (0, .ref (ad (0))), (2, .int (iI (((a : Nat) : Int)))), (3, .int (iI (((b : Nat) : Int))))]) hx hb d_MO_layLine_319 hl (by decide) rfl (fun ls hl => ?_)
    refine z_iconst hx hb (z := 0) d_MO_layLine_321 ?_
    refine lv_istore (lv' := [(13, .int (iI (0))), (12, .int (iI (mv))), (11, .int (iI (sp))), (10, .int (iI (((g : Nat) : Int)))), (9, .int (iI (((so : Nat) : Int)))), (7, .int (iI (rest))), (5, .int (iI (((nl : Nat) : Int)))), (0, .ref (ad (0))), (2, .int (iI (((a : Nat) : Int)))), (3, .int (iI (((b : Nat) : Int))))]) hx hb d_MO_layLine_322 hl (by decide) rfl (fun ls hl => ?_)
    refine lv_iload hx hb d_MO_layLine_324 (lv_at hl 3 rfl) ?_
    refine lv_istore (lv' := [(14, .int (iI (((g : Nat) : Int)))), (13, .int (iI (0))), (12, .int (iI (mv))), (11, .int (iI (sp))), (10, .int (iI (((g : Nat) : Int)))), (9, .int (iI (((so : Nat) : Int)))), (7, .int (iI (rest))), (5, .int (iI (((nl : Nat) : Int)))), (0, .ref (ad (0))), (2, .int (iI (((a : Nat) : Int)))), (3, .int (iI (((b : Nat) : Int))))]) hx hb d_MO_layLine_326 hl (by decide) rfl (fun ls hl => ?_)
    refine z_iconst hx hb (z := 0) d_MO_layLine_328 ?_
    refine lv_istore (lv' := [(15, .int (iI (0))), (14, .int (iI (((g : Nat) : Int)))), (13, .int (iI (0))), (12, .int (iI (mv))), (11, .int (iI (sp))), (10, .int (iI (((g : Nat) : Int)))), (9, .int (iI (((so : Nat) : Int)))), (7, .int (iI (rest))), (5, .int (iI (((nl : Nat) : Int)))), (0, .ref (ad (0))), (2, .int (iI (((a : Nat) : Int)))), (3, .int (iI (((b : Nat) : Int))))]) hx hb d_MO_layLine_329 hl (by decide) rfl (fun ls hl => ?_)
    refine lv_iload_n hx hb d_MO_layLine_331 rfl (lv_at hl 10 rfl) ?_
    refine lv_istore (lv' := [(16, .int (iI (((a : Nat) : Int)))), (15, .int (iI (0))), (14, .int (iI (((g : Nat) : Int)))), (13, .int (iI (0))), (12, .int (iI (mv))), (11, .int (iI (sp))), (10, .int (iI (((g : Nat) : Int)))), (9, .int (iI (((so : Nat) : Int)))), (7, .int (iI (rest))), (5, .int (iI (((nl : Nat) : Int)))), (0, .ref (ad (0))), (2, .int (iI (((a : Nat) : Int)))), (3, .int (iI (((b : Nat) : Int))))]) hx hb d_MO_layLine_332 hl (by decide) rfl (fun ls hl => ?_)
    refine lr_layLine2 hx hb hml hg hown hK hP a b so nl g bl mv sp rest hso (by rw [k6]; exact hz) (fun ls hl => ?_) (so - a) a 0 ls (by omega) ha6 (by rw [k6]; exact ebl.symm) (lv_sub hl [0, 1, 2, 3, 4, 5, 6, 7, 8, 9, 10, 11, 12] rfl)
    refine lv_iload_n hx hb d_MO_layLine_368 rfl (lv_at hl 10 rfl) ?_
    refine lv_istore (lv' := [(16, .int (iI (((a : Nat) : Int)))), (15, .int (iI (((bl : Nat) : Int)))), (14, .int (iI (((g : Nat) : Int)))), (13, .int (iI (0))), (12, .int (iI (mv))), (11, .int (iI (sp))), (10, .int (iI (((g : Nat) : Int)))), (9, .int (iI (((so : Nat) : Int)))), (7, .int (iI (rest))), (5, .int (iI (((nl : Nat) : Int)))), (0, .ref (ad (0))), (2, .int (iI (((a : Nat) : Int)))), (3, .int (iI (((b : Nat) : Int))))]) hx hb d_MO_layLine_369 hl (by decide) rfl (fun ls hl => ?_)
    refine lr_layLine3 hx hb hml hg hown hK hA a b so nl g sp rest hb6 hso hg6 hsp hre (by rw [k6]; exact hz) MF (fun H locs ls hP hD hS hl => ?_) (b - a) a mv 0 ((bl : Nat) : Int) M_2 (by omega) ha6 (by omega) (by omega) eqb_rf (by rw [k6, k9, k10, hM1]; exact hMF) H locs ls hP hD hS (lv_sub hl [0, 1, 2, 3, 4, 5, 6, 7, 8, 9, 10, 11, 12] rfl)
    exact kk H locs ls hP hD hS hl
set_option maxHeartbeats 4000000 in
set_option maxRecDepth 100000 in
theorem r_ll140 {p : Program} {l : Launch} {e : Env} {s : State} {m : MethodId} {args : Array Value} {below : List Frame} {meth : Method} {c : Code} {Q : State → Prop} {A : Nat → Prop} {H0 : Heap} {D : va_G} {ad : Nat → Nat} {cs : ClassId} {M : Nat → Nat → Int} (hx : p.tables.exec = Jvm.exec) (hb : c.code = b_MO_layLine) (hml : c.maxLocals = 18) (hg : ∀ w ∈ gt, w.before args s = true) (hown : s.vm.findClass R_MO = some m.cls) (hK : va_K D vwCl (mo_tys cs) s) (hA : ∀ q, H0.size ≤ q → A q) (q a b so nl g : Nat) (mv sp rest al h0 hF : Int) (la : Bool) (hq : q < 30) (ha6 : a ≤ 600) (hb6 : b ≤ 600) (hso : so ≤ 600) (hn6 : nl < 640) (hre : 0 ≤ rest ∧ rest ≤ 30000) (hal : 0 ≤ al ∧ al ≤ 3) (hz : ∀ j, zb (M 6 j)) (h8 : ∀ j, 0 ≤ M 8 j ∧ M 8 j ≤ 2000) (hmv : M 19 nl = mv) (hh0 : M 2 (11 * q + 10) = h0) (hh0b : 0 ≤ h0 ∧ h0 ≤ 2000) (hhF : r_mh (M 8) (b - a) a h0 = hF) (hgg : r_gc (M 6) so (b - a) a 0 = g) (hsp : sp = if al = 3 ∧ 0 < g ∧ la = false ∧ ¬ p_endl (M 6) (b - 1) then 1 else 0) (MF : Nat → Nat → Int) (hMF : r_l3 (M 6) (M 9) (M 10) so g sp rest ((nl : Nat) : Int) (b - a) a mv 0 ((q_gc (M 6) (so - a) a 0 : Nat) : Int) (mset (mset M 16 nl hF) 20 nl (if sp = 0 then 0 else rest)) = MF) (kk : ∀ (H : Heap) (locs : List Loc) (ls : Array Slot), va_P D vwCl (mo_w ad cs MF) H → va_D A (mo_w ad cs MF) → va_S A H0 H locs → lv_has ls 18 [(0, .ref (ad 0))] → W p l e ({ frames := 4, cells := 0, slots := 0, locals := 101 } : Room) s m args below meth c H locs 0 0 Q (F0 m 507 ls [])) : ∀ (H : Heap) (locs : List Loc) (ls : Array Slot), va_P D vwCl (mo_w ad cs M) H → va_D A (mo_w ad cs M) → va_S A H0 H locs → lv_has ls 18 [(9, .int (iI (((so : Nat) : Int)))), (8, .int (iI (al))), (7, .int (iI (rest))), (5, .int (iI (((nl : Nat) : Int)))), (0, .ref (ad (0))), (1, .int (iI (((q : Nat) : Int)))), (2, .int (iI (((a : Nat) : Int)))), (3, .int (iI (((b : Nat) : Int)))), (4, .int (iI (bz (la = true) inferInstance)))] → W p l e ({ frames := 4, cells := 0, slots := 0, locals := 101 } : Room) s m args below meth c H locs 0 0 Q (F0 m 140 ls []) := by
  intro H locs ls hP hD hS hl
  have hgl := r_gc_le (M 6) so (b - a) a 0
  rw [hgg] at hgl
  have hg0 : b ≤ a → g = 0 := fun h => by rw [← hgg, show b - a = 0 by omega]; rfl
  have k6 : mset M 16 nl hF 6 = M 6 := mset_ne (by omega)
  have k9 : mset M 16 nl hF 9 = M 9 := mset_ne (by omega)
  have k10 : mset M 16 nl hF 10 = M 10 := mset_ne (by omega)
  refine lv_aload_n hx hb d_MO_layLine_140 rfl (lv_at hl 4 rfl) ?_
  refine z_get (ci := 7) (C := R_MO) (T := T_MO) (N := 32) (v := .ref (ad (16))) hx hb hg in_MO hown hK hP (0) (by decide) rfl rfl 22 (by decide) (hg _ (List.mem_append_right _ (List.mem_append_right _ (List.mem_append_right _ (List.mem_append_right _ (List.mem_append_right _ (List.mem_append_right _ (List.mem_append_right _ (List.mem_append_right _ (List.mem_append_right _ (List.mem_append_right _ (List.mem_append_right _ (List.mem_append_right _ (List.mem_append_right _ (List.mem_append_left _ (List.mem_of_getElem? (i := 25) rfl)))))))))))))))) (fun _ h9 => h9) rfl d_MO_layLine_141 ?_
  refine lv_iload hx hb d_MO_layLine_144 (lv_at hl 3 rfl) ?_
  refine lv_aload_n hx hb d_MO_layLine_146 rfl (lv_at hl 4 rfl) ?_
  refine z_get (ci := 7) (C := R_MO) (T := T_MO) (N := 32) (v := .ref (ad (2))) hx hb hg in_MO hown hK hP (0) (by decide) rfl rfl 6 (by decide) (hg _ (List.mem_append_right _ (List.mem_append_right _ (List.mem_append_right _ (List.mem_append_right _ (List.mem_append_right _ (List.mem_append_right _ (List.mem_append_right _ (List.mem_append_right _ (List.mem_append_right _ (List.mem_append_right _ (List.mem_append_right _ (List.mem_append_right _ (List.mem_append_right _ (List.mem_append_left _ (List.mem_of_getElem? (i := 9) rfl)))))))))))))))) (fun _ h9 => h9) rfl d_MO_layLine_147 ?_
  refine z_bipush hx hb (z := 11) d_MO_layLine_150 (by decide) ?_
  refine lv_iload_n hx hb d_MO_layLine_152 rfl (lv_at hl 5 rfl) ?_
  refine z_imul hx hb d_MO_layLine_153 (v := ((11 * q : Nat) : Int)) (by omega) ?_
  refine z_bipush hx hb (z := 10) d_MO_layLine_154 (by decide) ?_
  refine z_iadd hx hb d_MO_layLine_156 (v := ((11 * q + 10 : Nat) : Int)) (by omega) ?_
  refine z_iald hx hb hK hP (2) 0 (by decide) (fun _ => rfl) rfl (11 * q + 10) rfl (by omega) (by decide) d_MO_layLine_157 ?_
  refine lv_topi (fun y_ ey => ?_)
  have ey := ey.trans (congrArg iI hh0)
  subst ey
  refine z_iast hx hb hK hP hD hS (16) 0 (by decide) (fun _ => rfl) rfl (v := h0) (nl) rfl (by omega) (by decide) d_MO_layLine_158 (fun H locs hP hD hS => ?_)
  obtain ⟨M_1, eM_1⟩ : ∃ q_, q_ = mset M (16) (nl) (h0) := ⟨_, rfl⟩
  have hP : va_P D vwCl (mo_w ad cs M_1) H := by rw [eM_1]; exact hP
  have hD : va_D A (mo_w ad cs M_1) := by rw [eM_1]; exact hD
  refine z_iconst hx hb (z := 0) d_MO_layLine_159 ?_
  refine lv_istore (lv' := [(10, .int (iI (0))), (9, .int (iI (((so : Nat) : Int)))), (8, .int (iI (al))), (7, .int (iI (rest))), (5, .int (iI (((nl : Nat) : Int)))), (0, .ref (ad (0))), (1, .int (iI (((q : Nat) : Int)))), (2, .int (iI (((a : Nat) : Int)))), (3, .int (iI (((b : Nat) : Int)))), (4, .int (iI (bz (la = true) inferInstance)))]) hx hb d_MO_layLine_160 hl (by decide) rfl (fun ls hl => ?_)
  refine lv_iload_n hx hb d_MO_layLine_162 rfl (lv_at hl 7 rfl) ?_
  refine lv_istore (lv' := [(11, .int (iI (((a : Nat) : Int)))), (10, .int (iI (0))), (9, .int (iI (((so : Nat) : Int)))), (8, .int (iI (al))), (7, .int (iI (rest))), (5, .int (iI (((nl : Nat) : Int)))), (0, .ref (ad (0))), (1, .int (iI (((q : Nat) : Int)))), (2, .int (iI (((a : Nat) : Int)))), (3, .int (iI (((b : Nat) : Int)))), (4, .int (iI (bz (la = true) inferInstance)))]) hx hb d_MO_layLine_163 hl (by decide) rfl (fun ls hl => ?_)
  rw [eM_1] at hP hD
  refine lr_layLine1 hx hb hml hg hown hK hA a b so nl g al rest hF la hb6 hso hn6 hz h8 (fun H locs ls hP hD hS hl => ?_) (b - a) a 0 h0 (by omega) ha6 hh0b hhF hgg H locs ls hP hD hS (lv_sub hl [0, 1, 2, 3, 4, 5, 6, 8, 9, 10] rfl)
  refine lv_iload hx hb d_MO_layLine_261 (lv_at hl 2 rfl) ?_
  refine z_iconst hx hb (z := 3) d_MO_layLine_263 ?_
  refine z_icmp_ne hx hb (tgt := 291) d_MO_layLine_264 (by decide) ⟨by omega, by omega⟩ ⟨by decide, by decide⟩ (fun c_264 => ?_) (fun c_264 => ?_)
  · refine z_iconst hx hb (z := 0) d_MO_layLine_291 ?_
    have hsv : sp = 0 := by rw [hsp, if_neg (fun h => c_264 h.1)]
    rw [hsv] at hMF
    exact r_ll292 hx hb hml hg hown hK hA a b so nl g mv 0 rest ha6 hb6 hso hn6 (by omega) (by omega) hre (by rw [k6]; exact hz) (by rw [mset_ne (by omega)]; exact hmv) MF (by rw [k6, k9, k10]; exact hMF) kk H locs ls hP hD hS (lv_sub hl [0, 1, 3, 4, 5, 6, 7] rfl)
  · refine lv_iload hx hb d_MO_layLine_267 (lv_at hl 0 rfl) ?_
    refine z_if_le hx hb (tgt := 291) d_MO_layLine_269 (by decide) ⟨by omega, by omega⟩ (fun c_269 => ?_) (fun c_269 => ?_)
    · refine z_iconst hx hb (z := 0) d_MO_layLine_291 ?_
      have hsv : sp = 0 := by rw [hsp, if_neg (fun h => by omega)]
      rw [hsv] at hMF
      exact r_ll292 hx hb hml hg hown hK hA a b so nl g mv 0 rest ha6 hb6 hso hn6 (by omega) (by omega) hre (by rw [k6]; exact hz) (by rw [mset_ne (by omega)]; exact hmv) MF (by rw [k6, k9, k10]; exact hMF) kk H locs ls hP hD hS (lv_sub hl [0, 1, 3, 4, 5, 6, 7] rfl)
    · refine lv_iload hx hb d_MO_layLine_272 (lv_at hl 8 rfl) ?_
      refine z_ifb_ne hx hb (tgt := 291) d_MO_layLine_274 (by decide) (fun c_274 => ?_) (fun c_274 => ?_)
      · refine z_iconst hx hb (z := 0) d_MO_layLine_291 ?_
        have hsv : sp = 0 := by rw [hsp, if_neg (fun h => by rw [c_274] at h; exact absurd h.2.2.1 (by decide))]
        rw [hsv] at hMF
        exact r_ll292 hx hb hml hg hown hK hA a b so nl g mv 0 rest ha6 hb6 hso hn6 (by omega) (by omega) hre (by rw [k6]; exact hz) (by rw [mset_ne (by omega)]; exact hmv) MF (by rw [k6, k9, k10]; exact hMF) kk H locs ls hP hD hS (lv_sub hl [0, 1, 3, 4, 5, 6, 7] rfl)
      · refine lv_aload_n hx hb d_MO_layLine_277 rfl (lv_at hl 5 rfl) ?_
        refine lv_iload_n hx hb d_MO_layLine_278 rfl (lv_at hl 7 rfl) ?_
        refine z_iconst hx hb (z := 1) d_MO_layLine_279 ?_
        refine z_isub hx hb d_MO_layLine_280 (v := ((b - 1 : Nat) : Int)) (by omega) ?_
        refine ro_V (As := [.int (iI (((b - 1 : Nat) : Int)))]) (rest := []) (z := bz (p_endl (M 6) (b - 1)) inferInstance) ⟨hx, hb, hml, hown, hg⟩ ((congrArg (fun z => bz (p_endl z (b - 1)) inferInstance) k6) ▸ r_isEnd (M := mset M 16 nl hF) l (b - 1) (by omega) (by rw [k6]; exact hz)) (cwV 1 hg (gt_V (List.mem_append_right _ (List.mem_append_right _ (List.mem_append_right _ (List.mem_append_right _ (List.mem_append_right _ (List.mem_append_right _ (List.mem_append_right _ (List.mem_append_right _ (List.mem_append_right _ (List.mem_append_right _ (List.mem_append_right _ (List.mem_append_right _ (List.mem_append_right _ (List.mem_append_right _ (List.mem_append_right _ (List.mem_append_left _ (List.mem_of_getElem? (i := 37) rfl))))))))))))))))) (List.mem_append_right _ (List.mem_append_right _ (List.mem_append_right _ (List.mem_append_right _ (List.mem_append_right _ (List.mem_append_right _ (List.mem_append_right _ (List.mem_append_right _ (List.mem_append_right _ (List.mem_append_right _ (List.mem_append_right _ (List.mem_append_right _ (List.mem_append_right _ (List.mem_append_right _ (List.mem_append_right _ (List.mem_append_left _ (List.mem_of_getElem? (i := 38) rfl))))))))))))))))) (List.mem_append_left _ (List.mem_of_getElem? (i := 25) rfl)) (List.mem_append_right _ (List.mem_append_left _ (List.mem_of_getElem? (i := 9) rfl))) (List.mem_append_right _ (List.mem_append_right _ (List.mem_append_right _ (List.mem_append_right _ (List.mem_append_right _ (List.mem_append_right _ (List.mem_append_right _ (List.mem_append_right _ (List.mem_append_right _ (List.mem_append_right _ (List.mem_append_right _ (List.mem_append_right _ (List.mem_append_right _ (List.mem_append_right _ (List.mem_append_right _ (List.mem_append_left _ (List.mem_of_getElem? (i := 39) rfl)))))))))))))))))) rfl rfl rfl (by decide +kernel) ⟨Nat.le_of_ble_eq_true rfl, Nat.le_of_ble_eq_true rfl⟩) hK hP (va_recv hK hP (ci := 7) (q0 := 0) rfl (wl_atE (by decide) rfl)) rfl hl.1 rfl (Nat.le_of_ble_eq_true rfl) d_MO_layLine_281 ⟨Nat.zero_le _, Nat.zero_le _⟩ ?_
        refine z_ifb_ne hx hb (tgt := 291) d_MO_layLine_284 (by decide) (fun c_284 => ?_) (fun c_284 => ?_)
        · refine z_iconst hx hb (z := 0) d_MO_layLine_291 ?_
          have hsv : sp = 0 := by rw [hsp, if_neg (fun h => h.2.2.2 c_284)]
          rw [hsv] at hMF
          exact r_ll292 hx hb hml hg hown hK hA a b so nl g mv 0 rest ha6 hb6 hso hn6 (by omega) (by omega) hre (by rw [k6]; exact hz) (by rw [mset_ne (by omega)]; exact hmv) MF (by rw [k6, k9, k10]; exact hMF) kk H locs ls hP hD hS (lv_sub hl [0, 1, 3, 4, 5, 6, 7] rfl)
        · refine z_iconst hx hb (z := 1) d_MO_layLine_287 ?_
          refine lv_goto (tgt := 292) hx hb d_MO_layLine_288 (by decide) ?_
          have hsv : sp = 1 := by rw [hsp, if_pos ⟨by omega, by omega, by cases la <;> simp_all, c_284⟩]
          rw [hsv] at hMF
          exact r_ll292 hx hb hml hg hown hK hA a b so nl g mv 1 rest ha6 hb6 hso hn6 (by omega) (by omega) hre (by rw [k6]; exact hz) (by rw [mset_ne (by omega)]; exact hmv) MF (by rw [k6, k9, k10]; exact hMF) kk H locs ls hP hD hS (lv_sub hl [0, 1, 3, 4, 5, 6, 7] rfl)
set_option maxHeartbeats 4000000 in
set_option maxRecDepth 100000 in
/-- layLine -/
theorem r_layLine (l : Launch) {D : va_G} {ad : Nat → Nat} {cs : ClassId} {M : Nat → Nat → Int} (sz : Nat) (q n a b nl : Nat) (la : Bool) (ha6 : a ≤ 600) (hb6 : b ≤ 600) (hs : rS M q) (hb1 : 0 ≤ M 1 q ∧ M 1 q ≤ 600) (hp : rP M q n) (ht : rT M) (hn : M 0 16 = ((nl : Nat) : Int)) (hn6 : nl < 640) (h5 : 0 ≤ M 2 (11 * q + 5) ∧ M 2 (11 * q + 5) ≤ 3) (h10 : 0 ≤ M 2 (11 * q + 10) ∧ M 2 (11 * q + 10) ≤ 2000) : Met l y_MO_layLine ws_MO_layLine ({ frames := 4, cells := 0, slots := 0, locals := 101 } : Room) (va_Pc [.ref (ad (0)), .int (iI (((q : Nat) : Int))), .int (iI (((a : Nat) : Int))), .int (iI (((b : Nat) : Int))), .int (iI (bz (la = true) inferInstance))] (rw_B D vwCl (mo_tys cs) (mo_w ad cs M) sz)) (va_Qv (fun _ : Unit => True) (rw_E D vwCl (mo_tys cs) (mo_w ad cs M) (mo_w ad cs (r_la M q n a b nl la)) sz) (va_A (mo_w ad cs M) sz)) 0 0 (va_A (mo_w ad cs M) sz) := by
  refine Met.ofW (cc := b_MO_layLine) (maxL := 18) (ret := none) (by decide) rfl ?_
  intro p e s m args below meth c s₁ B hml hv
  obtain ⟨rfl, hsz, hP, hK, hD0⟩ := hv
  have hx := B.exec
  have hb := B.bytes
  have hr := B.returns
  have hts := atoms_spec (ws := ws_MO_layLine) B.pre
  have hg : ∀ w ∈ gt, w.before _ s = true := fun w h => hts w (List.mem_cons_of_mem _ h)
  have hown : s.vm.findClass R_MO = some m.cls := findClass_of_methodNamed B.named
  have hlocks := B.notSynchronized
  subst hsz
  have hD := hD0.self (sz := s.heap.size)
  have hA : ∀ q : Nat, s.heap.size ≤ q → va_A (mo_w ad cs M) s.heap.size q := fun q h => Or.inr h
  have hS : va_S (va_A (mo_w ad cs M) s.heap.size) s.heap s.heap [] := va_S.rf
  have hl := lv_entry ([.ref (ad (0)), .int (iI (((q : Nat) : Int))), .int (iI (((a : Nat) : Int))), .int (iI (((b : Nat) : Int))), .int (iI (bz (la = true) inferInstance))]) (n := 18) (Nat.le_of_ble_eq_true rfl)
  rw [lg_entry_eq]
  generalize (lg_sl ([.ref (ad (0)), .int (iI (((q : Nat) : Int))), .int (iI (((a : Nat) : Int))), .int (iI (((b : Nat) : Int))), .int (iI (bz (la = true) inferInstance))]) ++ List.replicate (18 - (lg_sl ([.ref (ad (0)), .int (iI (((q : Nat) : Int))), .int (iI (((a : Nat) : Int))), .int (iI (((b : Nat) : Int))), .int (iI (bz (la = true) inferInstance))])).length) Slot.unset).toArray = ls at hl ⊢
  have hl : lv_has ls 18 [(0, .ref (ad (0))), (1, .int (iI (((q : Nat) : Int)))), (2, .int (iI (((a : Nat) : Int)))), (3, .int (iI (((b : Nat) : Int)))), (4, .int (iI (bz (la = true) inferInstance)))] := hl
  have hq : q < 30 := hp.1
  obtain ⟨rv, erv⟩ : ∃ q_, q_ = r_m M q n a b M := ⟨_, rfl⟩
  have hrv : 0 ≤ rv.1 ∧ rv.1 ≤ 37000000 := by rw [erv]; exact r_mb hs hp ht hb6
  have hwi := ht.2.2.2.1
  have hs1_ := hs.2.1
  have hrb : -5000 ≤ r_room M q ∧ r_room M q ≤ 30000 := by unfold r_room; omega
  obtain ⟨rest, erest⟩ : ∃ q_, q_ = r_rest M q n a b := ⟨_, rfl⟩
  have hre0 : rest = if rv.1 < r_room M q then r_room M q - rv.1 else 0 := by rw [erest, erv]; rfl
  have hre : 0 ≤ rest ∧ rest ≤ 30000 := by rw [hre0]; split <;> omega
  have hso := p_solid_le (M 6) a b
  have hr2 : 0 ≤ rest.tdiv 2 := by rw [Int.tdiv_eq_ediv_of_nonneg (by omega)]; omega
  refine lv_aload_n hx hb d_MO_layLine_0 rfl (lv_at hl 0 rfl) ?_
  refine z_get (ci := 7) (C := R_MO) (T := T_MO) (N := 32) (v := .int (iI (M (0) 16))) hx hb hg in_MO hown hK hP (0) (by decide) rfl rfl 16 (by decide) (hg _ (List.mem_append_right _ (List.mem_append_right _ (List.mem_append_right _ (List.mem_append_right _ (List.mem_append_right _ (List.mem_append_right _ (List.mem_append_right _ (List.mem_append_right _ (List.mem_append_right _ (List.mem_append_right _ (List.mem_append_right _ (List.mem_append_right _ (List.mem_append_right _ (List.mem_append_left _ (List.mem_of_getElem? (i := 19) rfl)))))))))))))))) (fun _ h9 => h9) rfl d_MO_layLine_1 ?_
  refine lv_topi (fun y_ ey => ?_)
  have ey := ey.trans (congrArg iI hn)
  subst ey
  refine lv_istore (lv' := [(5, .int (iI (((nl : Nat) : Int)))), (0, .ref (ad (0))), (1, .int (iI (((q : Nat) : Int)))), (2, .int (iI (((a : Nat) : Int)))), (3, .int (iI (((b : Nat) : Int)))), (4, .int (iI (bz (la = true) inferInstance)))]) hx hb d_MO_layLine_4 hl (by decide) rfl (fun ls hl => ?_)
  refine lv_aload_n hx hb d_MO_layLine_6 rfl (lv_at hl 1 rfl) ?_
  refine lv_iload_n hx hb d_MO_layLine_7 rfl (lv_at hl 2 rfl) ?_
  refine lv_iload_n hx hb d_MO_layLine_8 rfl (lv_at hl 3 rfl) ?_
  refine lv_iload_n hx hb d_MO_layLine_9 rfl (lv_at hl 4 rfl) ?_
  refine rw_Vi (As := [.int (iI (((q : Nat) : Int))), .int (iI (((a : Nat) : Int))), .int (iI (((b : Nat) : Int)))]) (rest := []) (w' := (mo_w ad cs (rv.2))) (z := rv.1) ⟨hx, hb, hml, hown, hg⟩ (erv ▸ r_measure l _ q n a b ha6 hb6 hs hb1 hp ht) (cwV 3 hg (gt_V (List.mem_append_right _ (List.mem_append_right _ (List.mem_append_right _ (List.mem_append_right _ (List.mem_append_right _ (List.mem_append_right _ (List.mem_append_right _ (List.mem_append_right _ (List.mem_append_right _ (List.mem_append_right _ (List.mem_append_right _ (List.mem_append_right _ (List.mem_append_right _ (List.mem_append_right _ (List.mem_append_right _ (List.mem_append_right _ (List.mem_append_left _ (List.mem_of_getElem? (i := 3) rfl)))))))))))))))))) (List.mem_append_right _ (List.mem_append_right _ (List.mem_append_right _ (List.mem_append_right _ (List.mem_append_right _ (List.mem_append_right _ (List.mem_append_right _ (List.mem_append_right _ (List.mem_append_right _ (List.mem_append_right _ (List.mem_append_right _ (List.mem_append_right _ (List.mem_append_right _ (List.mem_append_right _ (List.mem_append_right _ (List.mem_append_right _ (List.mem_append_left _ (List.mem_of_getElem? (i := 4) rfl)))))))))))))))))) (List.mem_append_left _ (List.mem_of_getElem? (i := 27) rfl)) (List.mem_append_right _ (List.mem_append_left _ (List.mem_of_getElem? (i := 9) rfl))) (List.mem_append_right _ (List.mem_append_right _ (List.mem_append_right _ (List.mem_append_right _ (List.mem_append_right _ (List.mem_append_right _ (List.mem_append_right _ (List.mem_append_right _ (List.mem_append_right _ (List.mem_append_right _ (List.mem_append_right _ (List.mem_append_right _ (List.mem_append_right _ (List.mem_append_right _ (List.mem_append_right _ (List.mem_append_right _ (List.mem_append_left _ (List.mem_of_getElem? (i := 5) rfl))))))))))))))))))) rfl rfl rfl (by decide +kernel) ⟨Nat.le_of_ble_eq_true rfl, Nat.le_of_ble_eq_true rfl⟩) hK hP hD hS hA (va_recv hK hP (ci := 7) (q0 := 0) rfl (wl_atE (by decide) rfl)) rfl hl.1 rfl (Nat.le_of_ble_eq_true rfl) d_MO_layLine_10 ⟨Nat.zero_le _, Nat.zero_le _⟩ (fun H locs hP hD hS => ?_)
  obtain ⟨M_1, eM_1⟩ : ∃ q_, q_ = rv.2 := ⟨_, rfl⟩
  have hP : va_P D vwCl (mo_w ad cs M_1) H := by rw [eM_1]; exact hP
  have hD : va_D (va_A (mo_w ad cs M) s.heap.size) (mo_w ad cs M_1) := by rw [eM_1]; exact hD
  have hq1 : eqb 9 19 M_1 M := by rw [eM_1]; exact (by rw [erv]; exact fun j hj => r_ms_eq _ _ _ _ _ _ _ _ _ _ j (by omega))
  have hT1 : rT M_1 := by unfold rT; rw [hq1 6 (by omega), hq1 7 (by omega), hq1 8 (by omega), hq1 0 (by omega)]; exact ht
  have hrr : r_room M_1 q = r_room M q := by unfold r_room; rw [hq1 0 (by omega), hq1 2 (by omega)]
  have e6 : M_1 6 = M 6 := hq1 6 (by omega)
  refine lv_istore (lv' := [(6, .int (iI (rv.1))), (5, .int (iI (((nl : Nat) : Int)))), (0, .ref (ad (0))), (1, .int (iI (((q : Nat) : Int)))), (2, .int (iI (((a : Nat) : Int)))), (3, .int (iI (((b : Nat) : Int)))), (4, .int (iI (bz (la = true) inferInstance)))]) hx hb d_MO_layLine_13 hl (by decide) rfl (fun ls hl => ?_)
  refine lv_aload_n hx hb d_MO_layLine_15 rfl (lv_at hl 2 rfl) ?_
  refine lv_iload_n hx hb d_MO_layLine_16 rfl (lv_at hl 3 rfl) ?_
  refine ro_V (As := [.int (iI (((q : Nat) : Int)))]) (rest := []) (z := r_room M q) ⟨hx, hb, hml, hown, hg⟩ (hrr ▸ r_roomc l q hq) (cwV 1 hg (gt_V (List.mem_append_right _ (List.mem_append_right _ (List.mem_append_right _ (List.mem_append_right _ (List.mem_append_right _ (List.mem_append_right _ (List.mem_append_right _ (List.mem_append_right _ (List.mem_append_right _ (List.mem_append_right _ (List.mem_append_right _ (List.mem_append_right _ (List.mem_append_right _ (List.mem_append_right _ (List.mem_append_right _ (List.mem_append_right _ (List.mem_append_left _ (List.mem_of_getElem? (i := 21) rfl)))))))))))))))))) (List.mem_append_right _ (List.mem_append_right _ (List.mem_append_right _ (List.mem_append_right _ (List.mem_append_right _ (List.mem_append_right _ (List.mem_append_right _ (List.mem_append_right _ (List.mem_append_right _ (List.mem_append_right _ (List.mem_append_right _ (List.mem_append_right _ (List.mem_append_right _ (List.mem_append_right _ (List.mem_append_right _ (List.mem_append_right _ (List.mem_append_left _ (List.mem_of_getElem? (i := 22) rfl)))))))))))))))))) (List.mem_append_left _ (List.mem_of_getElem? (i := 33) rfl)) (List.mem_append_right _ (List.mem_append_left _ (List.mem_of_getElem? (i := 9) rfl))) (List.mem_append_right _ (List.mem_append_right _ (List.mem_append_right _ (List.mem_append_right _ (List.mem_append_right _ (List.mem_append_right _ (List.mem_append_right _ (List.mem_append_right _ (List.mem_append_right _ (List.mem_append_right _ (List.mem_append_right _ (List.mem_append_right _ (List.mem_append_right _ (List.mem_append_right _ (List.mem_append_right _ (List.mem_append_right _ (List.mem_append_left _ (List.mem_of_getElem? (i := 23) rfl))))))))))))))))))) rfl rfl rfl (by decide +kernel) ⟨Nat.le_of_ble_eq_true rfl, Nat.le_of_ble_eq_true rfl⟩) hK hP (va_recv hK hP (ci := 7) (q0 := 0) rfl (wl_atE (by decide) rfl)) rfl hl.1 rfl (Nat.le_of_ble_eq_true rfl) d_MO_layLine_17 ⟨Nat.zero_le _, Nat.zero_le _⟩ ?_
  refine lv_iload hx hb d_MO_layLine_20 (lv_at hl 0 rfl) ?_
  refine z_icmp_le hx hb (tgt := 36) d_MO_layLine_22 (by decide) ⟨by omega, by omega⟩ ⟨by omega, by omega⟩ (fun c_22 => ?_) (fun c_22 => ?_)
  · refine z_iconst hx hb (z := 0) d_MO_layLine_36 ?_
    have hrs : 0 = rest := by rw [hre0]; split <;> omega
    refine lv_topi (fun y_ ey => ?_)
    have ey := ey.trans (congrArg iI hrs)
    subst ey
    refine lv_istore (lv' := [(7, .int (iI (rest))), (6, .int (iI (rv.1))), (5, .int (iI (((nl : Nat) : Int)))), (0, .ref (ad (0))), (1, .int (iI (((q : Nat) : Int)))), (2, .int (iI (((a : Nat) : Int)))), (3, .int (iI (((b : Nat) : Int)))), (4, .int (iI (bz (la = true) inferInstance)))]) hx hb d_MO_layLine_37 hl (by decide) rfl (fun ls hl => ?_)
    refine lv_aload_n hx hb d_MO_layLine_39 rfl (lv_at hl 3 rfl) ?_
    refine z_get (ci := 7) (C := R_MO) (T := T_MO) (N := 32) (v := .ref (ad (2))) hx hb hg in_MO hown hK hP (0) (by decide) rfl rfl 6 (by decide) (hg _ (List.mem_append_right _ (List.mem_append_right _ (List.mem_append_right _ (List.mem_append_right _ (List.mem_append_right _ (List.mem_append_right _ (List.mem_append_right _ (List.mem_append_right _ (List.mem_append_right _ (List.mem_append_right _ (List.mem_append_right _ (List.mem_append_right _ (List.mem_append_right _ (List.mem_append_left _ (List.mem_of_getElem? (i := 9) rfl)))))))))))))))) (fun _ h9 => h9) rfl d_MO_layLine_40 ?_
    refine z_bipush hx hb (z := 11) d_MO_layLine_43 (by decide) ?_
    refine lv_iload_n hx hb d_MO_layLine_45 rfl (lv_at hl 4 rfl) ?_
    refine z_imul hx hb d_MO_layLine_46 (v := ((11 * q : Nat) : Int)) (by omega) ?_
    refine z_iconst hx hb (z := 5) d_MO_layLine_47 ?_
    refine z_iadd hx hb d_MO_layLine_48 (v := ((11 * q + 5 : Nat) : Int)) (by omega) ?_
    refine z_iald hx hb hK hP (2) 0 (by decide) (fun _ => rfl) rfl (11 * q + 5) rfl (by omega) (by decide) d_MO_layLine_49 ?_
    have hal : M_1 (2) (11 * q + 5) = M 2 (11 * q + 5) := by rw [hq1 2 (by omega)]
    refine lv_topi (fun y_ ey => ?_)
    have ey := ey.trans (congrArg iI hal)
    subst ey
    refine lv_istore (lv' := [(8, .int (iI (M 2 (11 * q + 5)))), (7, .int (iI (rest))), (6, .int (iI (rv.1))), (5, .int (iI (((nl : Nat) : Int)))), (0, .ref (ad (0))), (1, .int (iI (((q : Nat) : Int)))), (2, .int (iI (((a : Nat) : Int)))), (3, .int (iI (((b : Nat) : Int)))), (4, .int (iI (bz (la = true) inferInstance)))]) hx hb d_MO_layLine_50 hl (by decide) rfl (fun ls hl => ?_)
    refine lv_aload_n hx hb d_MO_layLine_52 rfl (lv_at hl 4 rfl) ?_
    refine lv_iload_n hx hb d_MO_layLine_53 rfl (lv_at hl 6 rfl) ?_
    refine lv_iload_n hx hb d_MO_layLine_54 rfl (lv_at hl 7 rfl) ?_
    refine ro_V (As := [.int (iI (((a : Nat) : Int))), .int (iI (((b : Nat) : Int)))]) (rest := []) (z := ((p_solid (M 6) a b : Nat) : Int)) ⟨hx, hb, hml, hown, hg⟩ ((congrArg (fun z => ((p_solid z a b : Nat) : Int)) e6) ▸ r_trailing l a b ha6 hb6 (zb_6 hT1)) (cwV 2 hg (gt_V (List.mem_append_right _ (List.mem_append_right _ (List.mem_append_right _ (List.mem_append_right _ (List.mem_append_right _ (List.mem_append_right _ (List.mem_append_right _ (List.mem_append_right _ (List.mem_append_right _ (List.mem_append_right _ (List.mem_append_right _ (List.mem_append_right _ (List.mem_append_right _ (List.mem_append_right _ (List.mem_append_right _ (List.mem_append_right _ (List.mem_append_left _ (List.mem_of_getElem? (i := 6) rfl)))))))))))))))))) (List.mem_append_right _ (List.mem_append_right _ (List.mem_append_right _ (List.mem_append_right _ (List.mem_append_right _ (List.mem_append_right _ (List.mem_append_right _ (List.mem_append_right _ (List.mem_append_right _ (List.mem_append_right _ (List.mem_append_right _ (List.mem_append_right _ (List.mem_append_right _ (List.mem_append_right _ (List.mem_append_right _ (List.mem_append_right _ (List.mem_append_left _ (List.mem_of_getElem? (i := 7) rfl)))))))))))))))))) (List.mem_append_left _ (List.mem_of_getElem? (i := 28) rfl)) (List.mem_append_right _ (List.mem_append_left _ (List.mem_of_getElem? (i := 9) rfl))) (List.mem_append_right _ (List.mem_append_right _ (List.mem_append_right _ (List.mem_append_right _ (List.mem_append_right _ (List.mem_append_right _ (List.mem_append_right _ (List.mem_append_right _ (List.mem_append_right _ (List.mem_append_right _ (List.mem_append_right _ (List.mem_append_right _ (List.mem_append_right _ (List.mem_append_right _ (List.mem_append_right _ (List.mem_append_right _ (List.mem_append_left _ (List.mem_of_getElem? (i := 8) rfl))))))))))))))))))) rfl rfl rfl (by decide +kernel) ⟨Nat.le_of_ble_eq_true rfl, Nat.le_of_ble_eq_true rfl⟩) hK hP (va_recv hK hP (ci := 7) (q0 := 0) rfl (wl_atE (by decide) rfl)) rfl hl.1 rfl (Nat.le_of_ble_eq_true rfl) d_MO_layLine_55 ⟨Nat.zero_le _, Nat.zero_le _⟩ ?_
    refine lv_istore (lv' := [(9, .int (iI (((p_solid (M 6) a b : Nat) : Int)))), (8, .int (iI (M 2 (11 * q + 5)))), (7, .int (iI (rest))), (6, .int (iI (rv.1))), (5, .int (iI (((nl : Nat) : Int)))), (0, .ref (ad (0))), (1, .int (iI (((q : Nat) : Int)))), (2, .int (iI (((a : Nat) : Int)))), (3, .int (iI (((b : Nat) : Int)))), (4, .int (iI (bz (la = true) inferInstance)))]) hx hb d_MO_layLine_58 hl (by decide) rfl (fun ls hl => ?_)
    refine lv_aload_n hx hb d_MO_layLine_60 rfl (lv_at hl 5 rfl) ?_
    refine z_get (ci := 7) (C := R_MO) (T := T_MO) (N := 32) (v := .ref (ad (11))) hx hb hg in_MO hown hK hP (0) (by decide) rfl rfl 17 (by decide) (hg _ (List.mem_append_right _ (List.mem_append_right _ (List.mem_append_right _ (List.mem_append_right _ (List.mem_append_right _ (List.mem_append_right _ (List.mem_append_right _ (List.mem_append_right _ (List.mem_append_right _ (List.mem_append_right _ (List.mem_append_right _ (List.mem_append_right _ (List.mem_append_right _ (List.mem_append_left _ (List.mem_of_getElem? (i := 20) rfl)))))))))))))))) (fun _ h9 => h9) rfl d_MO_layLine_61 ?_
    refine lv_iload hx hb d_MO_layLine_64 (lv_at hl 4 rfl) ?_
    refine lv_iload_n hx hb d_MO_layLine_66 rfl (lv_at hl 6 rfl) ?_
    refine z_iast hx hb hK hP hD hS (11) 0 (by decide) (fun _ => rfl) rfl (v := ((q : Nat) : Int)) (nl) rfl (by omega) (by decide) d_MO_layLine_67 (fun H locs hP hD hS => ?_)
    obtain ⟨M_2, eM_2⟩ : ∃ q_, q_ = mset M_1 (11) (nl) (((q : Nat) : Int)) := ⟨_, rfl⟩
    have hP : va_P D vwCl (mo_w ad cs M_2) H := by rw [eM_2]; exact hP
    have hD : va_D (va_A (mo_w ad cs M) s.heap.size) (mo_w ad cs M_2) := by rw [eM_2]; exact hD
    have hq2 : eqb 9 19 M_2 M := by rw [eM_2]; exact eqb_set hq1 (by omega) (by omega)
    have hT2 : rT M_2 := by unfold rT; rw [hq2 6 (by omega), hq2 7 (by omega), hq2 8 (by omega), hq2 0 (by omega)]; exact ht
    refine lv_aload_n hx hb d_MO_layLine_68 rfl (lv_at hl 5 rfl) ?_
    refine z_get (ci := 7) (C := R_MO) (T := T_MO) (N := 32) (v := .ref (ad (12))) hx hb hg in_MO hown hK hP (0) (by decide) rfl rfl 18 (by decide) (hg _ (List.mem_append_right _ (List.mem_append_right _ (List.mem_append_right _ (List.mem_append_right _ (List.mem_append_right _ (List.mem_append_right _ (List.mem_append_right _ (List.mem_append_right _ (List.mem_append_right _ (List.mem_append_right _ (List.mem_append_right _ (List.mem_append_right _ (List.mem_append_right _ (List.mem_append_left _ (List.mem_of_getElem? (i := 21) rfl)))))))))))))))) (fun _ h9 => h9) rfl d_MO_layLine_69 ?_
    refine lv_iload hx hb d_MO_layLine_72 (lv_at hl 4 rfl) ?_
    refine lv_iload_n hx hb d_MO_layLine_74 rfl (lv_at hl 7 rfl) ?_
    refine z_iast hx hb hK hP hD hS (12) 0 (by decide) (fun _ => rfl) rfl (v := ((a : Nat) : Int)) (nl) rfl (by omega) (by decide) d_MO_layLine_75 (fun H locs hP hD hS => ?_)
    obtain ⟨M_3, eM_3⟩ : ∃ q_, q_ = mset M_2 (12) (nl) (((a : Nat) : Int)) := ⟨_, rfl⟩
    have hP : va_P D vwCl (mo_w ad cs M_3) H := by rw [eM_3]; exact hP
    have hD : va_D (va_A (mo_w ad cs M) s.heap.size) (mo_w ad cs M_3) := by rw [eM_3]; exact hD
    have hq3 : eqb 9 19 M_3 M := by rw [eM_3]; exact eqb_set hq2 (by omega) (by omega)
    have hT3 : rT M_3 := by unfold rT; rw [hq3 6 (by omega), hq3 7 (by omega), hq3 8 (by omega), hq3 0 (by omega)]; exact ht
    refine lv_aload_n hx hb d_MO_layLine_76 rfl (lv_at hl 5 rfl) ?_
    refine z_get (ci := 7) (C := R_MO) (T := T_MO) (N := 32) (v := .ref (ad (13))) hx hb hg in_MO hown hK hP (0) (by decide) rfl rfl 19 (by decide) (hg _ (List.mem_append_right _ (List.mem_append_right _ (List.mem_append_right _ (List.mem_append_right _ (List.mem_append_right _ (List.mem_append_right _ (List.mem_append_right _ (List.mem_append_right _ (List.mem_append_right _ (List.mem_append_right _ (List.mem_append_right _ (List.mem_append_right _ (List.mem_append_right _ (List.mem_append_left _ (List.mem_of_getElem? (i := 22) rfl)))))))))))))))) (fun _ h9 => h9) rfl d_MO_layLine_77 ?_
    refine lv_iload hx hb d_MO_layLine_80 (lv_at hl 4 rfl) ?_
    refine lv_iload_n hx hb d_MO_layLine_82 rfl (lv_at hl 8 rfl) ?_
    refine lv_iload_n hx hb d_MO_layLine_83 rfl (lv_at hl 7 rfl) ?_
    refine z_isub hx hb d_MO_layLine_84 (v := (((b : Nat) : Int) - ((a : Nat) : Int))) rfl ?_
    refine z_iast hx hb hK hP hD hS (13) 0 (by decide) (fun _ => rfl) rfl (v := (((b : Nat) : Int) - ((a : Nat) : Int))) (nl) rfl (by omega) (by decide) d_MO_layLine_85 (fun H locs hP hD hS => ?_)
    obtain ⟨M_4, eM_4⟩ : ∃ q_, q_ = mset M_3 (13) (nl) ((((b : Nat) : Int) - ((a : Nat) : Int))) := ⟨_, rfl⟩
    have hP : va_P D vwCl (mo_w ad cs M_4) H := by rw [eM_4]; exact hP
    have hD : va_D (va_A (mo_w ad cs M) s.heap.size) (mo_w ad cs M_4) := by rw [eM_4]; exact hD
    have hq4 : eqb 9 19 M_4 M := by rw [eM_4]; exact eqb_set hq3 (by omega) (by omega)
    have hT4 : rT M_4 := by unfold rT; rw [hq4 6 (by omega), hq4 7 (by omega), hq4 8 (by omega), hq4 0 (by omega)]; exact ht
    refine lv_aload_n hx hb d_MO_layLine_86 rfl (lv_at hl 5 rfl) ?_
    refine z_get (ci := 7) (C := R_MO) (T := T_MO) (N := 32) (v := .ref (ad (14))) hx hb hg in_MO hown hK hP (0) (by decide) rfl rfl 20 (by decide) (hg _ (List.mem_append_right _ (List.mem_append_right _ (List.mem_append_right _ (List.mem_append_right _ (List.mem_append_right _ (List.mem_append_right _ (List.mem_append_right _ (List.mem_append_right _ (List.mem_append_right _ (List.mem_append_right _ (List.mem_append_right _ (List.mem_append_right _ (List.mem_append_right _ (List.mem_append_left _ (List.mem_of_getElem? (i := 23) rfl)))))))))))))))) (fun _ h9 => h9) rfl d_MO_layLine_87 ?_
    refine lv_iload hx hb d_MO_layLine_90 (lv_at hl 4 rfl) ?_
    refine lv_aload_n hx hb d_MO_layLine_92 rfl (lv_at hl 5 rfl) ?_
    refine lv_iload_n hx hb d_MO_layLine_93 rfl (lv_at hl 6 rfl) ?_
    refine lv_iload_n hx hb d_MO_layLine_94 rfl (lv_at hl 7 rfl) ?_
    have hbg : r_beg M_4 q a = r_beg M q a := by unfold r_beg; rw [hq4 2 (by omega), hq4 1 (by omega)]
    refine ro_V (As := [.int (iI (((q : Nat) : Int))), .int (iI (((a : Nat) : Int)))]) (rest := [.int (iI (((nl : Nat) : Int))), .ref (ad (14))]) (z := r_beg M q a) ⟨hx, hb, hml, hown, hg⟩ (hbg ▸ r_beginning l q a hq ha6 (by unfold rS; rw [hq4 2 (by omega)]; exact hs) (by rw [hq4 1 (by omega)]; exact hb1)) (cwV 2 hg (gt_V (List.mem_append_right _ (List.mem_append_right _ (List.mem_append_right _ (List.mem_append_right _ (List.mem_append_right _ (List.mem_append_right _ (List.mem_append_right _ (List.mem_append_right _ (List.mem_append_right _ (List.mem_append_right _ (List.mem_append_right _ (List.mem_append_right _ (List.mem_append_right _ (List.mem_append_right _ (List.mem_append_right _ (List.mem_append_right _ (List.mem_append_left _ (List.mem_of_getElem? (i := 9) rfl)))))))))))))))))) (List.mem_append_right _ (List.mem_append_right _ (List.mem_append_right _ (List.mem_append_right _ (List.mem_append_right _ (List.mem_append_right _ (List.mem_append_right _ (List.mem_append_right _ (List.mem_append_right _ (List.mem_append_right _ (List.mem_append_right _ (List.mem_append_right _ (List.mem_append_right _ (List.mem_append_right _ (List.mem_append_right _ (List.mem_append_right _ (List.mem_append_left _ (List.mem_of_getElem? (i := 10) rfl)))))))))))))))))) (List.mem_append_left _ (List.mem_of_getElem? (i := 29) rfl)) (List.mem_append_right _ (List.mem_append_left _ (List.mem_of_getElem? (i := 9) rfl))) (List.mem_append_right _ (List.mem_append_right _ (List.mem_append_right _ (List.mem_append_right _ (List.mem_append_right _ (List.mem_append_right _ (List.mem_append_right _ (List.mem_append_right _ (List.mem_append_right _ (List.mem_append_right _ (List.mem_append_right _ (List.mem_append_right _ (List.mem_append_right _ (List.mem_append_right _ (List.mem_append_right _ (List.mem_append_right _ (List.mem_append_left _ (List.mem_of_getElem? (i := 11) rfl))))))))))))))))))) rfl rfl rfl (by decide +kernel) ⟨Nat.le_of_ble_eq_true rfl, Nat.le_of_ble_eq_true rfl⟩) hK hP (va_recv hK hP (ci := 7) (q0 := 0) rfl (wl_atE (by decide) rfl)) rfl hl.1 rfl (Nat.le_of_ble_eq_true rfl) d_MO_layLine_95 ⟨Nat.zero_le _, Nat.zero_le _⟩ ?_
    refine z_iast hx hb hK hP hD hS (14) 0 (by decide) (fun _ => rfl) rfl (v := r_beg M q a) (nl) rfl (by omega) (by decide) d_MO_layLine_98 (fun H locs hP hD hS => ?_)
    obtain ⟨M_5, eM_5⟩ : ∃ q_, q_ = mset M_4 (14) (nl) (r_beg M q a) := ⟨_, rfl⟩
    have hP : va_P D vwCl (mo_w ad cs M_5) H := by rw [eM_5]; exact hP
    have hD : va_D (va_A (mo_w ad cs M) s.heap.size) (mo_w ad cs M_5) := by rw [eM_5]; exact hD
    have hq5 : eqb 9 19 M_5 M := by rw [eM_5]; exact eqb_set hq4 (by omega) (by omega)
    have hT5 : rT M_5 := by unfold rT; rw [hq5 6 (by omega), hq5 7 (by omega), hq5 8 (by omega), hq5 0 (by omega)]; exact ht
    refine lv_aload_n hx hb d_MO_layLine_99 rfl (lv_at hl 5 rfl) ?_
    refine z_get (ci := 7) (C := R_MO) (T := T_MO) (N := 32) (v := .ref (ad (15))) hx hb hg in_MO hown hK hP (0) (by decide) rfl rfl 21 (by decide) (hg _ (List.mem_append_right _ (List.mem_append_right _ (List.mem_append_right _ (List.mem_append_right _ (List.mem_append_right _ (List.mem_append_right _ (List.mem_append_right _ (List.mem_append_right _ (List.mem_append_right _ (List.mem_append_right _ (List.mem_append_right _ (List.mem_append_right _ (List.mem_append_right _ (List.mem_append_left _ (List.mem_of_getElem? (i := 24) rfl)))))))))))))))) (fun _ h9 => h9) rfl d_MO_layLine_100 ?_
    refine lv_iload hx hb d_MO_layLine_103 (lv_at hl 4 rfl) ?_
    refine lv_iload hx hb d_MO_layLine_105 (lv_at hl 3 rfl) ?_
    refine z_iast hx hb hK hP hD hS (15) 0 (by decide) (fun _ => rfl) rfl (v := rv.1) (nl) rfl (by omega) (by decide) d_MO_layLine_107 (fun H locs hP hD hS => ?_)
    obtain ⟨M_6, eM_6⟩ : ∃ q_, q_ = mset M_5 (15) (nl) (rv.1) := ⟨_, rfl⟩
    have hP : va_P D vwCl (mo_w ad cs M_6) H := by rw [eM_6]; exact hP
    have hD : va_D (va_A (mo_w ad cs M) s.heap.size) (mo_w ad cs M_6) := by rw [eM_6]; exact hD
    have hq6 : eqb 9 19 M_6 M := by rw [eM_6]; exact eqb_set hq5 (by omega) (by omega)
    have hT6 : rT M_6 := by unfold rT; rw [hq6 6 (by omega), hq6 7 (by omega), hq6 8 (by omega), hq6 0 (by omega)]; exact ht
    refine lv_aload_n hx hb d_MO_layLine_108 rfl (lv_at hl 5 rfl) ?_
    refine z_get (ci := 7) (C := R_MO) (T := T_MO) (N := 32) (v := .ref (ad (19))) hx hb hg in_MO hown hK hP (0) (by decide) rfl rfl 25 (by decide) (hg _ (List.mem_append_right _ (List.mem_append_right _ (List.mem_append_right _ (List.mem_append_right _ (List.mem_append_right _ (List.mem_append_right _ (List.mem_append_right _ (List.mem_append_right _ (List.mem_append_right _ (List.mem_append_right _ (List.mem_append_right _ (List.mem_append_right _ (List.mem_append_right _ (List.mem_append_left _ (List.mem_of_getElem? (i := 28) rfl)))))))))))))))) (fun _ h9 => h9) rfl d_MO_layLine_109 ?_
    refine lv_iload hx hb d_MO_layLine_112 (lv_at hl 4 rfl) ?_
    refine lv_iload hx hb d_MO_layLine_114 (lv_at hl 1 rfl) ?_
    refine z_iconst hx hb (z := 1) d_MO_layLine_116 ?_
    refine z_icmp_ne hx hb (tgt := 125) d_MO_layLine_117 (by decide) ⟨by omega, by omega⟩ ⟨by decide, by decide⟩ (fun c_117 => ?_) (fun c_117 => ?_)
    · refine lv_iload hx hb d_MO_layLine_125 (lv_at hl 1 rfl) ?_
      refine z_iconst hx hb (z := 2) d_MO_layLine_127 ?_
      refine z_icmp_ne hx hb (tgt := 138) d_MO_layLine_128 (by decide) ⟨by omega, by omega⟩ ⟨by decide, by decide⟩ (fun c_128 => ?_) (fun c_128 => ?_)
      · refine z_iconst hx hb (z := 0) d_MO_layLine_138 ?_
        have hmvv : 0 = r_mv M q n a b := by unfold r_mv; rw [← erest, if_neg c_117, if_neg c_128]
        refine lv_topi (fun y_ ey => ?_)
        have ey := ey.trans (congrArg iI hmvv)
        subst ey
        refine z_iast hx hb hK hP hD hS (19) 0 (by decide) (fun _ => rfl) rfl (v := r_mv M q n a b) (nl) rfl (by omega) (by decide) d_MO_layLine_139 (fun H locs hP hD hS => ?_)
        obtain ⟨M_7, eM_7⟩ : ∃ q_, q_ = mset M_6 (19) (nl) (r_mv M q n a b) := ⟨_, rfl⟩
        have hP : va_P D vwCl (mo_w ad cs M_7) H := by rw [eM_7]; exact hP
        have hD : va_D (va_A (mo_w ad cs M) s.heap.size) (mo_w ad cs M_7) := by rw [eM_7]; exact hD
        have hq7 : eqb 9 19 M_7 M := by rw [eM_7]; exact eqb_set hq6 (by omega) (by omega)
        have hT7 : rT M_7 := by unfold rT; rw [hq7 6 (by omega), hq7 7 (by omega), hq7 8 (by omega), hq7 0 (by omega)]; exact ht
        have hA1 : M_7 = r_la1 M q n a b nl := by rw [eM_7, eM_6, eM_5, eM_4, eM_3, eM_2, eM_1]; unfold r_la1; rw [← erv]
        have f6 : M_7 6 = M 6 := hq7 6 (by omega)
        have f8 : M_7 8 = M 8 := hq7 8 (by omega)
        have f2 : M_7 2 = M 2 := hq7 2 (by omega)
        have f9 : M_7 9 = rv.2 9 := by rw [eM_7, eM_6, eM_5, eM_4, eM_3, eM_2, eM_1, mset_ne (by omega), mset_ne (by omega), mset_ne (by omega), mset_ne (by omega), mset_ne (by omega), mset_ne (by omega)]
        have f10 : M_7 10 = rv.2 10 := by rw [eM_7, eM_6, eM_5, eM_4, eM_3, eM_2, eM_1, mset_ne (by omega), mset_ne (by omega), mset_ne (by omega), mset_ne (by omega), mset_ne (by omega), mset_ne (by omega)]
        obtain ⟨R3, eR3⟩ : ∃ q_, q_ = r_l3 (M 6) (rv.2 9) (rv.2 10) (p_solid (M 6) a b) (r_gaps M a b) (r_sprd M q a b la) rest ((nl : Nat) : Int) (b - a) a (r_mv M q n a b) 0 ((q_gc (M 6) (p_solid (M 6) a b - a) a 0 : Nat) : Int) (r_la2 M q n a b nl la) := ⟨_, rfl⟩
        have hRF : r_la M q n a b nl la = mset R3 0 16 (((nl : Nat) : Int) + 1) := by rw [eR3, erv, erest]; rfl
        have hR16 : R3 0 16 = ((nl : Nat) : Int) := by rw [eR3, r_l3_eq _ _ _ _ _ _ _ _ _ _ _ _ _ _ 0 (by omega)]; unfold r_la2; rw [mset_ne (by omega), mset_ne (by omega), ← hA1, hq7 0 (by omega)]; exact hn
        refine r_ll140 hx hb hml hg hown hK hA q a b (p_solid (M 6) a b) nl (r_gaps M a b) (r_mv M q n a b) (r_sprd M q a b la) rest (M 2 (11 * q + 5)) (M 2 (11 * q + 10)) (r_mh (M 8) (b - a) a (M 2 (11 * q + 10))) la hq ha6 hb6 (by omega) hn6 hre h5 (by rw [f6]; exact zb_6 ht) (by rw [f8]; exact ht.2.2.1) (by rw [eM_7]; exact mset_same _ _ _ _) (by rw [f2]) h10 (by rw [f8]) (by rw [f6]; rfl) (by rw [f6]; rfl) R3 (by rw [f6, f9, f10, eR3]; unfold r_la2; rw [← hA1, ← erest]) (fun H locs ls hP hD hS hl => ?_) H locs ls hP hD hS (lv_sub hl [0, 1, 2, 4, 5, 6, 7, 8, 9] rfl)
        refine lv_aload_n hx hb d_MO_layLine_507 rfl (lv_at hl 0 rfl) ?_
        refine lv_dup hx hb d_MO_layLine_508 rfl ?_
        refine z_get (ci := 7) (C := R_MO) (T := T_MO) (N := 32) (v := .int (iI (R3 (0) 16))) hx hb hg in_MO hown hK hP (0) (by decide) rfl rfl 16 (by decide) (hg _ (List.mem_append_right _ (List.mem_append_right _ (List.mem_append_right _ (List.mem_append_right _ (List.mem_append_right _ (List.mem_append_right _ (List.mem_append_right _ (List.mem_append_right _ (List.mem_append_right _ (List.mem_append_right _ (List.mem_append_right _ (List.mem_append_right _ (List.mem_append_right _ (List.mem_append_left _ (List.mem_of_getElem? (i := 19) rfl)))))))))))))))) (fun _ h9 => h9) rfl d_MO_layLine_509 ?_
        refine z_iconst hx hb (z := 1) d_MO_layLine_512 ?_
        refine z_iadd hx hb d_MO_layLine_513 (v := (R3 (0) 16 + 1)) rfl ?_
        refine z_put (ci := 7) (C := R_MO) (T := T_MO) (N := 32) (v := .int (iI ((R3 (0) 16 + 1)))) (ty := .int) (ce' := (mo_ce ad cs)) (r := va_up (R3 (0)) 16 ((R3 (0) 16 + 1))) hx hb hg in_MO ty_MO tk_MO nm_MO hown hK hP hD hS (0) (by decide) rfl rfl 16 (by decide) (hg _ (List.mem_append_right _ (List.mem_append_right _ (List.mem_append_right _ (List.mem_append_right _ (List.mem_append_right _ (List.mem_append_right _ (List.mem_append_right _ (List.mem_append_right _ (List.mem_append_right _ (List.mem_append_right _ (List.mem_append_right _ (List.mem_append_right _ (List.mem_append_right _ (List.mem_append_left _ (List.mem_of_getElem? (i := 19) rfl)))))))))))))))) (fun _ h9 => h9) rfl (by decide +kernel) rfl rfl (Nat.le_of_ble_eq_true rfl) (fun _ _ => rfl) rfl d_MO_layLine_514 (fun H locs hP hD hS => ?_)
        obtain ⟨M_8, eM_8⟩ : ∃ q_, q_ = mset R3 (0) (16) ((R3 (0) 16 + 1)) := ⟨_, rfl⟩
        have hP : va_P D vwCl (mo_w ad cs M_8) H := by rw [eM_8]; exact hP
        have hD : va_D (va_A (mo_w ad cs M) s.heap.size) (mo_w ad cs M_8) := by rw [eM_8]; exact hD
        have hM : M_8 = r_la M q n a b nl la := by rw [hRF, eM_8, hR16]
        have eW : mo_w ad cs (M_8) = mo_w ad cs (r_la M q n a b nl la) := by rw [hM]
        have hP := Eq.mp (congrArg (fun q => va_P D vwCl q _) eW) hP
        have hD := Eq.mp (congrArg (va_D _) eW) hD
        exact W.vret hx hb hr (fun t ht hW => ⟨⟨(), rfl, trivial, by rw [ht]; exact hP, va_K.moved hW.alike hK, hD⟩, hS.F ht⟩) hS.2.2 d_MO_layLine_517
      · refine lv_iload hx hb d_MO_layLine_131 (lv_at hl 2 rfl) ?_
        refine z_iconst hx hb (z := 2) d_MO_layLine_133 ?_
        refine z_idiv hx hb d_MO_layLine_134 ⟨by omega, by omega⟩ ⟨by decide, by decide⟩ (by omega) (v := ((rest).tdiv (2))) rfl ?_
        refine lv_goto (tgt := 139) hx hb d_MO_layLine_135 (by decide) ?_
        have hmvv : ((rest).tdiv (2)) = r_mv M q n a b := by unfold r_mv; rw [← erest, if_neg c_117, if_pos c_128]
        refine lv_topi (fun y_ ey => ?_)
        have ey := ey.trans (congrArg iI hmvv)
        subst ey
        refine z_iast hx hb hK hP hD hS (19) 0 (by decide) (fun _ => rfl) rfl (v := r_mv M q n a b) (nl) rfl (by omega) (by decide) d_MO_layLine_139 (fun H locs hP hD hS => ?_)
        obtain ⟨M_9, eM_9⟩ : ∃ q_, q_ = mset M_6 (19) (nl) (r_mv M q n a b) := ⟨_, rfl⟩
        have hP : va_P D vwCl (mo_w ad cs M_9) H := by rw [eM_9]; exact hP
        have hD : va_D (va_A (mo_w ad cs M) s.heap.size) (mo_w ad cs M_9) := by rw [eM_9]; exact hD
        have hq7 : eqb 9 19 M_9 M := by rw [eM_9]; exact eqb_set hq6 (by omega) (by omega)
        have hT7 : rT M_9 := by unfold rT; rw [hq7 6 (by omega), hq7 7 (by omega), hq7 8 (by omega), hq7 0 (by omega)]; exact ht
        have hA1 : M_9 = r_la1 M q n a b nl := by rw [eM_9, eM_6, eM_5, eM_4, eM_3, eM_2, eM_1]; unfold r_la1; rw [← erv]
        have f6 : M_9 6 = M 6 := hq7 6 (by omega)
        have f8 : M_9 8 = M 8 := hq7 8 (by omega)
        have f2 : M_9 2 = M 2 := hq7 2 (by omega)
        have f9 : M_9 9 = rv.2 9 := by rw [eM_9, eM_6, eM_5, eM_4, eM_3, eM_2, eM_1, mset_ne (by omega), mset_ne (by omega), mset_ne (by omega), mset_ne (by omega), mset_ne (by omega), mset_ne (by omega)]
        have f10 : M_9 10 = rv.2 10 := by rw [eM_9, eM_6, eM_5, eM_4, eM_3, eM_2, eM_1, mset_ne (by omega), mset_ne (by omega), mset_ne (by omega), mset_ne (by omega), mset_ne (by omega), mset_ne (by omega)]
        obtain ⟨R3, eR3⟩ : ∃ q_, q_ = r_l3 (M 6) (rv.2 9) (rv.2 10) (p_solid (M 6) a b) (r_gaps M a b) (r_sprd M q a b la) rest ((nl : Nat) : Int) (b - a) a (r_mv M q n a b) 0 ((q_gc (M 6) (p_solid (M 6) a b - a) a 0 : Nat) : Int) (r_la2 M q n a b nl la) := ⟨_, rfl⟩
        have hRF : r_la M q n a b nl la = mset R3 0 16 (((nl : Nat) : Int) + 1) := by rw [eR3, erv, erest]; rfl
        have hR16 : R3 0 16 = ((nl : Nat) : Int) := by rw [eR3, r_l3_eq _ _ _ _ _ _ _ _ _ _ _ _ _ _ 0 (by omega)]; unfold r_la2; rw [mset_ne (by omega), mset_ne (by omega), ← hA1, hq7 0 (by omega)]; exact hn
        refine r_ll140 hx hb hml hg hown hK hA q a b (p_solid (M 6) a b) nl (r_gaps M a b) (r_mv M q n a b) (r_sprd M q a b la) rest (M 2 (11 * q + 5)) (M 2 (11 * q + 10)) (r_mh (M 8) (b - a) a (M 2 (11 * q + 10))) la hq ha6 hb6 (by omega) hn6 hre h5 (by rw [f6]; exact zb_6 ht) (by rw [f8]; exact ht.2.2.1) (by rw [eM_9]; exact mset_same _ _ _ _) (by rw [f2]) h10 (by rw [f8]) (by rw [f6]; rfl) (by rw [f6]; rfl) R3 (by rw [f6, f9, f10, eR3]; unfold r_la2; rw [← hA1, ← erest]) (fun H locs ls hP hD hS hl => ?_) H locs ls hP hD hS (lv_sub hl [0, 1, 2, 4, 5, 6, 7, 8, 9] rfl)
        refine lv_aload_n hx hb d_MO_layLine_507 rfl (lv_at hl 0 rfl) ?_
        refine lv_dup hx hb d_MO_layLine_508 rfl ?_
        refine z_get (ci := 7) (C := R_MO) (T := T_MO) (N := 32) (v := .int (iI (R3 (0) 16))) hx hb hg in_MO hown hK hP (0) (by decide) rfl rfl 16 (by decide) (hg _ (List.mem_append_right _ (List.mem_append_right _ (List.mem_append_right _ (List.mem_append_right _ (List.mem_append_right _ (List.mem_append_right _ (List.mem_append_right _ (List.mem_append_right _ (List.mem_append_right _ (List.mem_append_right _ (List.mem_append_right _ (List.mem_append_right _ (List.mem_append_right _ (List.mem_append_left _ (List.mem_of_getElem? (i := 19) rfl)))))))))))))))) (fun _ h9 => h9) rfl d_MO_layLine_509 ?_
        refine z_iconst hx hb (z := 1) d_MO_layLine_512 ?_
        refine z_iadd hx hb d_MO_layLine_513 (v := (R3 (0) 16 + 1)) rfl ?_
        refine z_put (ci := 7) (C := R_MO) (T := T_MO) (N := 32) (v := .int (iI ((R3 (0) 16 + 1)))) (ty := .int) (ce' := (mo_ce ad cs)) (r := va_up (R3 (0)) 16 ((R3 (0) 16 + 1))) hx hb hg in_MO ty_MO tk_MO nm_MO hown hK hP hD hS (0) (by decide) rfl rfl 16 (by decide) (hg _ (List.mem_append_right _ (List.mem_append_right _ (List.mem_append_right _ (List.mem_append_right _ (List.mem_append_right _ (List.mem_append_right _ (List.mem_append_right _ (List.mem_append_right _ (List.mem_append_right _ (List.mem_append_right _ (List.mem_append_right _ (List.mem_append_right _ (List.mem_append_right _ (List.mem_append_left _ (List.mem_of_getElem? (i := 19) rfl)))))))))))))))) (fun _ h9 => h9) rfl (by decide +kernel) rfl rfl (Nat.le_of_ble_eq_true rfl) (fun _ _ => rfl) rfl d_MO_layLine_514 (fun H locs hP hD hS => ?_)
        obtain ⟨M_10, eM_10⟩ : ∃ q_, q_ = mset R3 (0) (16) ((R3 (0) 16 + 1)) := ⟨_, rfl⟩
        have hP : va_P D vwCl (mo_w ad cs M_10) H := by rw [eM_10]; exact hP
        have hD : va_D (va_A (mo_w ad cs M) s.heap.size) (mo_w ad cs M_10) := by rw [eM_10]; exact hD
        have hM : M_10 = r_la M q n a b nl la := by rw [hRF, eM_10, hR16]
        have eW : mo_w ad cs (M_10) = mo_w ad cs (r_la M q n a b nl la) := by rw [hM]
        have hP := Eq.mp (congrArg (fun q => va_P D vwCl q _) eW) hP
        have hD := Eq.mp (congrArg (va_D _) eW) hD
        exact W.vret hx hb hr (fun t ht hW => ⟨⟨(), rfl, trivial, by rw [ht]; exact hP, va_K.moved hW.alike hK, hD⟩, hS.F ht⟩) hS.2.2 d_MO_layLine_517
    · refine lv_iload hx hb d_MO_layLine_120 (lv_at hl 2 rfl) ?_
      refine lv_goto (tgt := 139) hx hb d_MO_layLine_122 (by decide) ?_
      have hmvv : rest = r_mv M q n a b := by unfold r_mv; rw [← erest, if_pos c_117]
      refine lv_topi (fun y_ ey => ?_)
      have ey := ey.trans (congrArg iI hmvv)
      subst ey
      refine z_iast hx hb hK hP hD hS (19) 0 (by decide) (fun _ => rfl) rfl (v := r_mv M q n a b) (nl) rfl (by omega) (by decide) d_MO_layLine_139 (fun H locs hP hD hS => ?_)
      obtain ⟨M_11, eM_11⟩ : ∃ q_, q_ = mset M_6 (19) (nl) (r_mv M q n a b) := ⟨_, rfl⟩
      have hP : va_P D vwCl (mo_w ad cs M_11) H := by rw [eM_11]; exact hP
      have hD : va_D (va_A (mo_w ad cs M) s.heap.size) (mo_w ad cs M_11) := by rw [eM_11]; exact hD
      have hq7 : eqb 9 19 M_11 M := by rw [eM_11]; exact eqb_set hq6 (by omega) (by omega)
      have hT7 : rT M_11 := by unfold rT; rw [hq7 6 (by omega), hq7 7 (by omega), hq7 8 (by omega), hq7 0 (by omega)]; exact ht
      have hA1 : M_11 = r_la1 M q n a b nl := by rw [eM_11, eM_6, eM_5, eM_4, eM_3, eM_2, eM_1]; unfold r_la1; rw [← erv]
      have f6 : M_11 6 = M 6 := hq7 6 (by omega)
      have f8 : M_11 8 = M 8 := hq7 8 (by omega)
      have f2 : M_11 2 = M 2 := hq7 2 (by omega)
      have f9 : M_11 9 = rv.2 9 := by rw [eM_11, eM_6, eM_5, eM_4, eM_3, eM_2, eM_1, mset_ne (by omega), mset_ne (by omega), mset_ne (by omega), mset_ne (by omega), mset_ne (by omega), mset_ne (by omega)]
      have f10 : M_11 10 = rv.2 10 := by rw [eM_11, eM_6, eM_5, eM_4, eM_3, eM_2, eM_1, mset_ne (by omega), mset_ne (by omega), mset_ne (by omega), mset_ne (by omega), mset_ne (by omega), mset_ne (by omega)]
      obtain ⟨R3, eR3⟩ : ∃ q_, q_ = r_l3 (M 6) (rv.2 9) (rv.2 10) (p_solid (M 6) a b) (r_gaps M a b) (r_sprd M q a b la) rest ((nl : Nat) : Int) (b - a) a (r_mv M q n a b) 0 ((q_gc (M 6) (p_solid (M 6) a b - a) a 0 : Nat) : Int) (r_la2 M q n a b nl la) := ⟨_, rfl⟩
      have hRF : r_la M q n a b nl la = mset R3 0 16 (((nl : Nat) : Int) + 1) := by rw [eR3, erv, erest]; rfl
      have hR16 : R3 0 16 = ((nl : Nat) : Int) := by rw [eR3, r_l3_eq _ _ _ _ _ _ _ _ _ _ _ _ _ _ 0 (by omega)]; unfold r_la2; rw [mset_ne (by omega), mset_ne (by omega), ← hA1, hq7 0 (by omega)]; exact hn
      refine r_ll140 hx hb hml hg hown hK hA q a b (p_solid (M 6) a b) nl (r_gaps M a b) (r_mv M q n a b) (r_sprd M q a b la) rest (M 2 (11 * q + 5)) (M 2 (11 * q + 10)) (r_mh (M 8) (b - a) a (M 2 (11 * q + 10))) la hq ha6 hb6 (by omega) hn6 hre h5 (by rw [f6]; exact zb_6 ht) (by rw [f8]; exact ht.2.2.1) (by rw [eM_11]; exact mset_same _ _ _ _) (by rw [f2]) h10 (by rw [f8]) (by rw [f6]; rfl) (by rw [f6]; rfl) R3 (by rw [f6, f9, f10, eR3]; unfold r_la2; rw [← hA1, ← erest]) (fun H locs ls hP hD hS hl => ?_) H locs ls hP hD hS (lv_sub hl [0, 1, 2, 4, 5, 6, 7, 8, 9] rfl)
      refine lv_aload_n hx hb d_MO_layLine_507 rfl (lv_at hl 0 rfl) ?_
      refine lv_dup hx hb d_MO_layLine_508 rfl ?_
      refine z_get (ci := 7) (C := R_MO) (T := T_MO) (N := 32) (v := .int (iI (R3 (0) 16))) hx hb hg in_MO hown hK hP (0) (by decide) rfl rfl 16 (by decide) (hg _ (List.mem_append_right _ (List.mem_append_right _ (List.mem_append_right _ (List.mem_append_right _ (List.mem_append_right _ (List.mem_append_right _ (List.mem_append_right _ (List.mem_append_right _ (List.mem_append_right _ (List.mem_append_right _ (List.mem_append_right _ (List.mem_append_right _ (List.mem_append_right _ (List.mem_append_left _ (List.mem_of_getElem? (i := 19) rfl)))))))))))))))) (fun _ h9 => h9) rfl d_MO_layLine_509 ?_
      refine z_iconst hx hb (z := 1) d_MO_layLine_512 ?_
      refine z_iadd hx hb d_MO_layLine_513 (v := (R3 (0) 16 + 1)) rfl ?_
      refine z_put (ci := 7) (C := R_MO) (T := T_MO) (N := 32) (v := .int (iI ((R3 (0) 16 + 1)))) (ty := .int) (ce' := (mo_ce ad cs)) (r := va_up (R3 (0)) 16 ((R3 (0) 16 + 1))) hx hb hg in_MO ty_MO tk_MO nm_MO hown hK hP hD hS (0) (by decide) rfl rfl 16 (by decide) (hg _ (List.mem_append_right _ (List.mem_append_right _ (List.mem_append_right _ (List.mem_append_right _ (List.mem_append_right _ (List.mem_append_right _ (List.mem_append_right _ (List.mem_append_right _ (List.mem_append_right _ (List.mem_append_right _ (List.mem_append_right _ (List.mem_append_right _ (List.mem_append_right _ (List.mem_append_left _ (List.mem_of_getElem? (i := 19) rfl)))))))))))))))) (fun _ h9 => h9) rfl (by decide +kernel) rfl rfl (Nat.le_of_ble_eq_true rfl) (fun _ _ => rfl) rfl d_MO_layLine_514 (fun H locs hP hD hS => ?_)
      obtain ⟨M_12, eM_12⟩ : ∃ q_, q_ = mset R3 (0) (16) ((R3 (0) 16 + 1)) := ⟨_, rfl⟩
      have hP : va_P D vwCl (mo_w ad cs M_12) H := by rw [eM_12]; exact hP
      have hD : va_D (va_A (mo_w ad cs M) s.heap.size) (mo_w ad cs M_12) := by rw [eM_12]; exact hD
      have hM : M_12 = r_la M q n a b nl la := by rw [hRF, eM_12, hR16]
      have eW : mo_w ad cs (M_12) = mo_w ad cs (r_la M q n a b nl la) := by rw [hM]
      have hP := Eq.mp (congrArg (fun q => va_P D vwCl q _) eW) hP
      have hD := Eq.mp (congrArg (va_D _) eW) hD
      exact W.vret hx hb hr (fun t ht hW => ⟨⟨(), rfl, trivial, by rw [ht]; exact hP, va_K.moved hW.alike hK, hD⟩, hS.F ht⟩) hS.2.2 d_MO_layLine_517
  · refine lv_aload_n hx hb d_MO_layLine_25 rfl (lv_at hl 2 rfl) ?_
    refine lv_iload_n hx hb d_MO_layLine_26 rfl (lv_at hl 3 rfl) ?_
    refine ro_V (As := [.int (iI (((q : Nat) : Int)))]) (rest := []) (z := r_room M q) ⟨hx, hb, hml, hown, hg⟩ (hrr ▸ r_roomc l q hq) (cwV 1 hg (gt_V (List.mem_append_right _ (List.mem_append_right _ (List.mem_append_right _ (List.mem_append_right _ (List.mem_append_right _ (List.mem_append_right _ (List.mem_append_right _ (List.mem_append_right _ (List.mem_append_right _ (List.mem_append_right _ (List.mem_append_right _ (List.mem_append_right _ (List.mem_append_right _ (List.mem_append_right _ (List.mem_append_right _ (List.mem_append_right _ (List.mem_append_left _ (List.mem_of_getElem? (i := 21) rfl)))))))))))))))))) (List.mem_append_right _ (List.mem_append_right _ (List.mem_append_right _ (List.mem_append_right _ (List.mem_append_right _ (List.mem_append_right _ (List.mem_append_right _ (List.mem_append_right _ (List.mem_append_right _ (List.mem_append_right _ (List.mem_append_right _ (List.mem_append_right _ (List.mem_append_right _ (List.mem_append_right _ (List.mem_append_right _ (List.mem_append_right _ (List.mem_append_left _ (List.mem_of_getElem? (i := 22) rfl)))))))))))))))))) (List.mem_append_left _ (List.mem_of_getElem? (i := 33) rfl)) (List.mem_append_right _ (List.mem_append_left _ (List.mem_of_getElem? (i := 9) rfl))) (List.mem_append_right _ (List.mem_append_right _ (List.mem_append_right _ (List.mem_append_right _ (List.mem_append_right _ (List.mem_append_right _ (List.mem_append_right _ (List.mem_append_right _ (List.mem_append_right _ (List.mem_append_right _ (List.mem_append_right _ (List.mem_append_right _ (List.mem_append_right _ (List.mem_append_right _ (List.mem_append_right _ (List.mem_append_right _ (List.mem_append_left _ (List.mem_of_getElem? (i := 23) rfl))))))))))))))))))) rfl rfl rfl (by decide +kernel) ⟨Nat.le_of_ble_eq_true rfl, Nat.le_of_ble_eq_true rfl⟩) hK hP (va_recv hK hP (ci := 7) (q0 := 0) rfl (wl_atE (by decide) rfl)) rfl hl.1 rfl (Nat.le_of_ble_eq_true rfl) d_MO_layLine_27 ⟨Nat.zero_le _, Nat.zero_le _⟩ ?_
    refine lv_iload hx hb d_MO_layLine_30 (lv_at hl 0 rfl) ?_
    refine z_isub hx hb d_MO_layLine_32 (v := (r_room M q - rv.1)) rfl ?_
    refine lv_goto (tgt := 37) hx hb d_MO_layLine_33 (by decide) ?_
    have hrs : (r_room M q - rv.1) = rest := by rw [hre0]; split <;> omega
    refine lv_topi (fun y_ ey => ?_)
    have ey := ey.trans (congrArg iI hrs)
    subst ey
    refine lv_istore (lv' := [(7, .int (iI (rest))), (6, .int (iI (rv.1))), (5, .int (iI (((nl : Nat) : Int)))), (0, .ref (ad (0))), (1, .int (iI (((q : Nat) : Int)))), (2, .int (iI (((a : Nat) : Int)))), (3, .int (iI (((b : Nat) : Int)))), (4, .int (iI (bz (la = true) inferInstance)))]) hx hb d_MO_layLine_37 hl (by decide) rfl (fun ls hl => ?_)
    refine lv_aload_n hx hb d_MO_layLine_39 rfl (lv_at hl 3 rfl) ?_
    refine z_get (ci := 7) (C := R_MO) (T := T_MO) (N := 32) (v := .ref (ad (2))) hx hb hg in_MO hown hK hP (0) (by decide) rfl rfl 6 (by decide) (hg _ (List.mem_append_right _ (List.mem_append_right _ (List.mem_append_right _ (List.mem_append_right _ (List.mem_append_right _ (List.mem_append_right _ (List.mem_append_right _ (List.mem_append_right _ (List.mem_append_right _ (List.mem_append_right _ (List.mem_append_right _ (List.mem_append_right _ (List.mem_append_right _ (List.mem_append_left _ (List.mem_of_getElem? (i := 9) rfl)))))))))))))))) (fun _ h9 => h9) rfl d_MO_layLine_40 ?_
    refine z_bipush hx hb (z := 11) d_MO_layLine_43 (by decide) ?_
    refine lv_iload_n hx hb d_MO_layLine_45 rfl (lv_at hl 4 rfl) ?_
    refine z_imul hx hb d_MO_layLine_46 (v := ((11 * q : Nat) : Int)) (by omega) ?_
    refine z_iconst hx hb (z := 5) d_MO_layLine_47 ?_
    refine z_iadd hx hb d_MO_layLine_48 (v := ((11 * q + 5 : Nat) : Int)) (by omega) ?_
    refine z_iald hx hb hK hP (2) 0 (by decide) (fun _ => rfl) rfl (11 * q + 5) rfl (by omega) (by decide) d_MO_layLine_49 ?_
    have hal : M_1 (2) (11 * q + 5) = M 2 (11 * q + 5) := by rw [hq1 2 (by omega)]
    refine lv_topi (fun y_ ey => ?_)
    have ey := ey.trans (congrArg iI hal)
    subst ey
    refine lv_istore (lv' := [(8, .int (iI (M 2 (11 * q + 5)))), (7, .int (iI (rest))), (6, .int (iI (rv.1))), (5, .int (iI (((nl : Nat) : Int)))), (0, .ref (ad (0))), (1, .int (iI (((q : Nat) : Int)))), (2, .int (iI (((a : Nat) : Int)))), (3, .int (iI (((b : Nat) : Int)))), (4, .int (iI (bz (la = true) inferInstance)))]) hx hb d_MO_layLine_50 hl (by decide) rfl (fun ls hl => ?_)
    refine lv_aload_n hx hb d_MO_layLine_52 rfl (lv_at hl 4 rfl) ?_
    refine lv_iload_n hx hb d_MO_layLine_53 rfl (lv_at hl 6 rfl) ?_
    refine lv_iload_n hx hb d_MO_layLine_54 rfl (lv_at hl 7 rfl) ?_
    refine ro_V (As := [.int (iI (((a : Nat) : Int))), .int (iI (((b : Nat) : Int)))]) (rest := []) (z := ((p_solid (M 6) a b : Nat) : Int)) ⟨hx, hb, hml, hown, hg⟩ ((congrArg (fun z => ((p_solid z a b : Nat) : Int)) e6) ▸ r_trailing l a b ha6 hb6 (zb_6 hT1)) (cwV 2 hg (gt_V (List.mem_append_right _ (List.mem_append_right _ (List.mem_append_right _ (List.mem_append_right _ (List.mem_append_right _ (List.mem_append_right _ (List.mem_append_right _ (List.mem_append_right _ (List.mem_append_right _ (List.mem_append_right _ (List.mem_append_right _ (List.mem_append_right _ (List.mem_append_right _ (List.mem_append_right _ (List.mem_append_right _ (List.mem_append_right _ (List.mem_append_left _ (List.mem_of_getElem? (i := 6) rfl)))))))))))))))))) (List.mem_append_right _ (List.mem_append_right _ (List.mem_append_right _ (List.mem_append_right _ (List.mem_append_right _ (List.mem_append_right _ (List.mem_append_right _ (List.mem_append_right _ (List.mem_append_right _ (List.mem_append_right _ (List.mem_append_right _ (List.mem_append_right _ (List.mem_append_right _ (List.mem_append_right _ (List.mem_append_right _ (List.mem_append_right _ (List.mem_append_left _ (List.mem_of_getElem? (i := 7) rfl)))))))))))))))))) (List.mem_append_left _ (List.mem_of_getElem? (i := 28) rfl)) (List.mem_append_right _ (List.mem_append_left _ (List.mem_of_getElem? (i := 9) rfl))) (List.mem_append_right _ (List.mem_append_right _ (List.mem_append_right _ (List.mem_append_right _ (List.mem_append_right _ (List.mem_append_right _ (List.mem_append_right _ (List.mem_append_right _ (List.mem_append_right _ (List.mem_append_right _ (List.mem_append_right _ (List.mem_append_right _ (List.mem_append_right _ (List.mem_append_right _ (List.mem_append_right _ (List.mem_append_right _ (List.mem_append_left _ (List.mem_of_getElem? (i := 8) rfl))))))))))))))))))) rfl rfl rfl (by decide +kernel) ⟨Nat.le_of_ble_eq_true rfl, Nat.le_of_ble_eq_true rfl⟩) hK hP (va_recv hK hP (ci := 7) (q0 := 0) rfl (wl_atE (by decide) rfl)) rfl hl.1 rfl (Nat.le_of_ble_eq_true rfl) d_MO_layLine_55 ⟨Nat.zero_le _, Nat.zero_le _⟩ ?_
    refine lv_istore (lv' := [(9, .int (iI (((p_solid (M 6) a b : Nat) : Int)))), (8, .int (iI (M 2 (11 * q + 5)))), (7, .int (iI (rest))), (6, .int (iI (rv.1))), (5, .int (iI (((nl : Nat) : Int)))), (0, .ref (ad (0))), (1, .int (iI (((q : Nat) : Int)))), (2, .int (iI (((a : Nat) : Int)))), (3, .int (iI (((b : Nat) : Int)))), (4, .int (iI (bz (la = true) inferInstance)))]) hx hb d_MO_layLine_58 hl (by decide) rfl (fun ls hl => ?_)
    refine lv_aload_n hx hb d_MO_layLine_60 rfl (lv_at hl 5 rfl) ?_
    refine z_get (ci := 7) (C := R_MO) (T := T_MO) (N := 32) (v := .ref (ad (11))) hx hb hg in_MO hown hK hP (0) (by decide) rfl rfl 17 (by decide) (hg _ (List.mem_append_right _ (List.mem_append_right _ (List.mem_append_right _ (List.mem_append_right _ (List.mem_append_right _ (List.mem_append_right _ (List.mem_append_right _ (List.mem_append_right _ (List.mem_append_right _ (List.mem_append_right _ (List.mem_append_right _ (List.mem_append_right _ (List.mem_append_right _ (List.mem_append_left _ (List.mem_of_getElem? (i := 20) rfl)))))))))))))))) (fun _ h9 => h9) rfl d_MO_layLine_61 ?_
    refine lv_iload hx hb d_MO_layLine_64 (lv_at hl 4 rfl) ?_
    refine lv_iload_n hx hb d_MO_layLine_66 rfl (lv_at hl 6 rfl) ?_
    refine z_iast hx hb hK hP hD hS (11) 0 (by decide) (fun _ => rfl) rfl (v := ((q : Nat) : Int)) (nl) rfl (by omega) (by decide) d_MO_layLine_67 (fun H locs hP hD hS => ?_)
    obtain ⟨M_13, eM_13⟩ : ∃ q_, q_ = mset M_1 (11) (nl) (((q : Nat) : Int)) := ⟨_, rfl⟩
    have hP : va_P D vwCl (mo_w ad cs M_13) H := by rw [eM_13]; exact hP
    have hD : va_D (va_A (mo_w ad cs M) s.heap.size) (mo_w ad cs M_13) := by rw [eM_13]; exact hD
    have hq2 : eqb 9 19 M_13 M := by rw [eM_13]; exact eqb_set hq1 (by omega) (by omega)
    have hT2 : rT M_13 := by unfold rT; rw [hq2 6 (by omega), hq2 7 (by omega), hq2 8 (by omega), hq2 0 (by omega)]; exact ht
    refine lv_aload_n hx hb d_MO_layLine_68 rfl (lv_at hl 5 rfl) ?_
    refine z_get (ci := 7) (C := R_MO) (T := T_MO) (N := 32) (v := .ref (ad (12))) hx hb hg in_MO hown hK hP (0) (by decide) rfl rfl 18 (by decide) (hg _ (List.mem_append_right _ (List.mem_append_right _ (List.mem_append_right _ (List.mem_append_right _ (List.mem_append_right _ (List.mem_append_right _ (List.mem_append_right _ (List.mem_append_right _ (List.mem_append_right _ (List.mem_append_right _ (List.mem_append_right _ (List.mem_append_right _ (List.mem_append_right _ (List.mem_append_left _ (List.mem_of_getElem? (i := 21) rfl)))))))))))))))) (fun _ h9 => h9) rfl d_MO_layLine_69 ?_
    refine lv_iload hx hb d_MO_layLine_72 (lv_at hl 4 rfl) ?_
    refine lv_iload_n hx hb d_MO_layLine_74 rfl (lv_at hl 7 rfl) ?_
    refine z_iast hx hb hK hP hD hS (12) 0 (by decide) (fun _ => rfl) rfl (v := ((a : Nat) : Int)) (nl) rfl (by omega) (by decide) d_MO_layLine_75 (fun H locs hP hD hS => ?_)
    obtain ⟨M_14, eM_14⟩ : ∃ q_, q_ = mset M_13 (12) (nl) (((a : Nat) : Int)) := ⟨_, rfl⟩
    have hP : va_P D vwCl (mo_w ad cs M_14) H := by rw [eM_14]; exact hP
    have hD : va_D (va_A (mo_w ad cs M) s.heap.size) (mo_w ad cs M_14) := by rw [eM_14]; exact hD
    have hq3 : eqb 9 19 M_14 M := by rw [eM_14]; exact eqb_set hq2 (by omega) (by omega)
    have hT3 : rT M_14 := by unfold rT; rw [hq3 6 (by omega), hq3 7 (by omega), hq3 8 (by omega), hq3 0 (by omega)]; exact ht
    refine lv_aload_n hx hb d_MO_layLine_76 rfl (lv_at hl 5 rfl) ?_
    refine z_get (ci := 7) (C := R_MO) (T := T_MO) (N := 32) (v := .ref (ad (13))) hx hb hg in_MO hown hK hP (0) (by decide) rfl rfl 19 (by decide) (hg _ (List.mem_append_right _ (List.mem_append_right _ (List.mem_append_right _ (List.mem_append_right _ (List.mem_append_right _ (List.mem_append_right _ (List.mem_append_right _ (List.mem_append_right _ (List.mem_append_right _ (List.mem_append_right _ (List.mem_append_right _ (List.mem_append_right _ (List.mem_append_right _ (List.mem_append_left _ (List.mem_of_getElem? (i := 22) rfl)))))))))))))))) (fun _ h9 => h9) rfl d_MO_layLine_77 ?_
    refine lv_iload hx hb d_MO_layLine_80 (lv_at hl 4 rfl) ?_
    refine lv_iload_n hx hb d_MO_layLine_82 rfl (lv_at hl 8 rfl) ?_
    refine lv_iload_n hx hb d_MO_layLine_83 rfl (lv_at hl 7 rfl) ?_
    refine z_isub hx hb d_MO_layLine_84 (v := (((b : Nat) : Int) - ((a : Nat) : Int))) rfl ?_
    refine z_iast hx hb hK hP hD hS (13) 0 (by decide) (fun _ => rfl) rfl (v := (((b : Nat) : Int) - ((a : Nat) : Int))) (nl) rfl (by omega) (by decide) d_MO_layLine_85 (fun H locs hP hD hS => ?_)
    obtain ⟨M_15, eM_15⟩ : ∃ q_, q_ = mset M_14 (13) (nl) ((((b : Nat) : Int) - ((a : Nat) : Int))) := ⟨_, rfl⟩
    have hP : va_P D vwCl (mo_w ad cs M_15) H := by rw [eM_15]; exact hP
    have hD : va_D (va_A (mo_w ad cs M) s.heap.size) (mo_w ad cs M_15) := by rw [eM_15]; exact hD
    have hq4 : eqb 9 19 M_15 M := by rw [eM_15]; exact eqb_set hq3 (by omega) (by omega)
    have hT4 : rT M_15 := by unfold rT; rw [hq4 6 (by omega), hq4 7 (by omega), hq4 8 (by omega), hq4 0 (by omega)]; exact ht
    refine lv_aload_n hx hb d_MO_layLine_86 rfl (lv_at hl 5 rfl) ?_
    refine z_get (ci := 7) (C := R_MO) (T := T_MO) (N := 32) (v := .ref (ad (14))) hx hb hg in_MO hown hK hP (0) (by decide) rfl rfl 20 (by decide) (hg _ (List.mem_append_right _ (List.mem_append_right _ (List.mem_append_right _ (List.mem_append_right _ (List.mem_append_right _ (List.mem_append_right _ (List.mem_append_right _ (List.mem_append_right _ (List.mem_append_right _ (List.mem_append_right _ (List.mem_append_right _ (List.mem_append_right _ (List.mem_append_right _ (List.mem_append_left _ (List.mem_of_getElem? (i := 23) rfl)))))))))))))))) (fun _ h9 => h9) rfl d_MO_layLine_87 ?_
    refine lv_iload hx hb d_MO_layLine_90 (lv_at hl 4 rfl) ?_
    refine lv_aload_n hx hb d_MO_layLine_92 rfl (lv_at hl 5 rfl) ?_
    refine lv_iload_n hx hb d_MO_layLine_93 rfl (lv_at hl 6 rfl) ?_
    refine lv_iload_n hx hb d_MO_layLine_94 rfl (lv_at hl 7 rfl) ?_
    have hbg : r_beg M_15 q a = r_beg M q a := by unfold r_beg; rw [hq4 2 (by omega), hq4 1 (by omega)]
    refine ro_V (As := [.int (iI (((q : Nat) : Int))), .int (iI (((a : Nat) : Int)))]) (rest := [.int (iI (((nl : Nat) : Int))), .ref (ad (14))]) (z := r_beg M q a) ⟨hx, hb, hml, hown, hg⟩ (hbg ▸ r_beginning l q a hq ha6 (by unfold rS; rw [hq4 2 (by omega)]; exact hs) (by rw [hq4 1 (by omega)]; exact hb1)) (cwV 2 hg (gt_V (List.mem_append_right _ (List.mem_append_right _ (List.mem_append_right _ (List.mem_append_right _ (List.mem_append_right _ (List.mem_append_right _ (List.mem_append_right _ (List.mem_append_right _ (List.mem_append_right _ (List.mem_append_right _ (List.mem_append_right _ (List.mem_append_right _ (List.mem_append_right _ (List.mem_append_right _ (List.mem_append_right _ (List.mem_append_right _ (List.mem_append_left _ (List.mem_of_getElem? (i := 9) rfl)))))))))))))))))) (List.mem_append_right _ (List.mem_append_right _ (List.mem_append_right _ (List.mem_append_right _ (List.mem_append_right _ (List.mem_append_right _ (List.mem_append_right _ (List.mem_append_right _ (List.mem_append_right _ (List.mem_append_right _ (List.mem_append_right _ (List.mem_append_right _ (List.mem_append_right _ (List.mem_append_right _ (List.mem_append_right _ (List.mem_append_right _ (List.mem_append_left _ (List.mem_of_getElem? (i := 10) rfl)))))))))))))))))) (List.mem_append_left _ (List.mem_of_getElem? (i := 29) rfl)) (List.mem_append_right _ (List.mem_append_left _ (List.mem_of_getElem? (i := 9) rfl))) (List.mem_append_right _ (List.mem_append_right _ (List.mem_append_right _ (List.mem_append_right _ (List.mem_append_right _ (List.mem_append_right _ (List.mem_append_right _ (List.mem_append_right _ (List.mem_append_right _ (List.mem_append_right _ (List.mem_append_right _ (List.mem_append_right _ (List.mem_append_right _ (List.mem_append_right _ (List.mem_append_right _ (List.mem_append_right _ (List.mem_append_left _ (List.mem_of_getElem? (i := 11) rfl))))))))))))))))))) rfl rfl rfl (by decide +kernel) ⟨Nat.le_of_ble_eq_true rfl, Nat.le_of_ble_eq_true rfl⟩) hK hP (va_recv hK hP (ci := 7) (q0 := 0) rfl (wl_atE (by decide) rfl)) rfl hl.1 rfl (Nat.le_of_ble_eq_true rfl) d_MO_layLine_95 ⟨Nat.zero_le _, Nat.zero_le _⟩ ?_
    refine z_iast hx hb hK hP hD hS (14) 0 (by decide) (fun _ => rfl) rfl (v := r_beg M q a) (nl) rfl (by omega) (by decide) d_MO_layLine_98 (fun H locs hP hD hS => ?_)
    obtain ⟨M_16, eM_16⟩ : ∃ q_, q_ = mset M_15 (14) (nl) (r_beg M q a) := ⟨_, rfl⟩
    have hP : va_P D vwCl (mo_w ad cs M_16) H := by rw [eM_16]; exact hP
    have hD : va_D (va_A (mo_w ad cs M) s.heap.size) (mo_w ad cs M_16) := by rw [eM_16]; exact hD
    have hq5 : eqb 9 19 M_16 M := by rw [eM_16]; exact eqb_set hq4 (by omega) (by omega)
    have hT5 : rT M_16 := by unfold rT; rw [hq5 6 (by omega), hq5 7 (by omega), hq5 8 (by omega), hq5 0 (by omega)]; exact ht
    refine lv_aload_n hx hb d_MO_layLine_99 rfl (lv_at hl 5 rfl) ?_
    refine z_get (ci := 7) (C := R_MO) (T := T_MO) (N := 32) (v := .ref (ad (15))) hx hb hg in_MO hown hK hP (0) (by decide) rfl rfl 21 (by decide) (hg _ (List.mem_append_right _ (List.mem_append_right _ (List.mem_append_right _ (List.mem_append_right _ (List.mem_append_right _ (List.mem_append_right _ (List.mem_append_right _ (List.mem_append_right _ (List.mem_append_right _ (List.mem_append_right _ (List.mem_append_right _ (List.mem_append_right _ (List.mem_append_right _ (List.mem_append_left _ (List.mem_of_getElem? (i := 24) rfl)))))))))))))))) (fun _ h9 => h9) rfl d_MO_layLine_100 ?_
    refine lv_iload hx hb d_MO_layLine_103 (lv_at hl 4 rfl) ?_
    refine lv_iload hx hb d_MO_layLine_105 (lv_at hl 3 rfl) ?_
    refine z_iast hx hb hK hP hD hS (15) 0 (by decide) (fun _ => rfl) rfl (v := rv.1) (nl) rfl (by omega) (by decide) d_MO_layLine_107 (fun H locs hP hD hS => ?_)
    obtain ⟨M_17, eM_17⟩ : ∃ q_, q_ = mset M_16 (15) (nl) (rv.1) := ⟨_, rfl⟩
    have hP : va_P D vwCl (mo_w ad cs M_17) H := by rw [eM_17]; exact hP
    have hD : va_D (va_A (mo_w ad cs M) s.heap.size) (mo_w ad cs M_17) := by rw [eM_17]; exact hD
    have hq6 : eqb 9 19 M_17 M := by rw [eM_17]; exact eqb_set hq5 (by omega) (by omega)
    have hT6 : rT M_17 := by unfold rT; rw [hq6 6 (by omega), hq6 7 (by omega), hq6 8 (by omega), hq6 0 (by omega)]; exact ht
    refine lv_aload_n hx hb d_MO_layLine_108 rfl (lv_at hl 5 rfl) ?_
    refine z_get (ci := 7) (C := R_MO) (T := T_MO) (N := 32) (v := .ref (ad (19))) hx hb hg in_MO hown hK hP (0) (by decide) rfl rfl 25 (by decide) (hg _ (List.mem_append_right _ (List.mem_append_right _ (List.mem_append_right _ (List.mem_append_right _ (List.mem_append_right _ (List.mem_append_right _ (List.mem_append_right _ (List.mem_append_right _ (List.mem_append_right _ (List.mem_append_right _ (List.mem_append_right _ (List.mem_append_right _ (List.mem_append_right _ (List.mem_append_left _ (List.mem_of_getElem? (i := 28) rfl)))))))))))))))) (fun _ h9 => h9) rfl d_MO_layLine_109 ?_
    refine lv_iload hx hb d_MO_layLine_112 (lv_at hl 4 rfl) ?_
    refine lv_iload hx hb d_MO_layLine_114 (lv_at hl 1 rfl) ?_
    refine z_iconst hx hb (z := 1) d_MO_layLine_116 ?_
    refine z_icmp_ne hx hb (tgt := 125) d_MO_layLine_117 (by decide) ⟨by omega, by omega⟩ ⟨by decide, by decide⟩ (fun c_117 => ?_) (fun c_117 => ?_)
    · refine lv_iload hx hb d_MO_layLine_125 (lv_at hl 1 rfl) ?_
      refine z_iconst hx hb (z := 2) d_MO_layLine_127 ?_
      refine z_icmp_ne hx hb (tgt := 138) d_MO_layLine_128 (by decide) ⟨by omega, by omega⟩ ⟨by decide, by decide⟩ (fun c_128 => ?_) (fun c_128 => ?_)
      · refine z_iconst hx hb (z := 0) d_MO_layLine_138 ?_
        have hmvv : 0 = r_mv M q n a b := by unfold r_mv; rw [← erest, if_neg c_117, if_neg c_128]
        refine lv_topi (fun y_ ey => ?_)
        have ey := ey.trans (congrArg iI hmvv)
        subst ey
        refine z_iast hx hb hK hP hD hS (19) 0 (by decide) (fun _ => rfl) rfl (v := r_mv M q n a b) (nl) rfl (by omega) (by decide) d_MO_layLine_139 (fun H locs hP hD hS => ?_)
        obtain ⟨M_18, eM_18⟩ : ∃ q_, q_ = mset M_17 (19) (nl) (r_mv M q n a b) := ⟨_, rfl⟩
        have hP : va_P D vwCl (mo_w ad cs M_18) H := by rw [eM_18]; exact hP
        have hD : va_D (va_A (mo_w ad cs M) s.heap.size) (mo_w ad cs M_18) := by rw [eM_18]; exact hD
        have hq7 : eqb 9 19 M_18 M := by rw [eM_18]; exact eqb_set hq6 (by omega) (by omega)
        have hT7 : rT M_18 := by unfold rT; rw [hq7 6 (by omega), hq7 7 (by omega), hq7 8 (by omega), hq7 0 (by omega)]; exact ht
        have hA1 : M_18 = r_la1 M q n a b nl := by rw [eM_18, eM_17, eM_16, eM_15, eM_14, eM_13, eM_1]; unfold r_la1; rw [← erv]
        have f6 : M_18 6 = M 6 := hq7 6 (by omega)
        have f8 : M_18 8 = M 8 := hq7 8 (by omega)
        have f2 : M_18 2 = M 2 := hq7 2 (by omega)
        have f9 : M_18 9 = rv.2 9 := by rw [eM_18, eM_17, eM_16, eM_15, eM_14, eM_13, eM_1, mset_ne (by omega), mset_ne (by omega), mset_ne (by omega), mset_ne (by omega), mset_ne (by omega), mset_ne (by omega)]
        have f10 : M_18 10 = rv.2 10 := by rw [eM_18, eM_17, eM_16, eM_15, eM_14, eM_13, eM_1, mset_ne (by omega), mset_ne (by omega), mset_ne (by omega), mset_ne (by omega), mset_ne (by omega), mset_ne (by omega)]
        obtain ⟨R3, eR3⟩ : ∃ q_, q_ = r_l3 (M 6) (rv.2 9) (rv.2 10) (p_solid (M 6) a b) (r_gaps M a b) (r_sprd M q a b la) rest ((nl : Nat) : Int) (b - a) a (r_mv M q n a b) 0 ((q_gc (M 6) (p_solid (M 6) a b - a) a 0 : Nat) : Int) (r_la2 M q n a b nl la) := ⟨_, rfl⟩
        have hRF : r_la M q n a b nl la = mset R3 0 16 (((nl : Nat) : Int) + 1) := by rw [eR3, erv, erest]; rfl
        have hR16 : R3 0 16 = ((nl : Nat) : Int) := by rw [eR3, r_l3_eq _ _ _ _ _ _ _ _ _ _ _ _ _ _ 0 (by omega)]; unfold r_la2; rw [mset_ne (by omega), mset_ne (by omega), ← hA1, hq7 0 (by omega)]; exact hn
        refine r_ll140 hx hb hml hg hown hK hA q a b (p_solid (M 6) a b) nl (r_gaps M a b) (r_mv M q n a b) (r_sprd M q a b la) rest (M 2 (11 * q + 5)) (M 2 (11 * q + 10)) (r_mh (M 8) (b - a) a (M 2 (11 * q + 10))) la hq ha6 hb6 (by omega) hn6 hre h5 (by rw [f6]; exact zb_6 ht) (by rw [f8]; exact ht.2.2.1) (by rw [eM_18]; exact mset_same _ _ _ _) (by rw [f2]) h10 (by rw [f8]) (by rw [f6]; rfl) (by rw [f6]; rfl) R3 (by rw [f6, f9, f10, eR3]; unfold r_la2; rw [← hA1, ← erest]) (fun H locs ls hP hD hS hl => ?_) H locs ls hP hD hS (lv_sub hl [0, 1, 2, 4, 5, 6, 7, 8, 9] rfl)
        refine lv_aload_n hx hb d_MO_layLine_507 rfl (lv_at hl 0 rfl) ?_
        refine lv_dup hx hb d_MO_layLine_508 rfl ?_
        refine z_get (ci := 7) (C := R_MO) (T := T_MO) (N := 32) (v := .int (iI (R3 (0) 16))) hx hb hg in_MO hown hK hP (0) (by decide) rfl rfl 16 (by decide) (hg _ (List.mem_append_right _ (List.mem_append_right _ (List.mem_append_right _ (List.mem_append_right _ (List.mem_append_right _ (List.mem_append_right _ (List.mem_append_right _ (List.mem_append_right _ (List.mem_append_right _ (List.mem_append_right _ (List.mem_append_right _ (List.mem_append_right _ (List.mem_append_right _ (List.mem_append_left _ (List.mem_of_getElem? (i := 19) rfl)))))))))))))))) (fun _ h9 => h9) rfl d_MO_layLine_509 ?_
        refine z_iconst hx hb (z := 1) d_MO_layLine_512 ?_
        refine z_iadd hx hb d_MO_layLine_513 (v := (R3 (0) 16 + 1)) rfl ?_
        refine z_put (ci := 7) (C := R_MO) (T := T_MO) (N := 32) (v := .int (iI ((R3 (0) 16 + 1)))) (ty := .int) (ce' := (mo_ce ad cs)) (r := va_up (R3 (0)) 16 ((R3 (0) 16 + 1))) hx hb hg in_MO ty_MO tk_MO nm_MO hown hK hP hD hS (0) (by decide) rfl rfl 16 (by decide) (hg _ (List.mem_append_right _ (List.mem_append_right _ (List.mem_append_right _ (List.mem_append_right _ (List.mem_append_right _ (List.mem_append_right _ (List.mem_append_right _ (List.mem_append_right _ (List.mem_append_right _ (List.mem_append_right _ (List.mem_append_right _ (List.mem_append_right _ (List.mem_append_right _ (List.mem_append_left _ (List.mem_of_getElem? (i := 19) rfl)))))))))))))))) (fun _ h9 => h9) rfl (by decide +kernel) rfl rfl (Nat.le_of_ble_eq_true rfl) (fun _ _ => rfl) rfl d_MO_layLine_514 (fun H locs hP hD hS => ?_)
        obtain ⟨M_19, eM_19⟩ : ∃ q_, q_ = mset R3 (0) (16) ((R3 (0) 16 + 1)) := ⟨_, rfl⟩
        have hP : va_P D vwCl (mo_w ad cs M_19) H := by rw [eM_19]; exact hP
        have hD : va_D (va_A (mo_w ad cs M) s.heap.size) (mo_w ad cs M_19) := by rw [eM_19]; exact hD
        have hM : M_19 = r_la M q n a b nl la := by rw [hRF, eM_19, hR16]
        have eW : mo_w ad cs (M_19) = mo_w ad cs (r_la M q n a b nl la) := by rw [hM]
        have hP := Eq.mp (congrArg (fun q => va_P D vwCl q _) eW) hP
        have hD := Eq.mp (congrArg (va_D _) eW) hD
        exact W.vret hx hb hr (fun t ht hW => ⟨⟨(), rfl, trivial, by rw [ht]; exact hP, va_K.moved hW.alike hK, hD⟩, hS.F ht⟩) hS.2.2 d_MO_layLine_517
      · refine lv_iload hx hb d_MO_layLine_131 (lv_at hl 2 rfl) ?_
        refine z_iconst hx hb (z := 2) d_MO_layLine_133 ?_
        refine z_idiv hx hb d_MO_layLine_134 ⟨by omega, by omega⟩ ⟨by decide, by decide⟩ (by omega) (v := ((rest).tdiv (2))) rfl ?_
        refine lv_goto (tgt := 139) hx hb d_MO_layLine_135 (by decide) ?_
        have hmvv : ((rest).tdiv (2)) = r_mv M q n a b := by unfold r_mv; rw [← erest, if_neg c_117, if_pos c_128]
        refine lv_topi (fun y_ ey => ?_)
        have ey := ey.trans (congrArg iI hmvv)
        subst ey
        refine z_iast hx hb hK hP hD hS (19) 0 (by decide) (fun _ => rfl) rfl (v := r_mv M q n a b) (nl) rfl (by omega) (by decide) d_MO_layLine_139 (fun H locs hP hD hS => ?_)
        obtain ⟨M_20, eM_20⟩ : ∃ q_, q_ = mset M_17 (19) (nl) (r_mv M q n a b) := ⟨_, rfl⟩
        have hP : va_P D vwCl (mo_w ad cs M_20) H := by rw [eM_20]; exact hP
        have hD : va_D (va_A (mo_w ad cs M) s.heap.size) (mo_w ad cs M_20) := by rw [eM_20]; exact hD
        have hq7 : eqb 9 19 M_20 M := by rw [eM_20]; exact eqb_set hq6 (by omega) (by omega)
        have hT7 : rT M_20 := by unfold rT; rw [hq7 6 (by omega), hq7 7 (by omega), hq7 8 (by omega), hq7 0 (by omega)]; exact ht
        have hA1 : M_20 = r_la1 M q n a b nl := by rw [eM_20, eM_17, eM_16, eM_15, eM_14, eM_13, eM_1]; unfold r_la1; rw [← erv]
        have f6 : M_20 6 = M 6 := hq7 6 (by omega)
        have f8 : M_20 8 = M 8 := hq7 8 (by omega)
        have f2 : M_20 2 = M 2 := hq7 2 (by omega)
        have f9 : M_20 9 = rv.2 9 := by rw [eM_20, eM_17, eM_16, eM_15, eM_14, eM_13, eM_1, mset_ne (by omega), mset_ne (by omega), mset_ne (by omega), mset_ne (by omega), mset_ne (by omega), mset_ne (by omega)]
        have f10 : M_20 10 = rv.2 10 := by rw [eM_20, eM_17, eM_16, eM_15, eM_14, eM_13, eM_1, mset_ne (by omega), mset_ne (by omega), mset_ne (by omega), mset_ne (by omega), mset_ne (by omega), mset_ne (by omega)]
        obtain ⟨R3, eR3⟩ : ∃ q_, q_ = r_l3 (M 6) (rv.2 9) (rv.2 10) (p_solid (M 6) a b) (r_gaps M a b) (r_sprd M q a b la) rest ((nl : Nat) : Int) (b - a) a (r_mv M q n a b) 0 ((q_gc (M 6) (p_solid (M 6) a b - a) a 0 : Nat) : Int) (r_la2 M q n a b nl la) := ⟨_, rfl⟩
        have hRF : r_la M q n a b nl la = mset R3 0 16 (((nl : Nat) : Int) + 1) := by rw [eR3, erv, erest]; rfl
        have hR16 : R3 0 16 = ((nl : Nat) : Int) := by rw [eR3, r_l3_eq _ _ _ _ _ _ _ _ _ _ _ _ _ _ 0 (by omega)]; unfold r_la2; rw [mset_ne (by omega), mset_ne (by omega), ← hA1, hq7 0 (by omega)]; exact hn
        refine r_ll140 hx hb hml hg hown hK hA q a b (p_solid (M 6) a b) nl (r_gaps M a b) (r_mv M q n a b) (r_sprd M q a b la) rest (M 2 (11 * q + 5)) (M 2 (11 * q + 10)) (r_mh (M 8) (b - a) a (M 2 (11 * q + 10))) la hq ha6 hb6 (by omega) hn6 hre h5 (by rw [f6]; exact zb_6 ht) (by rw [f8]; exact ht.2.2.1) (by rw [eM_20]; exact mset_same _ _ _ _) (by rw [f2]) h10 (by rw [f8]) (by rw [f6]; rfl) (by rw [f6]; rfl) R3 (by rw [f6, f9, f10, eR3]; unfold r_la2; rw [← hA1, ← erest]) (fun H locs ls hP hD hS hl => ?_) H locs ls hP hD hS (lv_sub hl [0, 1, 2, 4, 5, 6, 7, 8, 9] rfl)
        refine lv_aload_n hx hb d_MO_layLine_507 rfl (lv_at hl 0 rfl) ?_
        refine lv_dup hx hb d_MO_layLine_508 rfl ?_
        refine z_get (ci := 7) (C := R_MO) (T := T_MO) (N := 32) (v := .int (iI (R3 (0) 16))) hx hb hg in_MO hown hK hP (0) (by decide) rfl rfl 16 (by decide) (hg _ (List.mem_append_right _ (List.mem_append_right _ (List.mem_append_right _ (List.mem_append_right _ (List.mem_append_right _ (List.mem_append_right _ (List.mem_append_right _ (List.mem_append_right _ (List.mem_append_right _ (List.mem_append_right _ (List.mem_append_right _ (List.mem_append_right _ (List.mem_append_right _ (List.mem_append_left _ (List.mem_of_getElem? (i := 19) rfl)))))))))))))))) (fun _ h9 => h9) rfl d_MO_layLine_509 ?_
        refine z_iconst hx hb (z := 1) d_MO_layLine_512 ?_
        refine z_iadd hx hb d_MO_layLine_513 (v := (R3 (0) 16 + 1)) rfl ?_
        refine z_put (ci := 7) (C := R_MO) (T := T_MO) (N := 32) (v := .int (iI ((R3 (0) 16 + 1)))) (ty := .int) (ce' := (mo_ce ad cs)) (r := va_up (R3 (0)) 16 ((R3 (0) 16 + 1))) hx hb hg in_MO ty_MO tk_MO nm_MO hown hK hP hD hS (0) (by decide) rfl rfl 16 (by decide) (hg _ (List.mem_append_right _ (List.mem_append_right _ (List.mem_append_right _ (List.mem_append_right _ (List.mem_append_right _ (List.mem_append_right _ (List.mem_append_right _ (List.mem_append_right _ (List.mem_append_right _ (List.mem_append_right _ (List.mem_append_right _ (List.mem_append_right _ (List.mem_append_right _ (List.mem_append_left _ (List.mem_of_getElem? (i := 19) rfl)))))))))))))))) (fun _ h9 => h9) rfl (by decide +kernel) rfl rfl (Nat.le_of_ble_eq_true rfl) (fun _ _ => rfl) rfl d_MO_layLine_514 (fun H locs hP hD hS => ?_)
        obtain ⟨M_21, eM_21⟩ : ∃ q_, q_ = mset R3 (0) (16) ((R3 (0) 16 + 1)) := ⟨_, rfl⟩
        have hP : va_P D vwCl (mo_w ad cs M_21) H := by rw [eM_21]; exact hP
        have hD : va_D (va_A (mo_w ad cs M) s.heap.size) (mo_w ad cs M_21) := by rw [eM_21]; exact hD
        have hM : M_21 = r_la M q n a b nl la := by rw [hRF, eM_21, hR16]
        have eW : mo_w ad cs (M_21) = mo_w ad cs (r_la M q n a b nl la) := by rw [hM]
        have hP := Eq.mp (congrArg (fun q => va_P D vwCl q _) eW) hP
        have hD := Eq.mp (congrArg (va_D _) eW) hD
        exact W.vret hx hb hr (fun t ht hW => ⟨⟨(), rfl, trivial, by rw [ht]; exact hP, va_K.moved hW.alike hK, hD⟩, hS.F ht⟩) hS.2.2 d_MO_layLine_517
    · refine lv_iload hx hb d_MO_layLine_120 (lv_at hl 2 rfl) ?_
      refine lv_goto (tgt := 139) hx hb d_MO_layLine_122 (by decide) ?_
      have hmvv : rest = r_mv M q n a b := by unfold r_mv; rw [← erest, if_pos c_117]
      refine lv_topi (fun y_ ey => ?_)
      have ey := ey.trans (congrArg iI hmvv)
      subst ey
      refine z_iast hx hb hK hP hD hS (19) 0 (by decide) (fun _ => rfl) rfl (v := r_mv M q n a b) (nl) rfl (by omega) (by decide) d_MO_layLine_139 (fun H locs hP hD hS => ?_)
      obtain ⟨M_22, eM_22⟩ : ∃ q_, q_ = mset M_17 (19) (nl) (r_mv M q n a b) := ⟨_, rfl⟩
      have hP : va_P D vwCl (mo_w ad cs M_22) H := by rw [eM_22]; exact hP
      have hD : va_D (va_A (mo_w ad cs M) s.heap.size) (mo_w ad cs M_22) := by rw [eM_22]; exact hD
      have hq7 : eqb 9 19 M_22 M := by rw [eM_22]; exact eqb_set hq6 (by omega) (by omega)
      have hT7 : rT M_22 := by unfold rT; rw [hq7 6 (by omega), hq7 7 (by omega), hq7 8 (by omega), hq7 0 (by omega)]; exact ht
      have hA1 : M_22 = r_la1 M q n a b nl := by rw [eM_22, eM_17, eM_16, eM_15, eM_14, eM_13, eM_1]; unfold r_la1; rw [← erv]
      have f6 : M_22 6 = M 6 := hq7 6 (by omega)
      have f8 : M_22 8 = M 8 := hq7 8 (by omega)
      have f2 : M_22 2 = M 2 := hq7 2 (by omega)
      have f9 : M_22 9 = rv.2 9 := by rw [eM_22, eM_17, eM_16, eM_15, eM_14, eM_13, eM_1, mset_ne (by omega), mset_ne (by omega), mset_ne (by omega), mset_ne (by omega), mset_ne (by omega), mset_ne (by omega)]
      have f10 : M_22 10 = rv.2 10 := by rw [eM_22, eM_17, eM_16, eM_15, eM_14, eM_13, eM_1, mset_ne (by omega), mset_ne (by omega), mset_ne (by omega), mset_ne (by omega), mset_ne (by omega), mset_ne (by omega)]
      obtain ⟨R3, eR3⟩ : ∃ q_, q_ = r_l3 (M 6) (rv.2 9) (rv.2 10) (p_solid (M 6) a b) (r_gaps M a b) (r_sprd M q a b la) rest ((nl : Nat) : Int) (b - a) a (r_mv M q n a b) 0 ((q_gc (M 6) (p_solid (M 6) a b - a) a 0 : Nat) : Int) (r_la2 M q n a b nl la) := ⟨_, rfl⟩
      have hRF : r_la M q n a b nl la = mset R3 0 16 (((nl : Nat) : Int) + 1) := by rw [eR3, erv, erest]; rfl
      have hR16 : R3 0 16 = ((nl : Nat) : Int) := by rw [eR3, r_l3_eq _ _ _ _ _ _ _ _ _ _ _ _ _ _ 0 (by omega)]; unfold r_la2; rw [mset_ne (by omega), mset_ne (by omega), ← hA1, hq7 0 (by omega)]; exact hn
      refine r_ll140 hx hb hml hg hown hK hA q a b (p_solid (M 6) a b) nl (r_gaps M a b) (r_mv M q n a b) (r_sprd M q a b la) rest (M 2 (11 * q + 5)) (M 2 (11 * q + 10)) (r_mh (M 8) (b - a) a (M 2 (11 * q + 10))) la hq ha6 hb6 (by omega) hn6 hre h5 (by rw [f6]; exact zb_6 ht) (by rw [f8]; exact ht.2.2.1) (by rw [eM_22]; exact mset_same _ _ _ _) (by rw [f2]) h10 (by rw [f8]) (by rw [f6]; rfl) (by rw [f6]; rfl) R3 (by rw [f6, f9, f10, eR3]; unfold r_la2; rw [← hA1, ← erest]) (fun H locs ls hP hD hS hl => ?_) H locs ls hP hD hS (lv_sub hl [0, 1, 2, 4, 5, 6, 7, 8, 9] rfl)
      refine lv_aload_n hx hb d_MO_layLine_507 rfl (lv_at hl 0 rfl) ?_
      refine lv_dup hx hb d_MO_layLine_508 rfl ?_
      refine z_get (ci := 7) (C := R_MO) (T := T_MO) (N := 32) (v := .int (iI (R3 (0) 16))) hx hb hg in_MO hown hK hP (0) (by decide) rfl rfl 16 (by decide) (hg _ (List.mem_append_right _ (List.mem_append_right _ (List.mem_append_right _ (List.mem_append_right _ (List.mem_append_right _ (List.mem_append_right _ (List.mem_append_right _ (List.mem_append_right _ (List.mem_append_right _ (List.mem_append_right _ (List.mem_append_right _ (List.mem_append_right _ (List.mem_append_right _ (List.mem_append_left _ (List.mem_of_getElem? (i := 19) rfl)))))))))))))))) (fun _ h9 => h9) rfl d_MO_layLine_509 ?_
      refine z_iconst hx hb (z := 1) d_MO_layLine_512 ?_
      refine z_iadd hx hb d_MO_layLine_513 (v := (R3 (0) 16 + 1)) rfl ?_
      refine z_put (ci := 7) (C := R_MO) (T := T_MO) (N := 32) (v := .int (iI ((R3 (0) 16 + 1)))) (ty := .int) (ce' := (mo_ce ad cs)) (r := va_up (R3 (0)) 16 ((R3 (0) 16 + 1))) hx hb hg in_MO ty_MO tk_MO nm_MO hown hK hP hD hS (0) (by decide) rfl rfl 16 (by decide) (hg _ (List.mem_append_right _ (List.mem_append_right _ (List.mem_append_right _ (List.mem_append_right _ (List.mem_append_right _ (List.mem_append_right _ (List.mem_append_right _ (List.mem_append_right _ (List.mem_append_right _ (List.mem_append_right _ (List.mem_append_right _ (List.mem_append_right _ (List.mem_append_right _ (List.mem_append_left _ (List.mem_of_getElem? (i := 19) rfl)))))))))))))))) (fun _ h9 => h9) rfl (by decide +kernel) rfl rfl (Nat.le_of_ble_eq_true rfl) (fun _ _ => rfl) rfl d_MO_layLine_514 (fun H locs hP hD hS => ?_)
      obtain ⟨M_23, eM_23⟩ : ∃ q_, q_ = mset R3 (0) (16) ((R3 (0) 16 + 1)) := ⟨_, rfl⟩
      have hP : va_P D vwCl (mo_w ad cs M_23) H := by rw [eM_23]; exact hP
      have hD : va_D (va_A (mo_w ad cs M) s.heap.size) (mo_w ad cs M_23) := by rw [eM_23]; exact hD
      have hM : M_23 = r_la M q n a b nl la := by rw [hRF, eM_23, hR16]
      have eW : mo_w ad cs (M_23) = mo_w ad cs (r_la M q n a b nl la) := by rw [hM]
      have hP := Eq.mp (congrArg (fun q => va_P D vwCl q _) eW) hP
      have hD := Eq.mp (congrArg (va_D _) eW) hD
      exact W.vret hx hb hr (fun t ht hW => ⟨⟨(), rfl, trivial, by rw [ht]; exact hP, va_K.moved hW.alike hK, hD⟩, hS.F ht⟩) hS.2.2 d_MO_layLine_517
