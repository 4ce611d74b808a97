set_option maxHeartbeats 4000000 in
set_option maxRecDepth 100000 in
theorem lp_fill {p : Program} {l : Launch} {e : Env} {s : State} {m : MethodId} {args : Array Value} {below : List Frame} {meth : Method} {c : Code} {Q : State → Prop} {A : Nat → Prop} {H0 : Heap} {D : va_G} {ad : Nat → Nat} {cs : pg_C} {rp : Option Nat} {M : Nat → Nat → Int} (hx : p.tables.exec = Jvm.exec) (hb : c.code = b_AR_fill) (hml : c.maxLocals = 4) (hg : ∀ w ∈ gt, w.before args s = true) (hown : s.vm.findClass R_AR = some m.cls) (hK : va_K D vwCl (pg_tys cs) s) (hA : ∀ q, H0.size ≤ q → A q) (i : Nat) (v : Int) (hi : i < 30) (kk : ∀ (H : Heap) (locs : List Loc) (ls : Array Slot), va_P D vwCl (pg_w ad cs rp (va_up M (30 + 4 * i) (q_flr (M (30 + 4 * i)) v 11))) H → va_D A (pg_w ad cs rp (va_up M (30 + 4 * i) (q_flr (M (30 + 4 * i)) v 11))) → va_S A H0 H locs → lv_has ls 4 [] → W p l e ({ frames := 0, cells := 0, slots := 0, locals := 0 } : Room) s m args below meth c H locs 0 0 Q (F0 m 20 ls [])) : ∀ (f t : Nat), t + f = 11 → ∀ (H : Heap) (locs : List Loc) (ls : Array Slot), va_P D vwCl (pg_w ad cs rp (va_up M (30 + 4 * i) (q_flr (M (30 + 4 * i)) v t))) H → va_D A (pg_w ad cs rp (va_up M (30 + 4 * i) (q_flr (M (30 + 4 * i)) v t))) → va_S A H0 H locs → lv_has ls 4 [(2, .int (iI (((t : Nat) : Int)))), (3, .int (iI (((11 : Nat) : Int)))), (0, .ref (ad (30 + 4 * i))), (1, .int (iI (v)))] → W p l e ({ frames := 0, cells := 0, slots := 0, locals := 0 } : Room) s m args below meth c H locs 0 0 Q (F0 m 5 ls []) := by
  intro f
  induction f with
  | zero =>
    intro t htf H locs ls hP hD hS hl
    obtain ⟨Mc, eMc⟩ : ∃ q_, q_ = va_up M (30 + 4 * i) (q_flr (M (30 + 4 * i)) v t) := ⟨_, rfl⟩
    rw [← eMc] at hP hD
    refine lv_iload_n hx hb d_AR_fill_5 rfl (lv_at hl 0 rfl) ?_
    refine lv_iload_n hx hb d_AR_fill_6 rfl (lv_at hl 1 rfl) ?_
    refine z_icmp_ge hx hb (tgt := 20) d_AR_fill_7 (by decide) ⟨by omega, by omega⟩ ⟨by omega, by omega⟩ (fun c_7 => ?_) (fun c_7 => ?_)
    · rw [eMc, show t = 11 by omega] at hP hD
      exact kk H locs ls hP hD hS (lv_sub hl [] rfl)
    · exact absurd c_7 (by omega)
  | succ f ih =>
    intro t htf H locs ls hP hD hS hl
    obtain ⟨Mc, eMc⟩ : ∃ q_, q_ = va_up M (30 + 4 * i) (q_flr (M (30 + 4 * i)) v t) := ⟨_, rfl⟩
    rw [← eMc] at hP hD
    refine lv_iload_n hx hb d_AR_fill_5 rfl (lv_at hl 0 rfl) ?_
    refine lv_iload_n hx hb d_AR_fill_6 rfl (lv_at hl 1 rfl) ?_
    refine z_icmp_ge hx hb (tgt := 20) d_AR_fill_7 (by decide) ⟨by omega, by omega⟩ ⟨by omega, by omega⟩ (fun c_7 => ?_) (fun c_7 => ?_)
    · exact absurd c_7 (by omega)
    · refine lv_aload_n hx hb d_AR_fill_10 rfl (lv_at hl 2 rfl) ?_
      refine lv_iload_n hx hb d_AR_fill_11 rfl (lv_at hl 0 rfl) ?_
      refine lv_iload_n hx hb d_AR_fill_12 rfl (lv_at hl 3 rfl) ?_
      refine z_iast hx hb hK hP hD hS (30 + 4 * i) 0 (by omega) (fun r => pg_shp _ _ _ _ r) rfl (v := v) (t) rfl (by omega) (by decide) d_AR_fill_13 (fun H locs hP hD hS => ?_)
      obtain ⟨M_1, eM_1⟩ : ∃ q_, q_ = mset Mc (30 + 4 * i) (t) (v) := ⟨_, rfl⟩
      have hP : va_P D vwCl (pg_w ad cs rp M_1) H := by rw [eM_1]; exact hP
      have hD : va_D A (pg_w ad cs rp M_1) := by rw [eM_1]; exact hD
      refine z_iinc (v := ((t + 1 : Nat) : Int)) (lv' := [(2, .int (iI (((t + 1 : Nat) : Int)))), (3, .int (iI (((11 : Nat) : Int)))), (0, .ref (ad (30 + 4 * i))), (1, .int (iI (v)))]) hx hb d_AR_fill_14 hl (k := 0) rfl (by omega) (by decide) rfl (fun ls hl => ?_)
      refine lv_goto (tgt := 5) hx hb d_AR_fill_17 (by decide) ?_
      rw [eM_1, eMc, q_fl_step] at hP hD
      exact ih (t + 1) (by omega) H locs ls hP hD hS (lv_sub hl [0, 1, 2, 3] rfl)
set_option maxHeartbeats 4000000 in
set_option maxRecDepth 100000 in
/-- Arrays.fill -/
theorem c_fill (l : Launch) {D : va_G} {ad : Nat → Nat} {cs : pg_C} {rp : Option Nat} {M : Nat → Nat → Int} (sz : Nat) (i : Nat) (v : Int) (hi : i < 30) : Met l y_AR_fill ws_AR_fill ({ frames := 0, cells := 0, slots := 0, locals := 0 } : Room) (va_Pc [.ref (ad (30 + 4 * i)), .int (iI (v))] (rw_B D vwCl (pg_tys cs) (pg_w ad cs rp M) sz)) (va_Qv (fun _ : Unit => True) (rw_E D vwCl (pg_tys cs) (pg_w ad cs rp M) (pg_w ad cs rp (va_up M (30 + 4 * i) (q_flr (M (30 + 4 * i)) v 11))) sz) (va_A (pg_w ad cs rp M) sz)) 0 0 (va_A (pg_w ad cs rp M) sz) := by
  refine Met.ofW (cc := b_AR_fill) (maxL := 4) (ret := none) (by decide) rfl ?_
  intro p e s m args below meth c s₁ B hml hv
  obtain ⟨rfl, hsz, hP, hK, hD0⟩ := hv
  have hx := B.exec
  have hb := B.bytes
  have hr := B.returns
  have hts := atoms_spec (ws := ws_AR_fill) B.pre
  have hg : ∀ w ∈ gt, w.before _ s = true := fun w h => hts w (List.mem_cons_of_mem _ h)
  have hown : s.vm.findClass R_AR = some m.cls := findClass_of_methodNamed B.named
  have hlocks := B.notSynchronized
  subst hsz
  have hD := hD0.self (sz := s.heap.size)
  have hA : ∀ q : Nat, s.heap.size ≤ q → va_A (pg_w ad cs rp M) s.heap.size q := fun q h => Or.inr h
  have hS : va_S (va_A (pg_w ad cs rp M) s.heap.size) s.heap s.heap [] := va_S.rf
  have hl := lv_entry ([.ref (ad (30 + 4 * i)), .int (iI (v))]) (n := 4) (Nat.le_of_ble_eq_true rfl)
  rw [lg_entry_eq]
  generalize (lg_sl ([.ref (ad (30 + 4 * i)), .int (iI (v))]) ++ List.replicate (4 - (lg_sl ([.ref (ad (30 + 4 * i)), .int (iI (v))])).length) Slot.unset).toArray = ls at hl ⊢
  have hl : lv_has ls 4 [(0, .ref (ad (30 + 4 * i))), (1, .int (iI (v)))] := hl
  refine z_iconst hx hb (z := 0) d_AR_fill_0 ?_
  refine lv_istore_n (lv' := [(2, .int (iI (0))), (0, .ref (ad (30 + 4 * i))), (1, .int (iI (v)))]) hx hb d_AR_fill_1 rfl hl (by decide) rfl (fun ls hl => ?_)
  refine lv_aload_n hx hb d_AR_fill_2 rfl (lv_at hl 1 rfl) ?_
  refine z_alen hx hb hK hP (30 + 4 * i) 0 (by omega) (fun r => pg_shp _ _ _ _ r) rfl d_AR_fill_3 ?_
  refine lv_istore_n (lv' := [(3, .int (iI (((11 : Nat) : Int)))), (2, .int (iI (0))), (0, .ref (ad (30 + 4 * i))), (1, .int (iI (v)))]) hx hb d_AR_fill_4 rfl hl (by decide) rfl (fun ls hl => ?_)
  refine lp_fill hx hb hml hg hown hK hA i v hi (fun H locs ls hP hD hS hl => ?_) 11 0 (by omega) s.heap [] ls (by rw [q_fl_0]; exact hP) (by rw [q_fl_0]; exact hD) hS (lv_sub hl [1, 0, 2, 3] rfl)
  have hM : va_up M (30 + 4 * i) (q_flr (M (30 + 4 * i)) v 11) = va_up M (30 + 4 * i) (q_flr (M (30 + 4 * i)) v 11) := rfl
  have eW : pg_w ad cs rp (va_up M (30 + 4 * i) (q_flr (M (30 + 4 * i)) v 11)) = pg_w ad cs rp (va_up M (30 + 4 * i) (q_flr (M (30 + 4 * i)) v 11)) := by rw [hM]
  have hP := Eq.mp (congrArg (fun q => va_P D vwCl q _) eW) hP
  have hD := Eq.mp (congrArg (va_D _) eW) hD
  exact W.vret hx hb hr (fun t ht hW => ⟨⟨(), rfl, trivial, by rw [ht]; exact hP, va_K.moved hW.alike hK, hD⟩, hS.F ht⟩) hS.2.2 d_AR_fill_20
set_option maxHeartbeats 4000000 in
set_option maxRecDepth 100000 in
/-- Paragraph.renew -/
theorem c_renew (l : Launch) {D : va_G} {ad : Nat → Nat} {cs : pg_C} {rp : Option Nat} {M : Nat → Nat → Int} (sz : Nat) (i : Nat) (f : Int) (hi : i < 30) : Met l y_PA_renew ws_PA_renew ({ frames := 1, cells := 0, slots := 0, locals := 23 } : Room) (va_Pc [.ref (ad (29 + 4 * i)), .int (iI (f))] (rw_B D vwCl (pg_tys cs) (pg_w ad cs rp M) sz)) (va_Qv (fun _ : Unit => True) (rw_E D vwCl (pg_tys cs) (pg_w ad cs rp M) (pg_w ad cs rp (q_ren M i f)) sz) (va_A (pg_w ad cs rp M) sz)) 0 0 (va_A (pg_w ad cs rp M) sz) := by
  refine Met.ofW (cc := b_PA_renew) (maxL := 2) (ret := none) (by decide) rfl ?_
  intro p e s m args below meth c s₁ B hml hv
  obtain ⟨rfl, hsz, hP, hK, hD0⟩ := hv
  have hx := B.exec
  have hb := B.bytes
  have hr := B.returns
  have hts := atoms_spec (ws := ws_PA_renew) B.pre
  have hg : ∀ w ∈ gt, w.before _ s = true := fun w h => hts w (List.mem_cons_of_mem _ h)
  have hown : s.vm.findClass R_PA = some m.cls := findClass_of_methodNamed B.named
  have hlocks := B.notSynchronized
  subst hsz
  have hD := hD0.self (sz := s.heap.size)
  have hA : ∀ q : Nat, s.heap.size ≤ q → va_A (pg_w ad cs rp M) s.heap.size q := fun q h => Or.inr h
  have hS : va_S (va_A (pg_w ad cs rp M) s.heap.size) s.heap s.heap [] := va_S.rf
  have hl := lv_entry ([.ref (ad (29 + 4 * i)), .int (iI (f))]) (n := 2) (Nat.le_of_ble_eq_true rfl)
  rw [lg_entry_eq]
  generalize (lg_sl ([.ref (ad (29 + 4 * i)), .int (iI (f))]) ++ List.replicate (2 - (lg_sl ([.ref (ad (29 + 4 * i)), .int (iI (f))])).length) Slot.unset).toArray = ls at hl ⊢
  have hl : lv_has ls 2 [(0, .ref (ad (29 + 4 * i))), (1, .int (iI (f)))] := hl
  refine lv_aload_n hx hb d_PA_renew_0 rfl (lv_at hl 0 rfl) ?_
  refine z_get (ci := 6) (C := R_PA) (T := T_PA) (N := 6) (v := .ref (ad (30 + 4 * i))) hx hb hg in_PA hown hK hP (29 + 4 * i) (by omega) (pg_par _ _ _ _ _) rfl 0 (by decide) (hg _ (List.mem_append_right _ (List.mem_append_left _ (List.mem_of_getElem? (i := 37) rfl)))) (fun _ h9 => h9) rfl d_PA_renew_1 ?_
  refine z_iconst hx hb (z := 0) d_PA_renew_4 ?_
  refine rw_Sv (As := [.ref (ad (30 + 4 * i)), .int (iI (0))]) (rest := []) (w' := (pg_w ad cs rp (va_up M (30 + 4 * i) (q_flr (M (30 + 4 * i)) 0 11)))) ⟨hx, hb, hml, hown, hg⟩ (c_fill l _ i 0 hi) (va_cwS 2 hg (gt_SS (List.mem_append_right _ (List.mem_append_right _ (List.mem_append_right _ (List.mem_append_right _ (List.mem_append_right _ (List.mem_append_right _ (List.mem_append_right _ (List.mem_append_right _ (List.mem_append_right _ (List.mem_append_right _ (List.mem_append_left _ (List.mem_of_getElem? (i := 16) rfl)))))))))))) (List.mem_append_right _ (List.mem_append_right _ (List.mem_append_right _ (List.mem_append_right _ (List.mem_append_right _ (List.mem_append_right _ (List.mem_append_right _ (List.mem_append_right _ (List.mem_append_right _ (List.mem_append_right _ (List.mem_append_left _ (List.mem_of_getElem? (i := 17) rfl)))))))))))) (List.mem_append_right _ (List.mem_append_left _ (List.mem_of_getElem? (i := 14) rfl))) (List.mem_append_right _ (List.mem_append_right _ (List.mem_append_right _ (List.mem_append_right _ (List.mem_append_right _ (List.mem_append_right _ (List.mem_append_right _ (List.mem_append_right _ (List.mem_append_right _ (List.mem_append_right _ (List.mem_append_left _ (List.mem_of_getElem? (i := 18) rfl))))))))))))) rfl rfl rfl (by decide +kernel) ⟨Nat.le_of_ble_eq_true rfl, Nat.le_of_ble_eq_true rfl⟩) hK hP hD hS hA rfl hl.1 rfl (Nat.le_of_ble_eq_true rfl) d_PA_renew_5 ⟨Nat.zero_le _, Nat.zero_le _⟩ (fun H locs hP hD hS => ?_)
  obtain ⟨M_1, eM_1⟩ : ∃ q_, q_ = va_up M (30 + 4 * i) (q_flr (M (30 + 4 * i)) 0 11) := ⟨_, rfl⟩
  have hP : va_P D vwCl (pg_w ad cs rp M_1) H := by rw [eM_1]; exact hP
  have hD : va_D (va_A (pg_w ad cs rp M) s.heap.size) (pg_w ad cs rp M_1) := by rw [eM_1]; exact hD
  refine lv_aload_n hx hb d_PA_renew_8 rfl (lv_at hl 0 rfl) ?_
  refine z_get (ci := 6) (C := R_PA) (T := T_PA) (N := 6) (v := .ref (ad (30 + 4 * i))) hx hb hg in_PA hown hK hP (29 + 4 * i) (by omega) (pg_par _ _ _ _ _) rfl 0 (by decide) (hg _ (List.mem_append_right _ (List.mem_append_left _ (List.mem_of_getElem? (i := 37) rfl)))) (fun _ h9 => h9) rfl d_PA_renew_9 ?_
  refine z_bipush hx hb (z := 10) d_PA_renew_12 (by decide) ?_
  refine z_iconst hx hb (z := 1) d_PA_renew_14 ?_
  refine z_iast hx hb hK hP hD hS (30 + 4 * i) 0 (by omega) (fun r => pg_shp _ _ _ _ r) rfl (v := 1) (10) rfl (by decide) (by decide) d_PA_renew_15 (fun H locs hP hD hS => ?_)
  obtain ⟨M_2, eM_2⟩ : ∃ q_, q_ = mset M_1 (30 + 4 * i) (10) (1) := ⟨_, rfl⟩
  have hP : va_P D vwCl (pg_w ad cs rp M_2) H := by rw [eM_2]; exact hP
  have hD : va_D (va_A (pg_w ad cs rp M) s.heap.size) (pg_w ad cs rp M_2) := by rw [eM_2]; exact hD
  refine lv_aload_n hx hb d_PA_renew_16 rfl (lv_at hl 0 rfl) ?_
  refine z_iconst hx hb (z := 0) d_PA_renew_17 ?_
  refine z_put (ci := 6) (C := R_PA) (T := T_PA) (N := 6) (v := .int (iI (0))) (ty := .int) (ce' := (pg_ce ad cs rp)) (r := va_up (M_2 (29 + 4 * i)) 3 (0)) hx hb hg in_PA ty_PA tk_PA nm_PA hown hK hP hD hS (29 + 4 * i) (by omega) (pg_par _ _ _ _ _) rfl 3 (by decide) (hg _ (List.mem_append_right _ (List.mem_append_right _ (List.mem_append_left _ (List.mem_of_getElem? (i := 3) rfl))))) (fun _ h9 => h9) rfl (by decide +kernel) rfl rfl (Nat.le_of_ble_eq_true rfl) (fun _ _ => rfl) (by rw [pg_par]; rfl) d_PA_renew_18 (fun H locs hP hD hS => ?_)
  obtain ⟨M_3, eM_3⟩ : ∃ q_, q_ = mset M_2 (29 + 4 * i) (3) (0) := ⟨_, rfl⟩
  have hP : va_P D vwCl (pg_w ad cs rp M_3) H := by rw [eM_3]; exact hP
  have hD : va_D (va_A (pg_w ad cs rp M) s.heap.size) (pg_w ad cs rp M_3) := by rw [eM_3]; exact hD
  refine lv_aload_n hx hb d_PA_renew_21 rfl (lv_at hl 0 rfl) ?_
  refine lv_iload_n hx hb d_PA_renew_22 rfl (lv_at hl 1 rfl) ?_
  refine z_put (ci := 6) (C := R_PA) (T := T_PA) (N := 6) (v := .int (iI (f))) (ty := .int) (ce' := (pg_ce ad cs rp)) (r := va_up (M_3 (29 + 4 * i)) 4 (f)) hx hb hg in_PA ty_PA tk_PA nm_PA hown hK hP hD hS (29 + 4 * i) (by omega) (pg_par _ _ _ _ _) rfl 4 (by decide) (hg _ (List.mem_append_right _ (List.mem_append_right _ (List.mem_append_left _ (List.mem_of_getElem? (i := 5) rfl))))) (fun _ h9 => h9) rfl (by decide +kernel) rfl rfl (Nat.le_of_ble_eq_true rfl) (fun _ _ => rfl) (by rw [pg_par]; rfl) d_PA_renew_23 (fun H locs hP hD hS => ?_)
  obtain ⟨M_4, eM_4⟩ : ∃ q_, q_ = mset M_3 (29 + 4 * i) (4) (f) := ⟨_, rfl⟩
  have hP : va_P D vwCl (pg_w ad cs rp M_4) H := by rw [eM_4]; exact hP
  have hD : va_D (va_A (pg_w ad cs rp M) s.heap.size) (pg_w ad cs rp M_4) := by rw [eM_4]; exact hD
  refine lv_aload_n hx hb d_PA_renew_26 rfl (lv_at hl 0 rfl) ?_
  refine lv_iload_n hx hb d_PA_renew_27 rfl (lv_at hl 1 rfl) ?_
  refine z_put (ci := 6) (C := R_PA) (T := T_PA) (N := 6) (v := .int (iI (f))) (ty := .int) (ce' := (pg_ce ad cs rp)) (r := va_up (M_4 (29 + 4 * i)) 5 (f)) hx hb hg in_PA ty_PA tk_PA nm_PA hown hK hP hD hS (29 + 4 * i) (by omega) (pg_par _ _ _ _ _) rfl 5 (by decide) (hg _ (List.mem_append_right _ (List.mem_append_right _ (List.mem_append_left _ (List.mem_of_getElem? (i := 7) rfl))))) (fun _ h9 => h9) rfl (by decide +kernel) rfl rfl (Nat.le_of_ble_eq_true rfl) (fun _ _ => rfl) (by rw [pg_par]; rfl) d_PA_renew_28 (fun H locs hP hD hS => ?_)
  obtain ⟨M_5, eM_5⟩ : ∃ q_, q_ = mset M_4 (29 + 4 * i) (5) (f) := ⟨_, rfl⟩
  have hP : va_P D vwCl (pg_w ad cs rp M_5) H := by rw [eM_5]; exact hP
  have hD : va_D (va_A (pg_w ad cs rp M) s.heap.size) (pg_w ad cs rp M_5) := by rw [eM_5]; exact hD
  have hM : M_5 = q_ren M i f := by rw [eM_5, eM_4, eM_3, eM_2, eM_1]; rfl
  have eW : pg_w ad cs rp (M_5) = pg_w ad cs rp (q_ren M i f) := by rw [hM]
  have hP := Eq.mp (congrArg (fun q => va_P D vwCl q _) eW) hP
  have hD := Eq.mp (congrArg (va_D _) eW) hD
  exact W.vret hx hb hr (fun t ht hW => ⟨⟨(), rfl, trivial, by rw [ht]; exact hP, va_K.moved hW.alike hK, hD⟩, hS.F ht⟩) hS.2.2 d_PA_renew_31
set_option maxHeartbeats 4000000 in
set_option maxRecDepth 100000 in
/-- Paragraph.addStop -/
theorem c_addStop (l : Launch) {D : va_G} {ad : Nat → Nat} {cs : pg_C} {rp : Option Nat} {M : Nat → Nat → Int} (sz : Nat) (i n : Nat) (x k : Int) (hi : i < 30) (hn : n < 8) (hs : M (29 + 4 * i) 3 = ((n : Nat) : Int)) : Met l y_PA_addStop ws_PA_addStop ({ frames := 0, cells := 0, slots := 0, locals := 0 } : Room) (va_Pc [.ref (ad (29 + 4 * i)), .int (iI (x)), .int (iI (k))] (rw_B D vwCl (pg_tys cs) (pg_w ad cs rp M) sz)) (va_Qi (fun (r : Int32) (_ : Unit) => r = iI (((n : Nat) : Int) + 1)) (rw_E D vwCl (pg_tys cs) (pg_w ad cs rp M) (pg_w ad cs rp (q_stp M i n x k)) sz) (va_A (pg_w ad cs rp M) sz)) 0 0 (va_A (pg_w ad cs rp M) sz) := by
  refine Met.ofW (cc := b_PA_addStop) (maxL := 3) (ret := (some .int)) (by decide) rfl ?_
  intro p e s m args below meth c s₁ B hml hv
  obtain ⟨rfl, hsz, hP, hK, hD0⟩ := hv
  have hx := B.exec
  have hb := B.bytes
  have hr := B.returns
  have hts := atoms_spec (ws := ws_PA_addStop) B.pre
  have hg : ∀ w ∈ gt, w.before _ s = true := fun w h => hts w (List.mem_cons_of_mem _ h)
  have hown : s.vm.findClass R_PA = some m.cls := findClass_of_methodNamed B.named
  have hlocks := B.notSynchronized
  subst hsz
  have hD := hD0.self (sz := s.heap.size)
  have hA : ∀ q : Nat, s.heap.size ≤ q → va_A (pg_w ad cs rp M) s.heap.size q := fun q h => Or.inr h
  have hS : va_S (va_A (pg_w ad cs rp M) s.heap.size) s.heap s.heap [] := va_S.rf
  have hl := lv_entry ([.ref (ad (29 + 4 * i)), .int (iI (x)), .int (iI (k))]) (n := 3) (Nat.le_of_ble_eq_true rfl)
  rw [lg_entry_eq]
  generalize (lg_sl ([.ref (ad (29 + 4 * i)), .int (iI (x)), .int (iI (k))]) ++ List.replicate (3 - (lg_sl ([.ref (ad (29 + 4 * i)), .int (iI (x)), .int (iI (k))])).length) Slot.unset).toArray = ls at hl ⊢
  have hl : lv_has ls 3 [(0, .ref (ad (29 + 4 * i))), (1, .int (iI (x))), (2, .int (iI (k)))] := hl
  refine lv_aload_n hx hb d_PA_addStop_0 rfl (lv_at hl 0 rfl) ?_
  refine z_get (ci := 6) (C := R_PA) (T := T_PA) (N := 6) (v := .ref (ad (31 + 4 * i))) hx hb hg in_PA hown hK hP (29 + 4 * i) (by omega) (pg_par _ _ _ _ _) rfl 1 (by decide) (hg _ (List.mem_append_right _ (List.mem_append_right _ (List.mem_append_left _ (List.mem_of_getElem? (i := 1) rfl))))) (fun _ h9 => h9) rfl d_PA_addStop_1 ?_
  refine lv_aload_n hx hb d_PA_addStop_4 rfl (lv_at hl 0 rfl) ?_
  refine z_get (ci := 6) (C := R_PA) (T := T_PA) (N := 6) (v := .int (iI (M (29 + 4 * i) 3))) hx hb hg in_PA hown hK hP (29 + 4 * i) (by omega) (pg_par _ _ _ _ _) rfl 3 (by decide) (hg _ (List.mem_append_right _ (List.mem_append_right _ (List.mem_append_left _ (List.mem_of_getElem? (i := 3) rfl))))) (fun _ h9 => h9) rfl d_PA_addStop_5 ?_
  refine lv_iload_n hx hb d_PA_addStop_8 rfl (lv_at hl 1 rfl) ?_
  refine z_iast hx hb hK hP hD hS (31 + 4 * i) 0 (by omega) (fun r => pg_plc _ _ _ _ r) rfl (v := x) (n) hs (by omega) (by decide) d_PA_addStop_9 (fun H locs hP hD hS => ?_)
  obtain ⟨M_1, eM_1⟩ : ∃ q_, q_ = mset M (31 + 4 * i) (n) (x) := ⟨_, rfl⟩
  have hP : va_P D vwCl (pg_w ad cs rp M_1) H := by rw [eM_1]; exact hP
  have hD : va_D (va_A (pg_w ad cs rp M) s.heap.size) (pg_w ad cs rp M_1) := by rw [eM_1]; exact hD
  have hs1 : M_1 (29 + 4 * i) 3 = ((n : Nat) : Int) := by rw [eM_1, mset_ne (by omega)]; exact hs
  refine lv_aload_n hx hb d_PA_addStop_10 rfl (lv_at hl 0 rfl) ?_
  refine z_get (ci := 6) (C := R_PA) (T := T_PA) (N := 6) (v := .ref (ad (32 + 4 * i))) hx hb hg in_PA hown hK hP (29 + 4 * i) (by omega) (pg_par _ _ _ _ _) rfl 2 (by decide) (hg _ (List.mem_append_right _ (List.mem_append_right _ (List.mem_append_left _ (List.mem_of_getElem? (i := 2) rfl))))) (fun _ h9 => h9) rfl d_PA_addStop_11 ?_
  refine lv_aload_n hx hb d_PA_addStop_14 rfl (lv_at hl 0 rfl) ?_
  refine z_get (ci := 6) (C := R_PA) (T := T_PA) (N := 6) (v := .int (iI (M_1 (29 + 4 * i) 3))) hx hb hg in_PA hown hK hP (29 + 4 * i) (by omega) (pg_par _ _ _ _ _) rfl 3 (by decide) (hg _ (List.mem_append_right _ (List.mem_append_right _ (List.mem_append_left _ (List.mem_of_getElem? (i := 3) rfl))))) (fun _ h9 => h9) rfl d_PA_addStop_15 ?_
  refine lv_iload_n hx hb d_PA_addStop_18 rfl (lv_at hl 2 rfl) ?_
  refine z_iast hx hb hK hP hD hS (32 + 4 * i) 0 (by omega) (fun r => pg_knd _ _ _ _ r) rfl (v := k) (n) hs1 (by omega) (by decide) d_PA_addStop_19 (fun H locs hP hD hS => ?_)
  obtain ⟨M_2, eM_2⟩ : ∃ q_, q_ = mset M_1 (32 + 4 * i) (n) (k) := ⟨_, rfl⟩
  have hP : va_P D vwCl (pg_w ad cs rp M_2) H := by rw [eM_2]; exact hP
  have hD : va_D (va_A (pg_w ad cs rp M) s.heap.size) (pg_w ad cs rp M_2) := by rw [eM_2]; exact hD
  have hs2 : M_2 (29 + 4 * i) 3 = ((n : Nat) : Int) := by rw [eM_2, mset_ne (by omega)]; exact hs1
  refine lv_aload_n hx hb d_PA_addStop_20 rfl (lv_at hl 0 rfl) ?_
  refine lv_dup hx hb d_PA_addStop_21 rfl ?_
  refine z_get (ci := 6) (C := R_PA) (T := T_PA) (N := 6) (v := .int (iI (M_2 (29 + 4 * i) 3))) hx hb hg in_PA hown hK hP (29 + 4 * i) (by omega) (pg_par _ _ _ _ _) rfl 3 (by decide) (hg _ (List.mem_append_right _ (List.mem_append_right _ (List.mem_append_left _ (List.mem_of_getElem? (i := 3) rfl))))) (fun _ h9 => h9) rfl d_PA_addStop_22 ?_
  refine z_iconst hx hb (z := 1) d_PA_addStop_25 ?_
  refine z_iadd hx hb d_PA_addStop_26 (v := (M_2 (29 + 4 * i) 3 + 1)) rfl ?_
  refine z_put (ci := 6) (C := R_PA) (T := T_PA) (N := 6) (v := .int (iI ((M_2 (29 + 4 * i) 3 + 1)))) (ty := .int) (ce' := (pg_ce ad cs rp)) (r := va_up (M_2 (29 + 4 * i)) 3 ((M_2 (29 + 4 * i) 3 + 1))) hx hb hg in_PA ty_PA tk_PA nm_PA hown hK hP hD hS (29 + 4 * i) (by omega) (pg_par _ _ _ _ _) rfl 3 (by decide) (hg _ (List.mem_append_right _ (List.mem_append_right _ (List.mem_append_left _ (List.mem_of_getElem? (i := 3) rfl))))) (fun _ h9 => h9) rfl (by decide +kernel) rfl rfl (Nat.le_of_ble_eq_true rfl) (fun _ _ => rfl) (by rw [pg_par]; rfl) d_PA_addStop_27 (fun H locs hP hD hS => ?_)
  obtain ⟨M_3, eM_3⟩ : ∃ q_, q_ = mset M_2 (29 + 4 * i) (3) ((M_2 (29 + 4 * i) 3 + 1)) := ⟨_, rfl⟩
  have hP : va_P D vwCl (pg_w ad cs rp M_3) H := by rw [eM_3]; exact hP
  have hD : va_D (va_A (pg_w ad cs rp M) s.heap.size) (pg_w ad cs rp M_3) := by rw [eM_3]; exact hD
  have hs3 : M_3 (29 + 4 * i) 3 = ((n : Nat) : Int) + 1 := by rw [eM_3, mset_same, hs2]
  refine lv_aload_n hx hb d_PA_addStop_30 rfl (lv_at hl 0 rfl) ?_
  refine z_get (ci := 6) (C := R_PA) (T := T_PA) (N := 6) (v := .int (iI (M_3 (29 + 4 * i) 3))) hx hb hg in_PA hown hK hP (29 + 4 * i) (by omega) (pg_par _ _ _ _ _) rfl 3 (by decide) (hg _ (List.mem_append_right _ (List.mem_append_right _ (List.mem_append_left _ (List.mem_of_getElem? (i := 3) rfl))))) (fun _ h9 => h9) rfl d_PA_addStop_31 ?_
  have hM : M_3 = q_stp M i n x k := by rw [eM_3, hs2, eM_2, eM_1]; rfl
  have eW : pg_w ad cs rp (M_3) = pg_w ad cs rp (q_stp M i n x k) := by rw [hM]
  have hP := Eq.mp (congrArg (fun q => va_P D vwCl q _) eW) hP
  have hD := Eq.mp (congrArg (va_D _) eW) hD
  exact W.iret (v := iI (M_3 (29 + 4 * i) 3)) hx hb hr (fun t ht hW => ⟨⟨_, (), rfl, by rw [hs3], by rw [ht]; exact hP, va_K.moved hW.alike hK, hD⟩, hS.F ht⟩) hS.2.2 d_PA_addStop_34
set_option maxHeartbeats 4000000 in
set_option maxRecDepth 100000 in
/-- Text.addParagraph -/
theorem c_addParagraph (l : Launch) {D : va_G} {ad : Nat → Nat} {cs : pg_C} {rp : Option Nat} {M : Nat → Nat → Int} (sz : Nat) (q : Nat) (hq : q < 30) (hp : M 1 4 = ((q : Nat) : Int)) : Met l y_TX_addParagraph ws_TX_addParagraph ({ frames := 2, cells := 0, slots := 0, locals := 44 } : Room) (va_Pc [.ref (ad (1))] (rw_B D vwCl (pg_tys cs) (pg_w ad cs rp M) sz)) (va_Qi (fun (r : Int32) (_ : Unit) => r = iI (((q : Nat) : Int))) (rw_E D vwCl (pg_tys cs) (pg_w ad cs rp M) (pg_w ad cs rp (q_apar M q)) sz) (va_A (pg_w ad cs rp M) sz)) 0 0 (va_A (pg_w ad cs rp M) sz) := by
  refine Met.ofW (cc := b_TX_addParagraph) (maxL := 1) (ret := (some .int)) (by decide) rfl ?_
  intro p e s m args below meth c s₁ B hml hv
  obtain ⟨rfl, hsz, hP, hK, hD0⟩ := hv
  have hx := B.exec
  have hb := B.bytes
  have hr := B.returns
  have hts := atoms_spec (ws := ws_TX_addParagraph) B.pre
  have hg : ∀ w ∈ gt, w.before _ s = true := fun w h => hts w (List.mem_cons_of_mem _ h)
  have hown : s.vm.findClass R_TX = some m.cls := findClass_of_methodNamed B.named
  have hlocks := B.notSynchronized
  subst hsz
  have hD := hD0.self (sz := s.heap.size)
  have hA : ∀ q : Nat, s.heap.size ≤ q → va_A (pg_w ad cs rp M) s.heap.size q := fun q h => Or.inr h
  have hS : va_S (va_A (pg_w ad cs rp M) s.heap.size) s.heap s.heap [] := va_S.rf
  have hl := lv_entry ([.ref (ad (1))]) (n := 1) (Nat.le_of_ble_eq_true rfl)
  rw [lg_entry_eq]
  generalize (lg_sl ([.ref (ad (1))]) ++ List.replicate (1 - (lg_sl ([.ref (ad (1))])).length) Slot.unset).toArray = ls at hl ⊢
  have hl : lv_has ls 1 [(0, .ref (ad (1)))] := hl
  refine lv_aload_n hx hb d_TX_addParagraph_0 rfl (lv_at hl 0 rfl) ?_
  refine z_get (ci := 1) (C := R_TX) (T := T_TX) (N := 6) (v := .ref (ad (6))) hx hb hg in_TX hown hK hP (1) (by decide) rfl rfl 0 (by decide) (hg _ (List.mem_append_right _ (List.mem_append_right _ (List.mem_append_left _ (List.mem_of_getElem? (i := 16) rfl))))) (fun _ h9 => h9) rfl d_TX_addParagraph_1 ?_
  refine lv_aload_n hx hb d_TX_addParagraph_4 rfl (lv_at hl 0 rfl) ?_
  refine z_get (ci := 1) (C := R_TX) (T := T_TX) (N := 6) (v := .int (iI (M (1) 4))) hx hb hg in_TX hown hK hP (1) (by decide) rfl rfl 4 (by decide) (hg _ (List.mem_append_right _ (List.mem_append_right _ (List.mem_append_left _ (List.mem_of_getElem? (i := 28) rfl))))) (fun _ h9 => h9) rfl d_TX_addParagraph_5 ?_
  refine z_aald hx hb hK hP (6) 2 (by decide) (fun _ => rfl) rfl rfl (q) hp (by omega) (by decide) d_TX_addParagraph_8 ?_
  refine lv_aload_n hx hb d_TX_addParagraph_9 rfl (lv_at hl 0 rfl) ?_
  refine z_get (ci := 1) (C := R_TX) (T := T_TX) (N := 6) (v := .int (iI (M (1) 5))) hx hb hg in_TX hown hK hP (1) (by decide) rfl rfl 5 (by decide) (hg _ (List.mem_append_right _ (List.mem_append_right _ (List.mem_append_left _ (List.mem_of_getElem? (i := 30) rfl))))) (fun _ h9 => h9) rfl d_TX_addParagraph_10 ?_
  refine rw_Vv (As := [.int (iI (M (1) 5))]) (rest := []) (w' := (pg_w ad cs rp (q_ren M q (M 1 5)))) ⟨hx, hb, hml, hown, hg⟩ (c_renew l _ q (M 1 5) hq) (cwV 1 hg (gt_V (List.mem_append_right _ (List.mem_append_right _ (List.mem_append_right _ (List.mem_append_right _ (List.mem_append_right _ (List.mem_append_right _ (List.mem_append_right _ (List.mem_append_right _ (List.mem_append_right _ (List.mem_append_right _ (List.mem_append_left _ (List.mem_of_getElem? (i := 12) rfl)))))))))))) (List.mem_append_right _ (List.mem_append_right _ (List.mem_append_right _ (List.mem_append_right _ (List.mem_append_right _ (List.mem_append_right _ (List.mem_append_right _ (List.mem_append_right _ (List.mem_append_right _ (List.mem_append_right _ (List.mem_append_left _ (List.mem_of_getElem? (i := 13) rfl)))))))))))) (List.mem_append_right _ (List.mem_append_right _ (List.mem_append_right _ (List.mem_append_right _ (List.mem_append_right _ (List.mem_append_right _ (List.mem_append_right _ (List.mem_append_right _ (List.mem_append_right _ (List.mem_append_right _ (List.mem_append_left _ (List.mem_of_getElem? (i := 14) rfl)))))))))))) (List.mem_append_right _ (List.mem_append_left _ (List.mem_of_getElem? (i := 4) rfl))) (List.mem_append_right _ (List.mem_append_right _ (List.mem_append_right _ (List.mem_append_right _ (List.mem_append_right _ (List.mem_append_right _ (List.mem_append_right _ (List.mem_append_right _ (List.mem_append_right _ (List.mem_append_right _ (List.mem_append_left _ (List.mem_of_getElem? (i := 15) rfl))))))))))))) rfl rfl rfl (by decide +kernel) ⟨Nat.le_of_ble_eq_true rfl, Nat.le_of_ble_eq_true rfl⟩) hK hP hD hS hA (va_recv hK hP (ci := 6) (q0 := 29 + 4 * q) rfl (wl_atE (by omega) (pg_par _ _ _ _ _))) rfl hl.1 rfl (Nat.le_of_ble_eq_true rfl) d_TX_addParagraph_13 ⟨Nat.zero_le _, Nat.zero_le _⟩ (fun H locs hP hD hS => ?_)
  obtain ⟨M_1, eM_1⟩ : ∃ q_, q_ = q_ren M q (M 1 5) := ⟨_, rfl⟩
  have hP : va_P D vwCl (pg_w ad cs rp M_1) H := by rw [eM_1]; exact hP
  have hD : va_D (va_A (pg_w ad cs rp M) s.heap.size) (pg_w ad cs rp M_1) := by rw [eM_1]; exact hD
  have hp1 : M_1 1 4 = ((q : Nat) : Int) := by rw [eM_1]; unfold q_ren; rw [mset_ne (by omega), mset_ne (by omega), mset_ne (by omega), mset_ne (by omega), va_up_ne _ _ (by omega)]; exact hp
  refine lv_aload_n hx hb d_TX_addParagraph_16 rfl (lv_at hl 0 rfl) ?_
  refine lv_dup hx hb d_TX_addParagraph_17 rfl ?_
  refine z_get (ci := 1) (C := R_TX) (T := T_TX) (N := 6) (v := .int (iI (M_1 (1) 4))) hx hb hg in_TX hown hK hP (1) (by decide) rfl rfl 4 (by decide) (hg _ (List.mem_append_right _ (List.mem_append_right _ (List.mem_append_left _ (List.mem_of_getElem? (i := 28) rfl))))) (fun _ h9 => h9) rfl d_TX_addParagraph_18 ?_
  refine z_iconst hx hb (z := 1) d_TX_addParagraph_21 ?_
  refine z_iadd hx hb d_TX_addParagraph_22 (v := (M_1 (1) 4 + 1)) rfl ?_
  refine z_put (ci := 1) (C := R_TX) (T := T_TX) (N := 6) (v := .int (iI ((M_1 (1) 4 + 1)))) (ty := .int) (ce' := (pg_ce ad cs rp)) (r := va_up (M_1 (1)) 4 ((M_1 (1) 4 + 1))) hx hb hg in_TX ty_TX tk_TX nm_TX hown hK hP hD hS (1) (by decide) rfl rfl 4 (by decide) (hg _ (List.mem_append_right _ (List.mem_append_right _ (List.mem_append_left _ (List.mem_of_getElem? (i := 28) rfl))))) (fun _ h9 => h9) rfl (by decide +kernel) rfl rfl (Nat.le_of_ble_eq_true rfl) (fun _ _ => rfl) rfl d_TX_addParagraph_23 (fun H locs hP hD hS => ?_)
  obtain ⟨M_2, eM_2⟩ : ∃ q_, q_ = mset M_1 (1) (4) ((M_1 (1) 4 + 1)) := ⟨_, rfl⟩
  have hP : va_P D vwCl (pg_w ad cs rp M_2) H := by rw [eM_2]; exact hP
  have hD : va_D (va_A (pg_w ad cs rp M) s.heap.size) (pg_w ad cs rp M_2) := by rw [eM_2]; exact hD
  have hp2 : M_2 1 4 = ((q : Nat) : Int) + 1 := by rw [eM_2, mset_same, hp1]
  refine lv_aload_n hx hb d_TX_addParagraph_26 rfl (lv_at hl 0 rfl) ?_
  refine z_get (ci := 1) (C := R_TX) (T := T_TX) (N := 6) (v := .int (iI (M_2 (1) 4))) hx hb hg in_TX hown hK hP (1) (by decide) rfl rfl 4 (by decide) (hg _ (List.mem_append_right _ (List.mem_append_right _ (List.mem_append_left _ (List.mem_of_getElem? (i := 28) rfl))))) (fun _ h9 => h9) rfl d_TX_addParagraph_27 ?_
  refine z_iconst hx hb (z := 1) d_TX_addParagraph_30 ?_
  refine z_isub hx hb d_TX_addParagraph_31 (v := (M_2 (1) 4 - 1)) rfl ?_
  have hM : M_2 = q_apar M q := by rw [eM_2, hp1, eM_1]; rfl
  have eW : pg_w ad cs rp (M_2) = pg_w ad cs rp (q_apar M q) := by rw [hM]
  have hP := Eq.mp (congrArg (fun q => va_P D vwCl q _) eW) hP
  have hD := Eq.mp (congrArg (va_D _) eW) hD
  exact W.iret (v := iI ((M_2 (1) 4 - 1))) hx hb hr (fun t ht hW => ⟨⟨_, (), rfl, by rw [hp2]; congr 1; omega, by rw [ht]; exact hP, va_K.moved hW.alike hK, hD⟩, hS.F ht⟩) hS.2.2 d_TX_addParagraph_32
set_option maxHeartbeats 4000000 in
set_option maxRecDepth 100000 in
/-- Text.addSign -/
theorem c_addSign (l : Launch) {D : va_G} {ad : Nat → Nat} {cs : pg_C} {rp : Option Nat} {M : Nat → Nat → Int} (sz : Nat) (q n : Nat) (k wd h : Int) (hq1 : 1 ≤ q) (hq : q ≤ 30) (hn : n < 600) (hp : M 1 4 = ((q : Nat) : Int)) (hs : M 1 5 = ((n : Nat) : Int)) : Met l y_TX_addSign ws_TX_addSign ({ frames := 0, cells := 0, slots := 0, locals := 0 } : Room) (va_Pc [.ref (ad (1)), .int (iI (k)), .int (iI (wd)), .int (iI (h))] (rw_B D vwCl (pg_tys cs) (pg_w ad cs rp M) sz)) (va_Qi (fun (r : Int32) (_ : Unit) => r = iI (((n : Nat) : Int))) (rw_E D vwCl (pg_tys cs) (pg_w ad cs rp M) (pg_w ad cs rp (q_asgn M q n k wd h)) sz) (va_A (pg_w ad cs rp M) sz)) 0 0 (va_A (pg_w ad cs rp M) sz) := by
  refine Met.ofW (cc := b_TX_addSign) (maxL := 4) (ret := (some .int)) (by decide) rfl ?_
  intro p e s m args below meth c s₁ B hml hv
  obtain ⟨rfl, hsz, hP, hK, hD0⟩ := hv
  have hx := B.exec
  have hb := B.bytes
  have hr := B.returns
  have hts := atoms_spec (ws := ws_TX_addSign) B.pre
  have hg : ∀ w ∈ gt, w.before _ s = true := fun w h => hts w (List.mem_cons_of_mem _ h)
  have hown : s.vm.findClass R_TX = some m.cls := findClass_of_methodNamed B.named
  have hlocks := B.notSynchronized
  subst hsz
  have hD := hD0.self (sz := s.heap.size)
  have hA : ∀ q : Nat, s.heap.size ≤ q → va_A (pg_w ad cs rp M) s.heap.size q := fun q h => Or.inr h
  have hS : va_S (va_A (pg_w ad cs rp M) s.heap.size) s.heap s.heap [] := va_S.rf
  have hl := lv_entry ([.ref (ad (1)), .int (iI (k)), .int (iI (wd)), .int (iI (h))]) (n := 4) (Nat.le_of_ble_eq_true rfl)
  rw [lg_entry_eq]
  generalize (lg_sl ([.ref (ad (1)), .int (iI (k)), .int (iI (wd)), .int (iI (h))]) ++ List.replicate (4 - (lg_sl ([.ref (ad (1)), .int (iI (k)), .int (iI (wd)), .int (iI (h))])).length) Slot.unset).toArray = ls at hl ⊢
  have hl : lv_has ls 4 [(0, .ref (ad (1))), (1, .int (iI (k))), (2, .int (iI (wd))), (3, .int (iI (h)))] := hl
  refine lv_aload_n hx hb d_TX_addSign_0 rfl (lv_at hl 0 rfl) ?_
  refine z_get (ci := 1) (C := R_TX) (T := T_TX) (N := 6) (v := .ref (ad (7))) hx hb hg in_TX hown hK hP (1) (by decide) rfl rfl 1 (by decide) (hg _ (List.mem_append_right _ (List.mem_append_right _ (List.mem_append_left _ (List.mem_of_getElem? (i := 20) rfl))))) (fun _ h9 => h9) rfl d_TX_addSign_1 ?_
  refine lv_aload_n hx hb d_TX_addSign_4 rfl (lv_at hl 0 rfl) ?_
  refine z_get (ci := 1) (C := R_TX) (T := T_TX) (N := 6) (v := .int (iI (M (1) 5))) hx hb hg in_TX hown hK hP (1) (by decide) rfl rfl 5 (by decide) (hg _ (List.mem_append_right _ (List.mem_append_right _ (List.mem_append_left _ (List.mem_of_getElem? (i := 30) rfl))))) (fun _ h9 => h9) rfl d_TX_addSign_5 ?_
  refine lv_iload_n hx hb d_TX_addSign_8 rfl (lv_at hl 1 rfl) ?_
  refine z_iast hx hb hK hP hD hS (7) 0 (by decide) (fun _ => rfl) rfl (v := k) (n) hs (by omega) (by decide) d_TX_addSign_9 (fun H locs hP hD hS => ?_)
  obtain ⟨M_1, eM_1⟩ : ∃ q_, q_ = mset M (7) (n) (k) := ⟨_, rfl⟩
  have hP : va_P D vwCl (pg_w ad cs rp M_1) H := by rw [eM_1]; exact hP
  have hD : va_D (va_A (pg_w ad cs rp M) s.heap.size) (pg_w ad cs rp M_1) := by rw [eM_1]; exact hD
  have hs1 : M_1 1 5 = ((n : Nat) : Int) := by rw [eM_1, mset_ne (by omega)]; exact hs
  refine lv_aload_n hx hb d_TX_addSign_10 rfl (lv_at hl 0 rfl) ?_
  refine z_get (ci := 1) (C := R_TX) (T := T_TX) (N := 6) (v := .ref (ad (8))) hx hb hg in_TX hown hK hP (1) (by decide) rfl rfl 2 (by decide) (hg _ (List.mem_append_right _ (List.mem_append_right _ (List.mem_append_left _ (List.mem_of_getElem? (i := 23) rfl))))) (fun _ h9 => h9) rfl d_TX_addSign_11 ?_
  refine lv_aload_n hx hb d_TX_addSign_14 rfl (lv_at hl 0 rfl) ?_
  refine z_get (ci := 1) (C := R_TX) (T := T_TX) (N := 6) (v := .int (iI (M_1 (1) 5))) hx hb hg in_TX hown hK hP (1) (by decide) rfl rfl 5 (by decide) (hg _ (List.mem_append_right _ (List.mem_append_right _ (List.mem_append_left _ (List.mem_of_getElem? (i := 30) rfl))))) (fun _ h9 => h9) rfl d_TX_addSign_15 ?_
  refine lv_iload_n hx hb d_TX_addSign_18 rfl (lv_at hl 2 rfl) ?_
  refine z_iast hx hb hK hP hD hS (8) 0 (by decide) (fun _ => rfl) rfl (v := wd) (n) hs1 (by omega) (by decide) d_TX_addSign_19 (fun H locs hP hD hS => ?_)
  obtain ⟨M_2, eM_2⟩ : ∃ q_, q_ = mset M_1 (8) (n) (wd) := ⟨_, rfl⟩
  have hP : va_P D vwCl (pg_w ad cs rp M_2) H := by rw [eM_2]; exact hP
  have hD : va_D (va_A (pg_w ad cs rp M) s.heap.size) (pg_w ad cs rp M_2) := by rw [eM_2]; exact hD
  have hs2 : M_2 1 5 = ((n : Nat) : Int) := by rw [eM_2, mset_ne (by omega)]; exact hs1
  refine lv_aload_n hx hb d_TX_addSign_20 rfl (lv_at hl 0 rfl) ?_
  refine z_get (ci := 1) (C := R_TX) (T := T_TX) (N := 6) (v := .ref (ad (9))) hx hb hg in_TX hown hK hP (1) (by decide) rfl rfl 3 (by decide) (hg _ (List.mem_append_right _ (List.mem_append_right _ (List.mem_append_left _ (List.mem_of_getElem? (i := 25) rfl))))) (fun _ h9 => h9) rfl d_TX_addSign_21 ?_
  refine lv_aload_n hx hb d_TX_addSign_24 rfl (lv_at hl 0 rfl) ?_
  refine z_get (ci := 1) (C := R_TX) (T := T_TX) (N := 6) (v := .int (iI (M_2 (1) 5))) hx hb hg in_TX hown hK hP (1) (by decide) rfl rfl 5 (by decide) (hg _ (List.mem_append_right _ (List.mem_append_right _ (List.mem_append_left _ (List.mem_of_getElem? (i := 30) rfl))))) (fun _ h9 => h9) rfl d_TX_addSign_25 ?_
  refine lv_iload_n hx hb d_TX_addSign_28 rfl (lv_at hl 3 rfl) ?_
  refine z_iast hx hb hK hP hD hS (9) 0 (by decide) (fun _ => rfl) rfl (v := h) (n) hs2 (by omega) (by decide) d_TX_addSign_29 (fun H locs hP hD hS => ?_)
  obtain ⟨M_3, eM_3⟩ : ∃ q_, q_ = mset M_2 (9) (n) (h) := ⟨_, rfl⟩
  have hP : va_P D vwCl (pg_w ad cs rp M_3) H := by rw [eM_3]; exact hP
  have hD : va_D (va_A (pg_w ad cs rp M) s.heap.size) (pg_w ad cs rp M_3) := by rw [eM_3]; exact hD
  have hs3 : M_3 1 5 = ((n : Nat) : Int) := by rw [eM_3, mset_ne (by omega)]; exact hs2
  refine lv_aload_n hx hb d_TX_addSign_30 rfl (lv_at hl 0 rfl) ?_
  refine lv_dup hx hb d_TX_addSign_31 rfl ?_
  refine z_get (ci := 1) (C := R_TX) (T := T_TX) (N := 6) (v := .int (iI (M_3 (1) 5))) hx hb hg in_TX hown hK hP (1) (by decide) rfl rfl 5 (by decide) (hg _ (List.mem_append_right _ (List.mem_append_right _ (List.mem_append_left _ (List.mem_of_getElem? (i := 30) rfl))))) (fun _ h9 => h9) rfl d_TX_addSign_32 ?_
  refine z_iconst hx hb (z := 1) d_TX_addSign_35 ?_
  refine z_iadd hx hb d_TX_addSign_36 (v := (M_3 (1) 5 + 1)) rfl ?_
  refine z_put (ci := 1) (C := R_TX) (T := T_TX) (N := 6) (v := .int (iI ((M_3 (1) 5 + 1)))) (ty := .int) (ce' := (pg_ce ad cs rp)) (r := va_up (M_3 (1)) 5 ((M_3 (1) 5 + 1))) hx hb hg in_TX ty_TX tk_TX nm_TX hown hK hP hD hS (1) (by decide) rfl rfl 5 (by decide) (hg _ (List.mem_append_right _ (List.mem_append_right _ (List.mem_append_left _ (List.mem_of_getElem? (i := 30) rfl))))) (fun _ h9 => h9) rfl (by decide +kernel) rfl rfl (Nat.le_of_ble_eq_true rfl) (fun _ _ => rfl) rfl d_TX_addSign_37 (fun H locs hP hD hS => ?_)
  obtain ⟨M_4, eM_4⟩ : ∃ q_, q_ = mset M_3 (1) (5) ((M_3 (1) 5 + 1)) := ⟨_, rfl⟩
  have hP : va_P D vwCl (pg_w ad cs rp M_4) H := by rw [eM_4]; exact hP
  have hD : va_D (va_A (pg_w ad cs rp M) s.heap.size) (pg_w ad cs rp M_4) := by rw [eM_4]; exact hD
  have hs4 : M_4 1 5 = ((n : Nat) : Int) + 1 := by rw [eM_4, mset_same, hs3]
  have hp4 : M_4 1 4 = ((q : Nat) : Int) := by rw [eM_4]; unfold mset; rw [va_up_self, va_up_ne _ _ (by omega)]; show M_3 1 4 = _; rw [eM_3, eM_2, eM_1, mset_ne (by omega), mset_ne (by omega), mset_ne (by omega)]; exact hp
  refine lv_aload_n hx hb d_TX_addSign_40 rfl (lv_at hl 0 rfl) ?_
  refine z_get (ci := 1) (C := R_TX) (T := T_TX) (N := 6) (v := .ref (ad (6))) hx hb hg in_TX hown hK hP (1) (by decide) rfl rfl 0 (by decide) (hg _ (List.mem_append_right _ (List.mem_append_right _ (List.mem_append_left _ (List.mem_of_getElem? (i := 16) rfl))))) (fun _ h9 => h9) rfl d_TX_addSign_41 ?_
  refine lv_aload_n hx hb d_TX_addSign_44 rfl (lv_at hl 0 rfl) ?_
  refine z_get (ci := 1) (C := R_TX) (T := T_TX) (N := 6) (v := .int (iI (M_4 (1) 4))) hx hb hg in_TX hown hK hP (1) (by decide) rfl rfl 4 (by decide) (hg _ (List.mem_append_right _ (List.mem_append_right _ (List.mem_append_left _ (List.mem_of_getElem? (i := 28) rfl))))) (fun _ h9 => h9) rfl d_TX_addSign_45 ?_
  refine z_iconst hx hb (z := 1) d_TX_addSign_48 ?_
  refine z_isub hx hb d_TX_addSign_49 (v := (M_4 (1) 4 - 1)) rfl ?_
  refine z_aald hx hb hK hP (6) 2 (by decide) (fun _ => rfl) rfl rfl ((q - 1)) (by omega) (by omega) (by decide) d_TX_addSign_50 ?_
  refine lv_aload_n hx hb d_TX_addSign_51 rfl (lv_at hl 0 rfl) ?_
  refine z_get (ci := 1) (C := R_TX) (T := T_TX) (N := 6) (v := .int (iI (M_4 (1) 5))) hx hb hg in_TX hown hK hP (1) (by decide) rfl rfl 5 (by decide) (hg _ (List.mem_append_right _ (List.mem_append_right _ (List.mem_append_left _ (List.mem_of_getElem? (i := 30) rfl))))) (fun _ h9 => h9) rfl d_TX_addSign_52 ?_
  refine z_put (ci := 6) (C := R_PA) (T := T_PA) (N := 6) (v := .int (iI (M_4 (1) 5))) (ty := .int) (ce' := (pg_ce ad cs rp)) (r := va_up (M_4 (29 + 4 * (q - 1))) 5 (M_4 (1) 5)) hx hb hg in_PA ty_PA tk_PA nm_PA hown hK hP hD hS (29 + 4 * (q - 1)) (by omega) (pg_par _ _ _ _ _) rfl 5 (by decide) (hg _ (List.mem_append_right _ (List.mem_append_right _ (List.mem_append_left _ (List.mem_of_getElem? (i := 9) rfl))))) (fun _ h9 => h9) rfl (by decide +kernel) rfl rfl (Nat.le_of_ble_eq_true rfl) (fun _ _ => rfl) (by rw [pg_par]; rfl) d_TX_addSign_55 (fun H locs hP hD hS => ?_)
  obtain ⟨M_5, eM_5⟩ : ∃ q_, q_ = mset M_4 (29 + 4 * (q - 1)) (5) (M_4 (1) 5) := ⟨_, rfl⟩
  have hP : va_P D vwCl (pg_w ad cs rp M_5) H := by rw [eM_5]; exact hP
  have hD : va_D (va_A (pg_w ad cs rp M) s.heap.size) (pg_w ad cs rp M_5) := by rw [eM_5]; exact hD
  have hs5 : M_5 1 5 = ((n : Nat) : Int) + 1 := by rw [eM_5, mset_ne (by omega)]; exact hs4
  refine lv_aload_n hx hb d_TX_addSign_58 rfl (lv_at hl 0 rfl) ?_
  refine z_get (ci := 1) (C := R_TX) (T := T_TX) (N := 6) (v := .int (iI (M_5 (1) 5))) hx hb hg in_TX hown hK hP (1) (by decide) rfl rfl 5 (by decide) (hg _ (List.mem_append_right _ (List.mem_append_right _ (List.mem_append_left _ (List.mem_of_getElem? (i := 30) rfl))))) (fun _ h9 => h9) rfl d_TX_addSign_59 ?_
  refine z_iconst hx hb (z := 1) d_TX_addSign_62 ?_
  refine z_isub hx hb d_TX_addSign_63 (v := (M_5 (1) 5 - 1)) rfl ?_
  have hM : M_5 = q_asgn M q n k wd h := by rw [eM_5, hs4, eM_4, hs3, eM_3, eM_2, eM_1]; rfl
  have eW : pg_w ad cs rp (M_5) = pg_w ad cs rp (q_asgn M q n k wd h) := by rw [hM]
  have hP := Eq.mp (congrArg (fun q => va_P D vwCl q _) eW) hP
  have hD := Eq.mp (congrArg (va_D _) eW) hD
  exact W.iret (v := iI ((M_5 (1) 5 - 1))) hx hb hr (fun t ht hW => ⟨⟨_, (), rfl, by rw [hs5]; congr 1; omega, by rw [ht]; exact hP, va_K.moved hW.alike hK, hD⟩, hS.F ht⟩) hS.2.2 d_TX_addSign_64
set_option maxHeartbeats 4000000 in
set_option maxRecDepth 100000 in
/-- PageLayout.forgetLayout -/
theorem c_forgetLayout (l : Launch) {D : va_G} {ad : Nat → Nat} {cs : pg_C} {rp : Option Nat} {M : Nat → Nat → Int} (sz : Nat)  : Met l y_PL_forgetLayout ws_PL_forgetLayout ({ frames := 0, cells := 0, slots := 0, locals := 0 } : Room) (va_Pc [.ref (ad (0))] (rw_B D vwCl (pg_tys cs) (pg_w ad cs rp M) sz)) (va_Qv (fun _ : Unit => True) (rw_E D vwCl (pg_tys cs) (pg_w ad cs rp M) (pg_w ad cs rp (q_fg M)) sz) (va_A (pg_w ad cs rp M) sz)) 0 0 (va_A (pg_w ad cs rp M) sz) := by
  refine Met.ofW (cc := b_PL_forgetLayout) (maxL := 1) (ret := none) (by decide) rfl ?_
  intro p e s m args below meth c s₁ B hml hv
  obtain ⟨rfl, hsz, hP, hK, hD0⟩ := hv
  have hx := B.exec
  have hb := B.bytes
  have hr := B.returns
  have hts := atoms_spec (ws := ws_PL_forgetLayout) B.pre
  have hg : ∀ w ∈ gt, w.before _ s = true := fun w h => hts w (List.mem_cons_of_mem _ h)
  have hown : s.vm.findClass R_PL = some m.cls := findClass_of_methodNamed B.named
  have hlocks := B.notSynchronized
  subst hsz
  have hD := hD0.self (sz := s.heap.size)
  have hA : ∀ q : Nat, s.heap.size ≤ q → va_A (pg_w ad cs rp M) s.heap.size q := fun q h => Or.inr h
  have hS : va_S (va_A (pg_w ad cs rp M) s.heap.size) s.heap s.heap [] := va_S.rf
  have hl := lv_entry ([.ref (ad (0))]) (n := 1) (Nat.le_of_ble_eq_true rfl)
  rw [lg_entry_eq]
  generalize (lg_sl ([.ref (ad (0))]) ++ List.replicate (1 - (lg_sl ([.ref (ad (0))])).length) Slot.unset).toArray = ls at hl ⊢
  have hl : lv_has ls 1 [(0, .ref (ad (0)))] := hl
  refine lv_aload_n hx hb d_PL_forgetLayout_0 rfl (lv_at hl 0 rfl) ?_
  refine z_iconst hx hb (z := 0) d_PL_forgetLayout_1 ?_
  refine z_put (ci := 0) (C := R_PL) (T := T_PL) (N := 5) (v := .int (iI (0))) (ty := .boolean) (ce' := (pg_ce ad cs rp)) (r := va_up (M (0)) 4 (0)) hx hb hg in_PL ty_PL tk_PL nm_PL hown hK hP hD hS (0) (by decide) rfl rfl 4 (by decide) (hg _ (List.mem_append_right _ (List.mem_append_right _ (List.mem_append_right _ (List.mem_append_right _ (List.mem_append_right _ (List.mem_append_left _ (List.mem_of_getElem? (i := 3) rfl)))))))) (fun _ h9 => h9) rfl (by decide +kernel) rfl rfl (Nat.le_of_ble_eq_true rfl) (fun _ _ => rfl) rfl d_PL_forgetLayout_2 (fun H locs hP hD hS => ?_)
  obtain ⟨M_1, eM_1⟩ : ∃ q_, q_ = mset M (0) (4) (0) := ⟨_, rfl⟩
  have hP : va_P D vwCl (pg_w ad cs rp M_1) H := by rw [eM_1]; exact hP
  have hD : va_D (va_A (pg_w ad cs rp M) s.heap.size) (pg_w ad cs rp M_1) := by rw [eM_1]; exact hD
  refine lv_aload_n hx hb d_PL_forgetLayout_5 rfl (lv_at hl 0 rfl) ?_
  refine z_get (ci := 0) (C := R_PL) (T := T_PL) (N := 5) (v := .ref (ad (3))) hx hb hg in_PL hown hK hP (0) (by decide) rfl rfl 2 (by decide) (hg _ (List.mem_append_right _ (List.mem_append_right _ (List.mem_append_right _ (List.mem_append_right _ (List.mem_append_right _ (List.mem_append_left _ (List.mem_of_getElem? (i := 1) rfl)))))))) (fun _ h9 => h9) rfl d_PL_forgetLayout_6 ?_
  refine z_iconst hx hb (z := 0) d_PL_forgetLayout_9 ?_
  refine z_put (ci := 3) (C := R_LN) (T := T_LN) (N := 6) (v := .int (iI (0))) (ty := .int) (ce' := (pg_ce ad cs rp)) (r := va_up (M_1 (3)) 2 (0)) hx hb hg in_LN ty_LN tk_LN nm_LN hown hK hP hD hS (3) (by decide) rfl rfl 2 (by decide) (hg _ (List.mem_append_right _ (List.mem_append_right _ (List.mem_append_right _ (List.mem_append_right _ (List.mem_append_left _ (List.mem_of_getElem? (i := 10) rfl))))))) (fun _ h9 => h9) rfl (by decide +kernel) rfl rfl (Nat.le_of_ble_eq_true rfl) (fun _ _ => rfl) rfl d_PL_forgetLayout_10 (fun H locs hP hD hS => ?_)
  obtain ⟨M_2, eM_2⟩ : ∃ q_, q_ = mset M_1 (3) (2) (0) := ⟨_, rfl⟩
  have hP : va_P D vwCl (pg_w ad cs rp M_2) H := by rw [eM_2]; exact hP
  have hD : va_D (va_A (pg_w ad cs rp M) s.heap.size) (pg_w ad cs rp M_2) := by rw [eM_2]; exact hD
  refine lv_aload_n hx hb d_PL_forgetLayout_13 rfl (lv_at hl 0 rfl) ?_
  refine z_get (ci := 0) (C := R_PL) (T := T_PL) (N := 5) (v := .ref (ad (5))) hx hb hg in_PL hown hK hP (0) (by decide) rfl rfl 3 (by decide) (hg _ (List.mem_append_right _ (List.mem_append_right _ (List.mem_append_right _ (List.mem_append_right _ (List.mem_append_right _ (List.mem_append_left _ (List.mem_of_getElem? (i := 2) rfl)))))))) (fun _ h9 => h9) rfl d_PL_forgetLayout_14 ?_
  refine z_iconst hx hb (z := 0) d_PL_forgetLayout_17 ?_
  refine z_put (ci := 5) (C := R_PG) (T := T_PG) (N := 5) (v := .int (iI (0))) (ty := .int) (ce' := (pg_ce ad cs rp)) (r := va_up (M_2 (5)) 1 (0)) hx hb hg in_PG ty_PG tk_PG nm_PG hown hK hP hD hS (5) (by decide) rfl rfl 1 (by decide) (hg _ (List.mem_append_right _ (List.mem_append_right _ (List.mem_append_right _ (List.mem_append_right _ (List.mem_append_left _ (List.mem_of_getElem? (i := 30) rfl))))))) (fun _ h9 => h9) rfl (by decide +kernel) rfl rfl (Nat.le_of_ble_eq_true rfl) (fun _ _ => rfl) rfl d_PL_forgetLayout_18 (fun H locs hP hD hS => ?_)
  obtain ⟨M_3, eM_3⟩ : ∃ q_, q_ = mset M_2 (5) (1) (0) := ⟨_, rfl⟩
  have hP : va_P D vwCl (pg_w ad cs rp M_3) H := by rw [eM_3]; exact hP
  have hD : va_D (va_A (pg_w ad cs rp M) s.heap.size) (pg_w ad cs rp M_3) := by rw [eM_3]; exact hD
  have hM : M_3 = q_fg M := by rw [eM_3, eM_2, eM_1]; rfl
  have eW : pg_w ad cs rp (M_3) = pg_w ad cs rp (q_fg M) := by rw [hM]
  have hP := Eq.mp (congrArg (fun q => va_P D vwCl q _) eW) hP
  have hD := Eq.mp (congrArg (va_D _) eW) hD
  exact W.vret hx hb hr (fun t ht hW => ⟨⟨(), rfl, trivial, by rw [ht]; exact hP, va_K.moved hW.alike hK, hD⟩, hS.F ht⟩) hS.2.2 d_PL_forgetLayout_21
set_option maxHeartbeats 4000000 in
set_option maxRecDepth 100000 in
/-- PageLayout.clear -/
theorem c_clear (l : Launch) {D : va_G} {ad : Nat → Nat} {cs : pg_C} {rp : Option Nat} {M : Nat → Nat → Int} (sz : Nat)  : Met l y_PL_clear ws_PL_clear ({ frames := 1, cells := 0, slots := 0, locals := 20 } : Room) (va_Pc [.ref (ad (0))] (rw_B D vwCl (pg_tys cs) (pg_w ad cs rp M) sz)) (va_Qv (fun _ : Unit => True) (rw_E D vwCl (pg_tys cs) (pg_w ad cs rp M) (pg_w ad cs rp (q_clr M)) sz) (va_A (pg_w ad cs rp M) sz)) 0 0 (va_A (pg_w ad cs rp M) sz) := by
  refine Met.ofW (cc := b_PL_clear) (maxL := 1) (ret := none) (by decide) rfl ?_
  intro p e s m args below meth c s₁ B hml hv
  obtain ⟨rfl, hsz, hP, hK, hD0⟩ := hv
  have hx := B.exec
  have hb := B.bytes
  have hr := B.returns
  have hts := atoms_spec (ws := ws_PL_clear) B.pre
  have hg : ∀ w ∈ gt, w.before _ s = true := fun w h => hts w (List.mem_cons_of_mem _ h)
  have hown : s.vm.findClass R_PL = some m.cls := findClass_of_methodNamed B.named
  have hlocks := B.notSynchronized
  subst hsz
  have hD := hD0.self (sz := s.heap.size)
  have hA : ∀ q : Nat, s.heap.size ≤ q → va_A (pg_w ad cs rp M) s.heap.size q := fun q h => Or.inr h
  have hS : va_S (va_A (pg_w ad cs rp M) s.heap.size) s.heap s.heap [] := va_S.rf
  have hl := lv_entry ([.ref (ad (0))]) (n := 1) (Nat.le_of_ble_eq_true rfl)
  rw [lg_entry_eq]
  generalize (lg_sl ([.ref (ad (0))]) ++ List.replicate (1 - (lg_sl ([.ref (ad (0))])).length) Slot.unset).toArray = ls at hl ⊢
  have hl : lv_has ls 1 [(0, .ref (ad (0)))] := hl
  refine lv_aload_n hx hb d_PL_clear_0 rfl (lv_at hl 0 rfl) ?_
  refine z_get (ci := 0) (C := R_PL) (T := T_PL) (N := 5) (v := .ref (ad (1))) hx hb hg in_PL hown hK hP (0) (by decide) rfl rfl 0 (by decide) (hg _ (List.mem_append_right _ (List.mem_append_right _ (List.mem_append_right _ (List.mem_append_right _ (List.mem_append_left _ (List.mem_of_getElem? (i := 39) rfl))))))) (fun _ h9 => h9) rfl d_PL_clear_1 ?_
  refine z_iconst hx hb (z := 0) d_PL_clear_4 ?_
  refine z_put (ci := 1) (C := R_TX) (T := T_TX) (N := 6) (v := .int (iI (0))) (ty := .int) (ce' := (pg_ce ad cs rp)) (r := va_up (M (1)) 4 (0)) hx hb hg in_TX ty_TX tk_TX nm_TX hown hK hP hD hS (1) (by decide) rfl rfl 4 (by decide) (hg _ (List.mem_append_right _ (List.mem_append_right _ (List.mem_append_left _ (List.mem_of_getElem? (i := 27) rfl))))) (fun _ h9 => h9) rfl (by decide +kernel) rfl rfl (Nat.le_of_ble_eq_true rfl) (fun _ _ => rfl) rfl d_PL_clear_5 (fun H locs hP hD hS => ?_)
  obtain ⟨M_1, eM_1⟩ : ∃ q_, q_ = mset M (1) (4) (0) := ⟨_, rfl⟩
  have hP : va_P D vwCl (pg_w ad cs rp M_1) H := by rw [eM_1]; exact hP
  have hD : va_D (va_A (pg_w ad cs rp M) s.heap.size) (pg_w ad cs rp M_1) := by rw [eM_1]; exact hD
  refine lv_aload_n hx hb d_PL_clear_8 rfl (lv_at hl 0 rfl) ?_
  refine z_get (ci := 0) (C := R_PL) (T := T_PL) (N := 5) (v := .ref (ad (1))) hx hb hg in_PL hown hK hP (0) (by decide) rfl rfl 0 (by decide) (hg _ (List.mem_append_right _ (List.mem_append_right _ (List.mem_append_right _ (List.mem_append_right _ (List.mem_append_left _ (List.mem_of_getElem? (i := 39) rfl))))))) (fun _ h9 => h9) rfl d_PL_clear_9 ?_
  refine z_iconst hx hb (z := 0) d_PL_clear_12 ?_
  refine z_put (ci := 1) (C := R_TX) (T := T_TX) (N := 6) (v := .int (iI (0))) (ty := .int) (ce' := (pg_ce ad cs rp)) (r := va_up (M_1 (1)) 5 (0)) hx hb hg in_TX ty_TX tk_TX nm_TX hown hK hP hD hS (1) (by decide) rfl rfl 5 (by decide) (hg _ (List.mem_append_right _ (List.mem_append_right _ (List.mem_append_left _ (List.mem_of_getElem? (i := 31) rfl))))) (fun _ h9 => h9) rfl (by decide +kernel) rfl rfl (Nat.le_of_ble_eq_true rfl) (fun _ _ => rfl) rfl d_PL_clear_13 (fun H locs hP hD hS => ?_)
  obtain ⟨M_2, eM_2⟩ : ∃ q_, q_ = mset M_1 (1) (5) (0) := ⟨_, rfl⟩
  have hP : va_P D vwCl (pg_w ad cs rp M_2) H := by rw [eM_2]; exact hP
  have hD : va_D (va_A (pg_w ad cs rp M) s.heap.size) (pg_w ad cs rp M_2) := by rw [eM_2]; exact hD
  refine lv_aload_n hx hb d_PL_clear_16 rfl (lv_at hl 0 rfl) ?_
  refine rw_Vv (As := []) (rest := []) (w' := (pg_w ad cs rp (q_fg M_2))) ⟨hx, hb, hml, hown, hg⟩ (c_forgetLayout l _) (cwV 0 hg (gt_V (List.mem_append_right _ (List.mem_append_right _ (List.mem_append_right _ (List.mem_append_right _ (List.mem_append_right _ (List.mem_append_left _ (List.mem_of_getElem? (i := 13) rfl))))))) (List.mem_append_right _ (List.mem_append_right _ (List.mem_append_right _ (List.mem_append_right _ (List.mem_append_right _ (List.mem_append_left _ (List.mem_of_getElem? (i := 14) rfl))))))) (List.mem_append_left _ (List.mem_of_getElem? (i := 0) rfl)) (List.mem_append_right _ (List.mem_append_left _ (List.mem_of_getElem? (i := 2) rfl))) (List.mem_append_right _ (List.mem_append_right _ (List.mem_append_right _ (List.mem_append_right _ (List.mem_append_right _ (List.mem_append_left _ (List.mem_of_getElem? (i := 15) rfl)))))))) rfl rfl rfl (by decide +kernel) ⟨Nat.le_of_ble_eq_true rfl, Nat.le_of_ble_eq_true rfl⟩) hK hP hD hS hA (va_recv hK hP (ci := 0) (q0 := 0) rfl (wl_atE (by decide) rfl)) rfl hl.1 rfl (Nat.le_of_ble_eq_true rfl) d_PL_clear_17 ⟨Nat.zero_le _, Nat.zero_le _⟩ (fun H locs hP hD hS => ?_)
  obtain ⟨M_3, eM_3⟩ : ∃ q_, q_ = q_fg M_2 := ⟨_, rfl⟩
  have hP : va_P D vwCl (pg_w ad cs rp M_3) H := by rw [eM_3]; exact hP
  have hD : va_D (va_A (pg_w ad cs rp M) s.heap.size) (pg_w ad cs rp M_3) := by rw [eM_3]; exact hD
  have hM : M_3 = q_clr M := by rw [eM_3, eM_2, eM_1]; rfl
  have eW : pg_w ad cs rp (M_3) = pg_w ad cs rp (q_clr M) := by rw [hM]
  have hP := Eq.mp (congrArg (fun q => va_P D vwCl q _) eW) hP
  have hD := Eq.mp (congrArg (va_D _) eW) hD
  exact W.vret hx hb hr (fun t ht hW => ⟨⟨(), rfl, trivial, by rw [ht]; exact hP, va_K.moved hW.alike hK, hD⟩, hS.F ht⟩) hS.2.2 d_PL_clear_20
