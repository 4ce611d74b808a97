set_option maxHeartbeats 4000000 in
set_option maxRecDepth 100000 in
/-- Ruler.beginStretch -/
theorem c_beginStretch (l : Launch) {D : va_G} {ad : Nat → Nat} {cs : pg_C} {rp : Option Nat} {M : Nat → Nat → Int} (sz : Nat) (x : Int) : Met l y_RU_beginStretch ws_RU_beginStretch ({ frames := 0, cells := 0, slots := 0, locals := 0 } : Room) (va_Pc [.ref (ad (4)), .int (iI (x))] (rw_B D vwCl (pg_tys cs) (pg_w ad cs rp M) sz)) (va_Qv (fun _ : Unit => True) (rw_E D vwCl (pg_tys cs) (pg_w ad cs rp M) (pg_w ad cs rp (rset M (M 4 3, x, 0, 0))) sz) (va_A (pg_w ad cs rp M) sz)) 0 0 (va_A (pg_w ad cs rp M) sz) := by
  refine Met.ofW (cc := b_RU_beginStretch) (maxL := 2) (ret := none) (by decide) rfl ?_
  intro p e s m args below meth c s₁ B hml hv
  obtain ⟨rfl, hsz, hP, hK, hD0⟩ := hv
  have hx := B.exec
  have hb := B.bytes
  have hr := B.returns
  have hts := atoms_spec (ws := ws_RU_beginStretch) B.pre
  have hg : ∀ w ∈ gt, w.before _ s = true := fun w h => hts w (List.mem_cons_of_mem _ h)
  have hown : s.vm.findClass R_RU = some m.cls := findClass_of_methodNamed B.named
  have hlocks := B.notSynchronized
  subst hsz
  have hD := hD0.self (sz := s.heap.size)
  have hA : ∀ q : Nat, s.heap.size ≤ q → va_A (pg_w ad cs rp M) s.heap.size q := fun q h => Or.inr h
  have hS : va_S (va_A (pg_w ad cs rp M) s.heap.size) s.heap s.heap [] := va_S.rf
  have hl := lv_entry ([.ref (ad (4)), .int (iI (x))]) (n := 2) (Nat.le_of_ble_eq_true rfl)
  rw [lg_entry_eq]
  generalize (lg_sl ([.ref (ad (4)), .int (iI (x))]) ++ List.replicate (2 - (lg_sl ([.ref (ad (4)), .int (iI (x))])).length) Slot.unset).toArray = ls at hl ⊢
  have hl : lv_has ls 2 [(0, .ref (ad (4))), (1, .int (iI (x)))] := hl
  refine lv_aload_n hx hb d_RU_beginStretch_0 rfl (lv_at hl 0 rfl) ?_
  refine lv_iload_n hx hb d_RU_beginStretch_1 rfl (lv_at hl 1 rfl) ?_
  refine z_put (ci := 4) (C := R_RU) (T := T_RU) (N := 7) (v := .int (iI (x))) (ty := .int) (ce' := (pg_ce ad cs rp)) (r := va_up (M (4)) 4 (x)) hx hb hg in_RU ty_RU tk_RU nm_RU hown hK hP hD hS (4) (by decide) rfl rfl 4 (by decide) (hg _ (List.mem_append_right _ (List.mem_append_right _ (List.mem_append_right _ (List.mem_append_left _ (List.mem_of_getElem? (i := 33) rfl)))))) (fun _ h9 => h9) rfl (by decide +kernel) rfl rfl (Nat.le_of_ble_eq_true rfl) (fun _ _ => rfl) rfl d_RU_beginStretch_2 (fun H locs hP hD hS => ?_)
  obtain ⟨M_1, eM_1⟩ : ∃ q_, q_ = mset M (4) (4) (x) := ⟨_, rfl⟩
  have hP : va_P D vwCl (pg_w ad cs rp M_1) H := by rw [eM_1]; exact hP
  have hD : va_D (va_A (pg_w ad cs rp M) s.heap.size) (pg_w ad cs rp M_1) := by rw [eM_1]; exact hD
  refine lv_aload_n hx hb d_RU_beginStretch_5 rfl (lv_at hl 0 rfl) ?_
  refine z_iconst hx hb (z := 0) d_RU_beginStretch_6 ?_
  refine z_put (ci := 4) (C := R_RU) (T := T_RU) (N := 7) (v := .int (iI (0))) (ty := .int) (ce' := (pg_ce ad cs rp)) (r := va_up (M_1 (4)) 5 (0)) hx hb hg in_RU ty_RU tk_RU nm_RU hown hK hP hD hS (4) (by decide) rfl rfl 5 (by decide) (hg _ (List.mem_append_right _ (List.mem_append_right _ (List.mem_append_right _ (List.mem_append_left _ (List.mem_of_getElem? (i := 34) rfl)))))) (fun _ h9 => h9) rfl (by decide +kernel) rfl rfl (Nat.le_of_ble_eq_true rfl) (fun _ _ => rfl) rfl d_RU_beginStretch_7 (fun H locs hP hD hS => ?_)
  obtain ⟨M_2, eM_2⟩ : ∃ q_, q_ = mset M_1 (4) (5) (0) := ⟨_, rfl⟩
  have hP : va_P D vwCl (pg_w ad cs rp M_2) H := by rw [eM_2]; exact hP
  have hD : va_D (va_A (pg_w ad cs rp M) s.heap.size) (pg_w ad cs rp M_2) := by rw [eM_2]; exact hD
  refine lv_aload_n hx hb d_RU_beginStretch_10 rfl (lv_at hl 0 rfl) ?_
  refine z_iconst hx hb (z := 0) d_RU_beginStretch_11 ?_
  refine z_put (ci := 4) (C := R_RU) (T := T_RU) (N := 7) (v := .int (iI (0))) (ty := .int) (ce' := (pg_ce ad cs rp)) (r := va_up (M_2 (4)) 6 (0)) hx hb hg in_RU ty_RU tk_RU nm_RU hown hK hP hD hS (4) (by decide) rfl rfl 6 (by decide) (hg _ (List.mem_append_right _ (List.mem_append_right _ (List.mem_append_right _ (List.mem_append_left _ (List.mem_of_getElem? (i := 35) rfl)))))) (fun _ h9 => h9) rfl (by decide +kernel) rfl rfl (Nat.le_of_ble_eq_true rfl) (fun _ _ => rfl) rfl d_RU_beginStretch_12 (fun H locs hP hD hS => ?_)
  obtain ⟨M_3, eM_3⟩ : ∃ q_, q_ = mset M_2 (4) (6) (0) := ⟨_, rfl⟩
  have hP : va_P D vwCl (pg_w ad cs rp M_3) H := by rw [eM_3]; exact hP
  have hD : va_D (va_A (pg_w ad cs rp M) s.heap.size) (pg_w ad cs rp M_3) := by rw [eM_3]; exact hD
  have hM : M_3 = rset M (M 4 3, x, 0, 0) := by simp only [eM_3, eM_2, eM_1, m4_3, m4_4, m4_5, m4_6, rset_rset, rv3, rv4, rv5, rv6]
  have eW : pg_w ad cs rp (M_3) = pg_w ad cs rp (rset M (M 4 3, x, 0, 0)) := by rw [hM]
  have hP := Eq.mp (congrArg (fun q => va_P D vwCl q _) eW) hP
  have hD := Eq.mp (congrArg (va_D _) eW) hD
  exact W.vret hx hb hr (fun t ht hW => ⟨⟨(), rfl, trivial, by rw [ht]; exact hP, va_K.moved hW.alike hK, hD⟩, hS.F ht⟩) hS.2.2 d_RU_beginStretch_15
set_option maxHeartbeats 4000000 in
set_option maxRecDepth 100000 in
/-- Ruler.begin -/
theorem c_begin (l : Launch) {D : va_G} {ad : Nat → Nat} {cs : pg_C} {rp : Option Nat} {M : Nat → Nat → Int} (sz : Nat) (i : Nat) (x : Int) (hi : i < 30) : Met l y_RU_begin ws_RU_begin ({ frames := 1, cells := 0, slots := 0, locals := 21 } : Room) (va_Pc [.ref (ad (4)), .ref (ad (29 + 4 * i)), .int (iI (x))] (rw_B D vwCl (pg_tys cs) (pg_w ad cs rp M) sz)) (va_Qv (fun _ : Unit => True) (rw_E D vwCl (pg_tys cs) (pg_w ad cs rp M) (pg_w ad cs (some i) (rset M (0, x, 0, 0))) sz) (va_A (pg_w ad cs rp M) sz)) 0 0 (va_A (pg_w ad cs rp M) sz) := by
  refine Met.ofW (cc := b_RU_begin) (maxL := 3) (ret := none) (by decide) rfl ?_
  intro p e s m args below meth c s₁ B hml hv
  obtain ⟨rfl, hsz, hP, hK, hD0⟩ := hv
  have hx := B.exec
  have hb := B.bytes
  have hr := B.returns
  have hts := atoms_spec (ws := ws_RU_begin) B.pre
  have hg : ∀ w ∈ gt, w.before _ s = true := fun w h => hts w (List.mem_cons_of_mem _ h)
  have hown : s.vm.findClass R_RU = some m.cls := findClass_of_methodNamed B.named
  have hlocks := B.notSynchronized
  subst hsz
  have hD := hD0.self (sz := s.heap.size)
  have hA : ∀ q : Nat, s.heap.size ≤ q → va_A (pg_w ad cs rp M) s.heap.size q := fun q h => Or.inr h
  have hS : va_S (va_A (pg_w ad cs rp M) s.heap.size) s.heap s.heap [] := va_S.rf
  have hl := lv_entry ([.ref (ad (4)), .ref (ad (29 + 4 * i)), .int (iI (x))]) (n := 3) (Nat.le_of_ble_eq_true rfl)
  rw [lg_entry_eq]
  generalize (lg_sl ([.ref (ad (4)), .ref (ad (29 + 4 * i)), .int (iI (x))]) ++ List.replicate (3 - (lg_sl ([.ref (ad (4)), .ref (ad (29 + 4 * i)), .int (iI (x))])).length) Slot.unset).toArray = ls at hl ⊢
  have hl : lv_has ls 3 [(0, .ref (ad (4))), (1, .ref (ad (29 + 4 * i))), (2, .int (iI (x)))] := hl
  refine lv_aload_n hx hb d_RU_begin_0 rfl (lv_at hl 0 rfl) ?_
  refine lv_aload_n hx hb d_RU_begin_1 rfl (lv_at hl 1 rfl) ?_
  refine z_put (ci := 4) (C := R_RU) (T := T_RU) (N := 7) (v := .ref (ad (29 + 4 * i))) (ty := .object "PageLayout$Paragraph") (ce' := (pg_ce ad cs (some i))) (r := M 4) hx hb hg in_RU ty_RU tk_RU nm_RU hown hK hP hD hS (4) (by decide) rfl rfl 2 (by decide) (hg _ (List.mem_append_right _ (List.mem_append_right _ (List.mem_append_right _ (List.mem_append_left _ (List.mem_of_getElem? (i := 31) rfl)))))) (fun _ h9 => h9) rfl (by decide +kernel) rfl rfl (Nat.le_of_ble_eq_true rfl) (pg_rp ad cs _ _) rfl d_RU_begin_2 (fun H locs hP hD hS => ?_)
  rw [up_same] at hP hD
  have hP : va_P D vwCl (pg_w ad cs (some i) M) H := hP
  have hD : va_D (va_A (pg_w ad cs rp M) s.heap.size) (pg_w ad cs (some i) M) := hD
  refine lv_aload_n hx hb d_RU_begin_5 rfl (lv_at hl 0 rfl) ?_
  refine z_iconst hx hb (z := 0) d_RU_begin_6 ?_
  refine z_put (ci := 4) (C := R_RU) (T := T_RU) (N := 7) (v := .int (iI (0))) (ty := .boolean) (ce' := (pg_ce ad cs (some i))) (r := va_up (M (4)) 3 (0)) hx hb hg in_RU ty_RU tk_RU nm_RU hown hK hP hD hS (4) (by decide) rfl rfl 3 (by decide) (hg _ (List.mem_append_right _ (List.mem_append_right _ (List.mem_append_right _ (List.mem_append_left _ (List.mem_of_getElem? (i := 32) rfl)))))) (fun _ h9 => h9) rfl (by decide +kernel) rfl rfl (Nat.le_of_ble_eq_true rfl) (fun _ _ => rfl) rfl d_RU_begin_7 (fun H locs hP hD hS => ?_)
  obtain ⟨M_1, eM_1⟩ : ∃ q_, q_ = mset M (4) (3) (0) := ⟨_, rfl⟩
  have hP : va_P D vwCl (pg_w ad cs (some i) M_1) H := by rw [eM_1]; exact hP
  have hD : va_D (va_A (pg_w ad cs rp M) s.heap.size) (pg_w ad cs (some i) M_1) := by rw [eM_1]; exact hD
  refine lv_aload_n hx hb d_RU_begin_10 rfl (lv_at hl 0 rfl) ?_
  refine lv_iload_n hx hb d_RU_begin_11 rfl (lv_at hl 2 rfl) ?_
  refine rw_Vv (As := [.int (iI (x))]) (rest := []) (w' := (pg_w ad cs (some i) (rset M_1 (M_1 4 3, x, 0, 0)))) ⟨hx, hb, hml, hown, hg⟩ (c_beginStretch l _ (x)) (cwV 1 hg (gt_V (List.mem_append_right _ (List.mem_append_right _ (List.mem_append_right _ (List.mem_append_right _ (List.mem_append_right _ (List.mem_append_right _ (List.mem_append_right _ (List.mem_append_left _ (List.mem_of_getElem? (i := 6) rfl))))))))) (List.mem_append_right _ (List.mem_append_right _ (List.mem_append_right _ (List.mem_append_right _ (List.mem_append_right _ (List.mem_append_right _ (List.mem_append_right _ (List.mem_append_left _ (List.mem_of_getElem? (i := 7) rfl))))))))) (List.mem_append_left _ (List.mem_of_getElem? (i := 11) rfl)) (List.mem_append_right _ (List.mem_append_left _ (List.mem_of_getElem? (i := 7) rfl))) (List.mem_append_right _ (List.mem_append_right _ (List.mem_append_right _ (List.mem_append_right _ (List.mem_append_right _ (List.mem_append_right _ (List.mem_append_right _ (List.mem_append_left _ (List.mem_of_getElem? (i := 8) rfl)))))))))) rfl rfl rfl (by decide +kernel) ⟨Nat.le_of_ble_eq_true rfl, Nat.le_of_ble_eq_true rfl⟩) hK hP hD hS hA (va_recv hK hP (ci := 4) (q0 := 4) rfl (wl_atE (by decide) rfl)) rfl hl.1 rfl (Nat.le_of_ble_eq_true rfl) d_RU_begin_12 ⟨Nat.zero_le _, Nat.zero_le _⟩ (fun H locs hP hD hS => ?_)
  obtain ⟨M_2, eM_2⟩ : ∃ q_, q_ = rset M_1 (M_1 4 3, x, 0, 0) := ⟨_, rfl⟩
  have hP : va_P D vwCl (pg_w ad cs (some i) M_2) H := by rw [eM_2]; exact hP
  have hD : va_D (va_A (pg_w ad cs rp M) s.heap.size) (pg_w ad cs (some i) M_2) := by rw [eM_2]; exact hD
  have hM : M_2 = rset M (0, x, 0, 0) := by simp only [eM_2, eM_1, m4_3, m4_4, m4_5, m4_6, rset_rset, rv3, rv4, rv5, rv6]
  have eW : pg_w ad cs (some i) (M_2) = pg_w ad cs (some i) (rset M (0, x, 0, 0)) := by rw [hM]
  have hP := Eq.mp (congrArg (fun q => va_P D vwCl q _) eW) hP
  have hD := Eq.mp (congrArg (va_D _) eW) hD
  exact W.vret hx hb hr (fun t ht hW => ⟨⟨(), rfl, trivial, by rw [ht]; exact hP, va_K.moved hW.alike hK, hD⟩, hS.F ht⟩) hS.2.2 d_RU_begin_15
set_option maxHeartbeats 4000000 in
set_option maxRecDepth 100000 in
/-- Ruler.add -/
theorem c_add (l : Launch) {D : va_G} {ad : Nat → Nat} {cs : pg_C} {M : Nat → Nat → Int} (sz : Nat) (i n k : Nat) (hk : k < 600) (hp : wfP M i n) (ht : wfT M) (hr0 : wfR M) : Met l y_RU_add ws_RU_add ({ frames := 3, cells := 0, slots := 0, locals := 73 } : Room) (va_Pc [.ref (ad (4)), .int (iI (((k : Nat) : Int)))] (rw_B D vwCl (pg_tys cs) (pg_w ad cs (some i) M) sz)) (va_Qv (fun _ : Unit => True) (rw_E D vwCl (pg_tys cs) (pg_w ad cs (some i) M) (pg_w ad cs (some i) (rset M (p_add (M 7) (M 8) (p_tabs M i n) (p_rul M) k))) sz) (va_A (pg_w ad cs (some i) M) sz)) 0 0 (va_A (pg_w ad cs (some i) M) sz) := by
  refine Met.ofW (cc := b_RU_add) (maxL := 2) (ret := none) (by decide) rfl ?_
  intro p e s m args below meth c s₁ B hml hv
  obtain ⟨rfl, hsz, hP, hK, hD0⟩ := hv
  have hx := B.exec
  have hb := B.bytes
  have hr := B.returns
  have hts := atoms_spec (ws := ws_RU_add) B.pre
  have hg : ∀ w ∈ gt, w.before _ s = true := fun w h => hts w (List.mem_cons_of_mem _ h)
  have hown : s.vm.findClass R_RU = some m.cls := findClass_of_methodNamed B.named
  have hlocks := B.notSynchronized
  subst hsz
  have hD := hD0.self (sz := s.heap.size)
  have hA : ∀ q : Nat, s.heap.size ≤ q → va_A (pg_w ad cs (some i) M) s.heap.size q := fun q h => Or.inr h
  have hS : va_S (va_A (pg_w ad cs (some i) M) s.heap.size) s.heap s.heap [] := va_S.rf
  have hl := lv_entry ([.ref (ad (4)), .int (iI (((k : Nat) : Int)))]) (n := 2) (Nat.le_of_ble_eq_true rfl)
  rw [lg_entry_eq]
  generalize (lg_sl ([.ref (ad (4)), .int (iI (((k : Nat) : Int)))]) ++ List.replicate (2 - (lg_sl ([.ref (ad (4)), .int (iI (((k : Nat) : Int)))])).length) Slot.unset).toArray = ls at hl ⊢
  have hl : lv_has ls 2 [(0, .ref (ad (4))), (1, .int (iI (((k : Nat) : Int))))] := hl
  refine lv_aload_n hx hb d_RU_add_0 rfl (lv_at hl 0 rfl) ?_
  refine z_get (ci := 4) (C := R_RU) (T := T_RU) (N := 7) (v := .ref (ad (1))) hx hb hg in_RU hown hK hP (4) (by decide) rfl rfl 0 (by decide) (hg _ (List.mem_append_right _ (List.mem_append_right _ (List.mem_append_right _ (List.mem_append_left _ (List.mem_of_getElem? (i := 29) rfl)))))) (fun _ h9 => h9) rfl d_RU_add_1 ?_
  refine z_get (ci := 1) (C := R_TX) (T := T_TX) (N := 6) (v := .ref (ad (7))) hx hb hg in_TX hown hK hP (1) (by decide) rfl rfl 1 (by decide) (hg _ (List.mem_append_right _ (List.mem_append_right _ (List.mem_append_left _ (List.mem_of_getElem? (i := 21) rfl))))) (fun _ h9 => h9) rfl d_RU_add_4 ?_
  refine lv_iload_n hx hb d_RU_add_7 rfl (lv_at hl 1 rfl) ?_
  refine z_iald hx hb hK hP (7) 0 (by decide) (fun _ => rfl) rfl (k) rfl (by omega) (by decide) d_RU_add_8 ?_
  refine z_iconst hx hb (z := 2) d_RU_add_9 ?_
  refine z_icmp_ne hx hb (tgt := 31) d_RU_add_10 (by decide) (zb_7 ht _) ⟨by decide, by decide⟩ (fun c_10 => ?_) (fun c_10 => ?_)
  · refine lv_aload_n hx hb d_RU_add_31 rfl (lv_at hl 0 rfl) ?_
    refine lv_dup hx hb d_RU_add_32 rfl ?_
    refine z_get (ci := 4) (C := R_RU) (T := T_RU) (N := 7) (v := .int (iI (M (4) 5))) hx hb hg in_RU hown hK hP (4) (by decide) rfl rfl 5 (by decide) (hg _ (List.mem_append_right _ (List.mem_append_right _ (List.mem_append_right _ (List.mem_append_left _ (List.mem_of_getElem? (i := 34) rfl)))))) (fun _ h9 => h9) rfl d_RU_add_33 ?_
    refine lv_aload_n hx hb d_RU_add_36 rfl (lv_at hl 0 rfl) ?_
    refine z_get (ci := 4) (C := R_RU) (T := T_RU) (N := 7) (v := .ref (ad (1))) hx hb hg in_RU hown hK hP (4) (by decide) rfl rfl 0 (by decide) (hg _ (List.mem_append_right _ (List.mem_append_right _ (List.mem_append_right _ (List.mem_append_left _ (List.mem_of_getElem? (i := 29) rfl)))))) (fun _ h9 => h9) rfl d_RU_add_37 ?_
    refine lv_iload_n hx hb d_RU_add_40 rfl (lv_at hl 1 rfl) ?_
    refine z_iconst hx hb (z := 0) d_RU_add_41 ?_
    refine ro_V (As := [.int (iI (((k : Nat) : Int))), .int (iI (0))]) (rest := [.int (iI (M (4) 5)), .ref (ad (4))]) (z := p_wid (M 7) (M 8) k false) ⟨hx, hb, hml, hown, hg⟩ (c_widthWithin l k false (by omega) (zb_7 ht)) (cwV 2 hg (gt_V (List.mem_append_right _ (List.mem_append_right _ (List.mem_append_right _ (List.mem_append_right _ (List.mem_append_right _ (List.mem_append_right _ (List.mem_append_right _ (List.mem_append_left _ (List.mem_of_getElem? (i := 17) rfl))))))))) (List.mem_append_right _ (List.mem_append_right _ (List.mem_append_right _ (List.mem_append_right _ (List.mem_append_right _ (List.mem_append_right _ (List.mem_append_left _ (List.mem_of_getElem? (i := 8) rfl)))))))) (List.mem_append_right _ (List.mem_append_right _ (List.mem_append_right _ (List.mem_append_right _ (List.mem_append_right _ (List.mem_append_right _ (List.mem_append_left _ (List.mem_of_getElem? (i := 9) rfl)))))))) (List.mem_append_right _ (List.mem_append_left _ (List.mem_of_getElem? (i := 3) rfl))) (List.mem_append_right _ (List.mem_append_right _ (List.mem_append_right _ (List.mem_append_right _ (List.mem_append_right _ (List.mem_append_right _ (List.mem_append_left _ (List.mem_of_getElem? (i := 10) rfl))))))))) rfl rfl rfl (by decide +kernel) ⟨Nat.le_of_ble_eq_true rfl, Nat.le_of_ble_eq_true rfl⟩) hK hP (va_recv hK hP (ci := 1) (q0 := 1) rfl (wl_atE (by decide) rfl)) rfl hl.1 rfl (Nat.le_of_ble_eq_true rfl) d_RU_add_42 ⟨Nat.zero_le _, Nat.zero_le _⟩ ?_
    refine z_iadd hx hb d_RU_add_45 (v := (M (4) 5 + p_wid (M 7) (M 8) k false)) rfl ?_
    refine z_put (ci := 4) (C := R_RU) (T := T_RU) (N := 7) (v := .int (iI ((M (4) 5 + p_wid (M 7) (M 8) k false)))) (ty := .int) (ce' := (pg_ce ad cs (some i))) (r := va_up (M (4)) 5 ((M (4) 5 + p_wid (M 7) (M 8) k false))) hx hb hg in_RU ty_RU tk_RU nm_RU hown hK hP hD hS (4) (by decide) rfl rfl 5 (by decide) (hg _ (List.mem_append_right _ (List.mem_append_right _ (List.mem_append_right _ (List.mem_append_left _ (List.mem_of_getElem? (i := 34) rfl)))))) (fun _ h9 => h9) rfl (by decide +kernel) rfl rfl (Nat.le_of_ble_eq_true rfl) (fun _ _ => rfl) rfl d_RU_add_46 (fun H locs hP hD hS => ?_)
    obtain ⟨M_1, eM_1⟩ : ∃ q_, q_ = mset M (4) (5) ((M (4) 5 + p_wid (M 7) (M 8) k false)) := ⟨_, rfl⟩
    have hP : va_P D vwCl (pg_w ad cs (some i) M_1) H := by rw [eM_1]; exact hP
    have hD : va_D (va_A (pg_w ad cs (some i) M) s.heap.size) (pg_w ad cs (some i) M_1) := by rw [eM_1]; exact hD
    have e7 : M_1 7 = M 7 := by rw [eM_1]; exact va_up_ne _ _ (by omega)
    have ht9 : wfT M_1 := by rw [eM_1]; unfold wfT mset at *; rw [va_up_ne _ _ (by omega), va_up_ne _ _ (by omega), va_up_ne _ _ (by omega), va_up_ne _ _ (by omega)]; exact ht
    refine lv_aload_n hx hb d_RU_add_49 rfl (lv_at hl 0 rfl) ?_
    refine z_get (ci := 4) (C := R_RU) (T := T_RU) (N := 7) (v := .ref (ad (1))) hx hb hg in_RU hown hK hP (4) (by decide) rfl rfl 0 (by decide) (hg _ (List.mem_append_right _ (List.mem_append_right _ (List.mem_append_right _ (List.mem_append_left _ (List.mem_of_getElem? (i := 29) rfl)))))) (fun _ h9 => h9) rfl d_RU_add_50 ?_
    refine z_get (ci := 1) (C := R_TX) (T := T_TX) (N := 6) (v := .ref (ad (7))) hx hb hg in_TX hown hK hP (1) (by decide) rfl rfl 1 (by decide) (hg _ (List.mem_append_right _ (List.mem_append_right _ (List.mem_append_left _ (List.mem_of_getElem? (i := 21) rfl))))) (fun _ h9 => h9) rfl d_RU_add_53 ?_
    refine lv_iload_n hx hb d_RU_add_56 rfl (lv_at hl 1 rfl) ?_
    refine z_iald hx hb hK hP (7) 0 (by decide) (fun _ => rfl) rfl (k) rfl (by omega) (by decide) d_RU_add_57 ?_
    refine z_iconst hx hb (z := 1) d_RU_add_58 ?_
    refine z_icmp_eq hx hb (tgt := 81) d_RU_add_59 (by decide) (zb_7 ht9 _) ⟨by decide, by decide⟩ (fun c_59 => ?_) (fun c_59 => ?_)
    · have hM : M_1 = rset M (p_add (M 7) (M 8) (p_tabs M i n) (p_rul M) k) := by rw [e7] at c_59; unfold p_add; rw [if_neg (by omega)]; (first | rw [if_pos (by omega)] | rw [if_neg (by omega)]); simp only [eM_1, m4_3, m4_4, m4_5, m4_6, rset_rset, rv3, rv4, rv5, rv6, p_rul]
      have eW : pg_w ad cs (some i) (M_1) = pg_w ad cs (some i) (rset M (p_add (M 7) (M 8) (p_tabs M i n) (p_rul M) k)) := by rw [hM]
      have hP := Eq.mp (congrArg (fun q => va_P D vwCl q _) eW) hP
      have hD := Eq.mp (congrArg (va_D _) eW) hD
      exact W.vret hx hb hr (fun t ht hW => ⟨⟨(), rfl, trivial, by rw [ht]; exact hP, va_K.moved hW.alike hK, hD⟩, hS.F ht⟩) hS.2.2 d_RU_add_81
    · refine lv_aload_n hx hb d_RU_add_62 rfl (lv_at hl 0 rfl) ?_
      refine z_get (ci := 4) (C := R_RU) (T := T_RU) (N := 7) (v := .ref (ad (1))) hx hb hg in_RU hown hK hP (4) (by decide) rfl rfl 0 (by decide) (hg _ (List.mem_append_right _ (List.mem_append_right _ (List.mem_append_right _ (List.mem_append_left _ (List.mem_of_getElem? (i := 29) rfl)))))) (fun _ h9 => h9) rfl d_RU_add_63 ?_
      refine lv_iload_n hx hb d_RU_add_66 rfl (lv_at hl 1 rfl) ?_
      refine ro_V (As := [.int (iI (((k : Nat) : Int)))]) (rest := []) (z := bz (p_endl (M_1 7) k) inferInstance) ⟨hx, hb, hml, hown, hg⟩ (c_endsLine (M := M_1) l k (by omega) (zb_7 ht9)) (cwV 1 hg (gt_V (List.mem_append_right _ (List.mem_append_right _ (List.mem_append_right _ (List.mem_append_right _ (List.mem_append_right _ (List.mem_append_right _ (List.mem_append_right _ (List.mem_append_left _ (List.mem_of_getElem? (i := 18) rfl))))))))) (List.mem_append_right _ (List.mem_append_right _ (List.mem_append_right _ (List.mem_append_right _ (List.mem_append_right _ (List.mem_append_left _ (List.mem_of_getElem? (i := 38) rfl))))))) (List.mem_append_right _ (List.mem_append_right _ (List.mem_append_right _ (List.mem_append_right _ (List.mem_append_right _ (List.mem_append_left _ (List.mem_of_getElem? (i := 39) rfl))))))) (List.mem_append_right _ (List.mem_append_left _ (List.mem_of_getElem? (i := 3) rfl))) (List.mem_append_right _ (List.mem_append_right _ (List.mem_append_right _ (List.mem_append_right _ (List.mem_append_right _ (List.mem_append_right _ (List.mem_append_left _ (List.mem_of_getElem? (i := 0) rfl))))))))) rfl rfl rfl (by decide +kernel) ⟨Nat.le_of_ble_eq_true rfl, Nat.le_of_ble_eq_true rfl⟩) hK hP (va_recv hK hP (ci := 1) (q0 := 1) rfl (wl_atE (by decide) rfl)) rfl hl.1 rfl (Nat.le_of_ble_eq_true rfl) d_RU_add_67 ⟨Nat.zero_le _, Nat.zero_le _⟩ ?_
      refine z_ifb_ne hx hb (tgt := 81) d_RU_add_70 (by decide) (fun c_70 => ?_) (fun c_70 => ?_)
      · have hM : M_1 = rset M (p_add (M 7) (M 8) (p_tabs M i n) (p_rul M) k) := by rw [e7] at c_59; rw [e7] at c_70; unfold p_add; rw [if_neg (by omega)]; (first | rw [if_pos (by omega)] | rw [if_neg (by omega)]); simp only [eM_1, m4_3, m4_4, m4_5, m4_6, rset_rset, rv3, rv4, rv5, rv6, p_rul]
        have eW : pg_w ad cs (some i) (M_1) = pg_w ad cs (some i) (rset M (p_add (M 7) (M 8) (p_tabs M i n) (p_rul M) k)) := by rw [hM]
        have hP := Eq.mp (congrArg (fun q => va_P D vwCl q _) eW) hP
        have hD := Eq.mp (congrArg (va_D _) eW) hD
        exact W.vret hx hb hr (fun t ht hW => ⟨⟨(), rfl, trivial, by rw [ht]; exact hP, va_K.moved hW.alike hK, hD⟩, hS.F ht⟩) hS.2.2 d_RU_add_81
      · refine lv_aload_n hx hb d_RU_add_73 rfl (lv_at hl 0 rfl) ?_
        refine lv_aload_n hx hb d_RU_add_74 rfl (lv_at hl 0 rfl) ?_
        refine z_get (ci := 4) (C := R_RU) (T := T_RU) (N := 7) (v := .int (iI (M_1 (4) 5))) hx hb hg in_RU hown hK hP (4) (by decide) rfl rfl 5 (by decide) (hg _ (List.mem_append_right _ (List.mem_append_right _ (List.mem_append_right _ (List.mem_append_left _ (List.mem_of_getElem? (i := 34) rfl)))))) (fun _ h9 => h9) rfl d_RU_add_75 ?_
        refine z_put (ci := 4) (C := R_RU) (T := T_RU) (N := 7) (v := .int (iI (M_1 (4) 5))) (ty := .int) (ce' := (pg_ce ad cs (some i))) (r := va_up (M_1 (4)) 6 (M_1 (4) 5)) hx hb hg in_RU ty_RU tk_RU nm_RU hown hK hP hD hS (4) (by decide) rfl rfl 6 (by decide) (hg _ (List.mem_append_right _ (List.mem_append_right _ (List.mem_append_right _ (List.mem_append_left _ (List.mem_of_getElem? (i := 35) rfl)))))) (fun _ h9 => h9) rfl (by decide +kernel) rfl rfl (Nat.le_of_ble_eq_true rfl) (fun _ _ => rfl) rfl d_RU_add_78 (fun H locs hP hD hS => ?_)
        obtain ⟨M_2, eM_2⟩ : ∃ q_, q_ = mset M_1 (4) (6) (M_1 (4) 5) := ⟨_, rfl⟩
        have hP : va_P D vwCl (pg_w ad cs (some i) M_2) H := by rw [eM_2]; exact hP
        have hD : va_D (va_A (pg_w ad cs (some i) M) s.heap.size) (pg_w ad cs (some i) M_2) := by rw [eM_2]; exact hD
        have hM : M_2 = rset M (p_add (M 7) (M 8) (p_tabs M i n) (p_rul M) k) := by rw [e7] at c_59; rw [e7] at c_70; unfold p_add; rw [if_neg (by omega)]; (first | rw [if_pos (by omega)] | rw [if_neg (by omega)]); simp only [eM_2, eM_1, m4_3, m4_4, m4_5, m4_6, rset_rset, rv3, rv4, rv5, rv6, p_rul]
        have eW : pg_w ad cs (some i) (M_2) = pg_w ad cs (some i) (rset M (p_add (M 7) (M 8) (p_tabs M i n) (p_rul M) k)) := by rw [hM]
        have hP := Eq.mp (congrArg (fun q => va_P D vwCl q _) eW) hP
        have hD := Eq.mp (congrArg (va_D _) eW) hD
        exact W.vret hx hb hr (fun t ht hW => ⟨⟨(), rfl, trivial, by rw [ht]; exact hP, va_K.moved hW.alike hK, hD⟩, hS.F ht⟩) hS.2.2 d_RU_add_81
  · refine lv_aload_n hx hb d_RU_add_13 rfl (lv_at hl 0 rfl) ?_
    refine lv_aload_n hx hb d_RU_add_14 rfl (lv_at hl 0 rfl) ?_
    refine lv_aload_n hx hb d_RU_add_15 rfl (lv_at hl 0 rfl) ?_
    refine z_get (ci := 4) (C := R_RU) (T := T_RU) (N := 7) (v := .int (iI (M (4) 5))) hx hb hg in_RU hown hK hP (4) (by decide) rfl rfl 5 (by decide) (hg _ (List.mem_append_right _ (List.mem_append_right _ (List.mem_append_right _ (List.mem_append_left _ (List.mem_of_getElem? (i := 34) rfl)))))) (fun _ h9 => h9) rfl d_RU_add_16 ?_
    refine ro_V (As := [.int (iI (M (4) 5))]) (rest := [.ref (ad (4))]) (z := p_ew (p_tabs M i n) (p_rul M) (M 4 5)) ⟨hx, hb, hml, hown, hg⟩ (c_endWith l i n (M 4 5) hp ht hr0 (by have := hr0.2.2.1; omega)) (cwV 1 hg (gt_V (List.mem_append_right _ (List.mem_append_right _ (List.mem_append_right _ (List.mem_append_right _ (List.mem_append_right _ (List.mem_append_right _ (List.mem_append_right _ (List.mem_append_left _ (List.mem_of_getElem? (i := 13) rfl))))))))) (List.mem_append_right _ (List.mem_append_right _ (List.mem_append_right _ (List.mem_append_right _ (List.mem_append_right _ (List.mem_append_right _ (List.mem_append_right _ (List.mem_append_left _ (List.mem_of_getElem? (i := 14) rfl))))))))) (List.mem_append_left _ (List.mem_of_getElem? (i := 12) rfl)) (List.mem_append_right _ (List.mem_append_left _ (List.mem_of_getElem? (i := 7) rfl))) (List.mem_append_right _ (List.mem_append_right _ (List.mem_append_right _ (List.mem_append_right _ (List.mem_append_right _ (List.mem_append_right _ (List.mem_append_right _ (List.mem_append_left _ (List.mem_of_getElem? (i := 15) rfl)))))))))) rfl rfl rfl (by decide +kernel) ⟨Nat.le_of_ble_eq_true rfl, Nat.le_of_ble_eq_true rfl⟩) hK hP (va_recv hK hP (ci := 4) (q0 := 4) rfl (wl_atE (by decide) rfl)) rfl hl.1 rfl (Nat.le_of_ble_eq_true rfl) d_RU_add_19 ⟨Nat.zero_le _, Nat.zero_le _⟩ ?_
    refine rw_Vv (As := [.int (iI (p_ew (p_tabs M i n) (p_rul M) (M 4 5)))]) (rest := []) (w' := (pg_w ad cs (some i) (rset M (M 4 3, p_ew (p_tabs M i n) (p_rul M) (M 4 5), 0, 0)))) ⟨hx, hb, hml, hown, hg⟩ (c_beginStretch l _ (p_ew (p_tabs M i n) (p_rul M) (M 4 5))) (cwV 1 hg (gt_V (List.mem_append_right _ (List.mem_append_right _ (List.mem_append_right _ (List.mem_append_right _ (List.mem_append_right _ (List.mem_append_right _ (List.mem_append_right _ (List.mem_append_left _ (List.mem_of_getElem? (i := 6) rfl))))))))) (List.mem_append_right _ (List.mem_append_right _ (List.mem_append_right _ (List.mem_append_right _ (List.mem_append_right _ (List.mem_append_right _ (List.mem_append_right _ (List.mem_append_left _ (List.mem_of_getElem? (i := 7) rfl))))))))) (List.mem_append_left _ (List.mem_of_getElem? (i := 11) rfl)) (List.mem_append_right _ (List.mem_append_left _ (List.mem_of_getElem? (i := 7) rfl))) (List.mem_append_right _ (List.mem_append_right _ (List.mem_append_right _ (List.mem_append_right _ (List.mem_append_right _ (List.mem_append_right _ (List.mem_append_right _ (List.mem_append_left _ (List.mem_of_getElem? (i := 8) rfl)))))))))) rfl rfl rfl (by decide +kernel) ⟨Nat.le_of_ble_eq_true rfl, Nat.le_of_ble_eq_true rfl⟩) hK hP hD hS hA (va_recv hK hP (ci := 4) (q0 := 4) rfl (wl_atE (by decide) rfl)) rfl hl.1 rfl (Nat.le_of_ble_eq_true rfl) d_RU_add_22 ⟨Nat.zero_le _, Nat.zero_le _⟩ (fun H locs hP hD hS => ?_)
    obtain ⟨M_3, eM_3⟩ : ∃ q_, q_ = rset M (M 4 3, p_ew (p_tabs M i n) (p_rul M) (M 4 5), 0, 0) := ⟨_, rfl⟩
    have hP : va_P D vwCl (pg_w ad cs (some i) M_3) H := by rw [eM_3]; exact hP
    have hD : va_D (va_A (pg_w ad cs (some i) M) s.heap.size) (pg_w ad cs (some i) M_3) := by rw [eM_3]; exact hD
    refine lv_aload_n hx hb d_RU_add_25 rfl (lv_at hl 0 rfl) ?_
    refine z_iconst hx hb (z := 1) d_RU_add_26 ?_
    refine z_put (ci := 4) (C := R_RU) (T := T_RU) (N := 7) (v := .int (iI (1))) (ty := .boolean) (ce' := (pg_ce ad cs (some i))) (r := va_up (M_3 (4)) 3 (1)) hx hb hg in_RU ty_RU tk_RU nm_RU hown hK hP hD hS (4) (by decide) rfl rfl 3 (by decide) (hg _ (List.mem_append_right _ (List.mem_append_right _ (List.mem_append_right _ (List.mem_append_left _ (List.mem_of_getElem? (i := 32) rfl)))))) (fun _ h9 => h9) rfl (by decide +kernel) rfl rfl (Nat.le_of_ble_eq_true rfl) (fun _ _ => rfl) rfl d_RU_add_27 (fun H locs hP hD hS => ?_)
    obtain ⟨M_4, eM_4⟩ : ∃ q_, q_ = mset M_3 (4) (3) (1) := ⟨_, rfl⟩
    have hP : va_P D vwCl (pg_w ad cs (some i) M_4) H := by rw [eM_4]; exact hP
    have hD : va_D (va_A (pg_w ad cs (some i) M) s.heap.size) (pg_w ad cs (some i) M_4) := by rw [eM_4]; exact hD
    have hM : M_4 = rset M (p_add (M 7) (M 8) (p_tabs M i n) (p_rul M) k) := by unfold p_add; rw [if_pos (by omega)]; simp only [eM_4, eM_3, m4_3, m4_4, m4_5, m4_6, rset_rset, rv3, rv4, rv5, rv6, p_rul]
    have eW : pg_w ad cs (some i) (M_4) = pg_w ad cs (some i) (rset M (p_add (M 7) (M 8) (p_tabs M i n) (p_rul M) k)) := by rw [hM]
    have hP := Eq.mp (congrArg (fun q => va_P D vwCl q _) eW) hP
    have hD := Eq.mp (congrArg (va_D _) eW) hD
    exact W.vret hx hb hr (fun t ht hW => ⟨⟨(), rfl, trivial, by rw [ht]; exact hP, va_K.moved hW.alike hK, hD⟩, hS.F ht⟩) hS.2.2 d_RU_add_30
set_option maxHeartbeats 4000000 in
set_option maxRecDepth 100000 in
theorem lp_lineBehind {p : Program} {l : Launch} {e : Env} {s : State} {m : MethodId} {args : Array Value} {below : List Frame} {meth : Method} {c : Code} {Q : State → Prop} {A : Nat → Prop} {H0 : Heap} {D : va_G} {ad : Nat → Nat} {cs : pg_C} {M : Nat → Nat → Int} (hx : p.tables.exec = Jvm.exec) (hb : c.code = b_LN_lineBehind) (hml : c.maxLocals = 8) (hg : ∀ w ∈ gt, w.before args s = true) (hown : s.vm.findClass R_LN = some m.cls) (hK : va_K D vwCl (pg_tys cs) s) (hA : ∀ q, H0.size ≤ q → A q) (i n a b : Nat) (x : Int) (hb6 : b ≤ 600) (ha : a ≤ b) (hp : wfP M i n) (ht : wfT M) (hbe : M (29 + 4 * i) 5 = ((b : Nat) : Int)) (hsh : 0 ≤ M (30 + 4 * i) 1 ∧ M (30 + 4 * i) 1 ≤ 5000) (res : Nat × p_R) (kk : ∀ (H : Heap) (locs : List Loc) (ls : Array Slot), va_P D vwCl (pg_w ad cs (some i) (rset M res.2)) H → va_D A (pg_w ad cs (some i) (rset M res.2)) → va_S A H0 H locs → lv_has ls 8 [(5, .int (iI ((res.1 : Nat) : Int)))] → W p l e ({ frames := 5, cells := 0, slots := 0, locals := 114 } : Room) s m args below meth c H locs 0 0 Q (F0 m 139 ls [])) : ∀ (f k bb : Nat) (r : p_R) (B : Int), a ≤ k → k + f = b → bb ≤ 600 → wfr r B → B + 60000 * ((f : Nat) : Int) ≤ 39000000 → p_lx (M 7) (M 8) (p_tabs M i n) (M 2 0 - M (30 + 4 * i) 1) a b f k bb r = res → ∀ (H : Heap) (locs : List Loc) (ls : Array Slot), va_P D vwCl (pg_w ad cs (some i) (rset M r)) H → va_D A (pg_w ad cs (some i) (rset M r)) → va_S A H0 H locs → lv_has ls 8 [(6, .int (iI (((k : Nat) : Int)))), (5, .int (iI (((bb : Nat) : Int)))), (4, .int (iI ((M 2 0 - M (30 + 4 * i) 1)))), (0, .ref (ad (3))), (1, .ref (ad (29 + 4 * i))), (2, .int (iI (((a : Nat) : Int)))), (3, .int (iI (x)))] → W p l e ({ frames := 5, cells := 0, slots := 0, locals := 114 } : Room) s m args below meth c H locs 0 0 Q (F0 m 31 ls []) := by
  obtain ⟨hi, hn, hs, hz, hz2⟩ := id hp
  have hst := ht.2.2.2.2.2
  have hwi := ht.2.2.2.1
  intro f
  induction f with
  | zero =>
    intro k bb r B hak hkf hb6b hwr hB he H locs ls hP hD hS hl
    obtain ⟨Mr, eMr⟩ : ∃ q_, q_ = rset M r := ⟨_, rfl⟩
    rw [← eMr] at hP hD
    have f29 : Mr (29 + 4 * i) = M (29 + 4 * i) := by rw [eMr]; exact rset_ne (by omega)
    have hbe2 : Mr (29 + 4 * i) 5 = ((b : Nat) : Int) := by rw [f29]; exact hbe
    refine lv_iload hx hb d_LN_lineBehind_31 (lv_at hl 0 rfl) ?_
    refine lv_aload_n hx hb d_LN_lineBehind_33 rfl (lv_at hl 4 rfl) ?_
    refine z_get (ci := 6) (C := R_PA) (T := T_PA) (N := 6) (v := .int (iI (Mr (29 + 4 * i) 5))) hx hb hg in_PA hown hK hP (29 + 4 * i) (by omega) (pg_par _ _ _ _ _) rfl 5 (by decide) (hg _ (List.mem_append_right _ (List.mem_append_right _ (List.mem_append_left _ (List.mem_of_getElem? (i := 8) rfl))))) (fun _ h9 => h9) rfl d_LN_lineBehind_34 ?_
    refine z_icmp_ge hx hb (tgt := 139) d_LN_lineBehind_37 (by decide) ⟨by omega, by omega⟩ ⟨by omega, by omega⟩ (fun c_37 => ?_) (fun c_37 => ?_)
    · have he : (bb, r) = res := he
      subst he
      rw [eMr] at hP hD
      exact kk H locs ls hP hD hS (lv_sub hl [1] rfl)
    · exact absurd c_37 (by omega)
  | succ f ih =>
    intro k bb r B hak hkf hb6b hwr hB he H locs ls hP hD hS hl
    obtain ⟨Mr, eMr⟩ : ∃ q_, q_ = rset M r := ⟨_, rfl⟩
    rw [← eMr] at hP hD
    have f29 : Mr (29 + 4 * i) = M (29 + 4 * i) := by rw [eMr]; exact rset_ne (by omega)
    have hbe2 : Mr (29 + 4 * i) 5 = ((b : Nat) : Int) := by rw [f29]; exact hbe
    refine lv_iload hx hb d_LN_lineBehind_31 (lv_at hl 0 rfl) ?_
    refine lv_aload_n hx hb d_LN_lineBehind_33 rfl (lv_at hl 4 rfl) ?_
    refine z_get (ci := 6) (C := R_PA) (T := T_PA) (N := 6) (v := .int (iI (Mr (29 + 4 * i) 5))) hx hb hg in_PA hown hK hP (29 + 4 * i) (by omega) (pg_par _ _ _ _ _) rfl 5 (by decide) (hg _ (List.mem_append_right _ (List.mem_append_right _ (List.mem_append_left _ (List.mem_of_getElem? (i := 8) rfl))))) (fun _ h9 => h9) rfl d_LN_lineBehind_34 ?_
    refine z_icmp_ge hx hb (tgt := 139) d_LN_lineBehind_37 (by decide) ⟨by omega, by omega⟩ ⟨by omega, by omega⟩ (fun c_37 => ?_) (fun c_37 => ?_)
    · exact absurd c_37 (by omega)
    · refine lv_aload_n hx hb d_LN_lineBehind_40 rfl (lv_at hl 3 rfl) ?_
      refine z_get (ci := 3) (C := R_LN) (T := T_LN) (N := 6) (v := .ref (ad (4))) hx hb hg in_LN hown hK hP (3) (by decide) rfl rfl 5 (by decide) (hg _ (List.mem_append_right _ (List.mem_append_right _ (List.mem_append_right _ (List.mem_append_right _ (List.mem_append_left _ (List.mem_of_getElem? (i := 13) rfl))))))) (fun _ h9 => h9) rfl d_LN_lineBehind_41 ?_
      refine lv_iload hx hb d_LN_lineBehind_44 (lv_at hl 0 rfl) ?_
      refine rw_Vv (As := [.int (iI (((k : Nat) : Int)))]) (rest := []) (w' := (pg_w ad cs (some i) (rset Mr (p_add (Mr 7) (Mr 8) (p_tabs Mr i n) (p_rul Mr) k)))) ⟨hx, hb, hml, hown, hg⟩ (c_add l _ i n k (by omega) (by rw [eMr]; exact rset_wfP hp) (by rw [eMr]; exact rset_wfT ht) (by rw [eMr]; exact rset_wfR hwr (by omega))) (cwV 1 hg (gt_V (List.mem_append_right _ (List.mem_append_right _ (List.mem_append_right _ (List.mem_append_right _ (List.mem_append_right _ (List.mem_append_right _ (List.mem_append_right _ (List.mem_append_left _ (List.mem_of_getElem? (i := 9) rfl))))))))) (List.mem_append_right _ (List.mem_append_right _ (List.mem_append_right _ (List.mem_append_right _ (List.mem_append_right _ (List.mem_append_right _ (List.mem_append_right _ (List.mem_append_left _ (List.mem_of_getElem? (i := 10) rfl))))))))) (List.mem_append_right _ (List.mem_append_right _ (List.mem_append_right _ (List.mem_append_right _ (List.mem_append_right _ (List.mem_append_right _ (List.mem_append_right _ (List.mem_append_left _ (List.mem_of_getElem? (i := 11) rfl))))))))) (List.mem_append_right _ (List.mem_append_left _ (List.mem_of_getElem? (i := 7) rfl))) (List.mem_append_right _ (List.mem_append_right _ (List.mem_append_right _ (List.mem_append_right _ (List.mem_append_right _ (List.mem_append_right _ (List.mem_append_right _ (List.mem_append_left _ (List.mem_of_getElem? (i := 12) rfl)))))))))) rfl rfl rfl (by decide +kernel) ⟨Nat.le_of_ble_eq_true rfl, Nat.le_of_ble_eq_true rfl⟩) hK hP hD hS hA (va_recv hK hP (ci := 4) (q0 := 4) rfl (wl_atE (by decide) rfl)) rfl hl.1 rfl (Nat.le_of_ble_eq_true rfl) d_LN_lineBehind_46 ⟨Nat.zero_le _, Nat.zero_le _⟩ (fun H locs hP hD hS => ?_)
      obtain ⟨M_1, eM_1⟩ : ∃ q_, q_ = rset Mr (p_add (Mr 7) (Mr 8) (p_tabs Mr i n) (p_rul Mr) k) := ⟨_, rfl⟩
      have hP : va_P D vwCl (pg_w ad cs (some i) M_1) H := by rw [eM_1]; exact hP
      have hD : va_D A (pg_w ad cs (some i) M_1) := by rw [eM_1]; exact hD
      obtain ⟨r2, er2⟩ : ∃ q_, q_ = p_add (M 7) (M 8) (p_tabs M i n) r k := ⟨_, rfl⟩
      have hM1 : M_1 = rset M r2 := by rw [eM_1, er2, eMr, rset_rset, rset_ne (by omega), rset_ne (by omega), rset_tabs, rset_rul]
      have hwr2 : wfr r2 (B + 60000) := by rw [er2]; exact p_add_wf hwr (ht.2.1 k) hst hz
      have g7 : M_1 7 = M 7 := by rw [hM1]; exact rset_ne (by omega)
      have g8 : M_1 8 = M 8 := by rw [hM1]; exact rset_ne (by omega)
      have gt9 : p_tabs M_1 i n = p_tabs M i n := by rw [hM1]; exact rset_tabs _ _ _ _
      have gr : p_rul M_1 = r2 := by rw [hM1]; exact rset_rul _ _
      have hp1 : wfP M_1 i n := by rw [hM1]; exact rset_wfP hp
      have ht1 : wfT M_1 := by rw [hM1]; exact rset_wfT ht
      have hr1 : wfR M_1 := by rw [hM1]; exact rset_wfR hwr2 (by omega)
      have f29 : M_1 (29 + 4 * i) = M (29 + 4 * i) := by rw [hM1]; exact rset_ne (by omega)
      have hbe3 : M_1 (29 + 4 * i) 5 = ((b : Nat) : Int) := by rw [f29]; exact hbe
      have hbr : p_brk (M_1 7) b k = p_brk (M 7) b k := by rw [g7]
      have hen : p_endl (M_1 7) k = p_endl (M 7) k := by rw [g7]
      have heb : p_endb (M_1 7) (M_1 8) (p_tabs M_1 i n) (p_rul M_1) k = p_endb (M 7) (M 8) (p_tabs M i n) r2 k := by rw [g7, g8, gt9, gr]
      have hle : p_least (p_tabs M_1 i n) (p_rul M_1) = p_least (p_tabs M i n) r2 := by rw [gt9, gr]
      have hle1 := p_leastb (t := p_tabs M i n) hwr2 hst hz
      have heb1 := p_endbb (kd := M 7) (wd := M 8) (k := k) (t := p_tabs M i n) hwr2 (ht.2.1 k) hst hz
      refine lv_aload_n hx hb d_LN_lineBehind_49 rfl (lv_at hl 3 rfl) ?_
      refine z_get (ci := 3) (C := R_LN) (T := T_LN) (N := 6) (v := .ref (ad (1))) hx hb hg in_LN hown hK hP (3) (by decide) rfl rfl 3 (by decide) (hg _ (List.mem_append_right _ (List.mem_append_right _ (List.mem_append_right _ (List.mem_append_right _ (List.mem_append_left _ (List.mem_of_getElem? (i := 11) rfl))))))) (fun _ h9 => h9) rfl d_LN_lineBehind_50 ?_
      refine lv_iload hx hb d_LN_lineBehind_53 (lv_at hl 0 rfl) ?_
      refine lv_aload_n hx hb d_LN_lineBehind_55 rfl (lv_at hl 4 rfl) ?_
      refine ro_V (As := [.int (iI (((k : Nat) : Int))), .ref (ad (29 + 4 * i))]) (rest := []) (z := bz (p_brk (M_1 7) b k) inferInstance) ⟨hx, hb, hml, hown, hg⟩ (c_isBreakBehind l i b k hi (by omega) hb6 hbe3 (zb_7 ht1)) (cwV 2 hg (gt_V (List.mem_append_right _ (List.mem_append_right _ (List.mem_append_right _ (List.mem_append_right _ (List.mem_append_right _ (List.mem_append_right _ (List.mem_append_right _ (List.mem_append_left _ (List.mem_of_getElem? (i := 19) rfl))))))))) (List.mem_append_right _ (List.mem_append_right _ (List.mem_append_right _ (List.mem_append_right _ (List.mem_append_right _ (List.mem_append_right _ (List.mem_append_right _ (List.mem_append_left _ (List.mem_of_getElem? (i := 20) rfl))))))))) (List.mem_append_right _ (List.mem_append_right _ (List.mem_append_right _ (List.mem_append_right _ (List.mem_append_right _ (List.mem_append_right _ (List.mem_append_right _ (List.mem_append_left _ (List.mem_of_getElem? (i := 21) rfl))))))))) (List.mem_append_right _ (List.mem_append_left _ (List.mem_of_getElem? (i := 3) rfl))) (List.mem_append_right _ (List.mem_append_right _ (List.mem_append_right _ (List.mem_append_right _ (List.mem_append_right _ (List.mem_append_right _ (List.mem_append_right _ (List.mem_append_left _ (List.mem_of_getElem? (i := 22) rfl)))))))))) rfl rfl rfl (by decide +kernel) ⟨Nat.le_of_ble_eq_true rfl, Nat.le_of_ble_eq_true rfl⟩) hK hP (va_recv hK hP (ci := 1) (q0 := 1) rfl (wl_atE (by decide) rfl)) rfl hl.1 rfl (Nat.le_of_ble_eq_true rfl) d_LN_lineBehind_56 ⟨Nat.zero_le _, Nat.zero_le _⟩ ?_
      refine z_ifb_eq hx hb (tgt := 88) d_LN_lineBehind_59 (by decide) (fun c_59 => ?_) (fun c_59 => ?_)
      · refine lv_iload hx hb d_LN_lineBehind_88 (lv_at hl 1 rfl) ?_
        refine lv_iload_n hx hb d_LN_lineBehind_90 rfl (lv_at hl 5 rfl) ?_
        refine z_icmp_le hx hb (tgt := 110) d_LN_lineBehind_91 (by decide) ⟨by omega, by omega⟩ ⟨by omega, by omega⟩ (fun c_91 => ?_) (fun c_91 => ?_)
        · refine z_iconst hx hb (z := 0) d_LN_lineBehind_110 ?_
          refine lv_istore (lv' := [(7, .int (iI (0))), (6, .int (iI (((k : Nat) : Int)))), (5, .int (iI (((bb : Nat) : Int)))), (4, .int (iI ((M 2 0 - M (30 + 4 * i) 1)))), (0, .ref (ad (3))), (1, .ref (ad (29 + 4 * i))), (2, .int (iI (((a : Nat) : Int)))), (3, .int (iI (x)))]) hx hb d_LN_lineBehind_111 hl (by decide) rfl (fun ls hl => ?_)
          refine lv_iload hx hb d_LN_lineBehind_113 (lv_at hl 0 rfl) ?_
          refine z_if_ne hx hb (tgt := 139) d_LN_lineBehind_115 (by decide) ⟨by decide, by decide⟩ (fun c_115 => ?_) (fun c_115 => ?_)
          · exact absurd c_115 (by decide)
          · refine lv_aload_n hx hb d_LN_lineBehind_118 rfl (lv_at hl 4 rfl) ?_
            refine z_get (ci := 3) (C := R_LN) (T := T_LN) (N := 6) (v := .ref (ad (1))) hx hb hg in_LN hown hK hP (3) (by decide) rfl rfl 3 (by decide) (hg _ (List.mem_append_right _ (List.mem_append_right _ (List.mem_append_right _ (List.mem_append_right _ (List.mem_append_left _ (List.mem_of_getElem? (i := 11) rfl))))))) (fun _ h9 => h9) rfl d_LN_lineBehind_119 ?_
            refine lv_iload hx hb d_LN_lineBehind_122 (lv_at hl 1 rfl) ?_
            refine ro_V (As := [.int (iI (((k : Nat) : Int)))]) (rest := []) (z := bz (p_endl (M_1 7) k) inferInstance) ⟨hx, hb, hml, hown, hg⟩ (c_endsLine l k (by omega) (zb_7 ht1)) (cwV 1 hg (gt_V (List.mem_append_right _ (List.mem_append_right _ (List.mem_append_right _ (List.mem_append_right _ (List.mem_append_right _ (List.mem_append_right _ (List.mem_append_left _ (List.mem_of_getElem? (i := 32) rfl)))))))) (List.mem_append_right _ (List.mem_append_right _ (List.mem_append_right _ (List.mem_append_right _ (List.mem_append_right _ (List.mem_append_left _ (List.mem_of_getElem? (i := 38) rfl))))))) (List.mem_append_right _ (List.mem_append_right _ (List.mem_append_right _ (List.mem_append_right _ (List.mem_append_right _ (List.mem_append_left _ (List.mem_of_getElem? (i := 39) rfl))))))) (List.mem_append_right _ (List.mem_append_left _ (List.mem_of_getElem? (i := 3) rfl))) (List.mem_append_right _ (List.mem_append_right _ (List.mem_append_right _ (List.mem_append_right _ (List.mem_append_right _ (List.mem_append_right _ (List.mem_append_left _ (List.mem_of_getElem? (i := 0) rfl))))))))) rfl rfl rfl (by decide +kernel) ⟨Nat.le_of_ble_eq_true rfl, Nat.le_of_ble_eq_true rfl⟩) hK hP (va_recv hK hP (ci := 1) (q0 := 1) rfl (wl_atE (by decide) rfl)) rfl hl.1 rfl (Nat.le_of_ble_eq_true rfl) d_LN_lineBehind_124 ⟨Nat.zero_le _, Nat.zero_le _⟩ ?_
            refine z_ifb_eq hx hb (tgt := 133) d_LN_lineBehind_127 (by decide) (fun c_127 => ?_) (fun c_127 => ?_)
            · refine z_iinc (v := ((k + 1 : Nat) : Int)) (lv' := [(6, .int (iI (((k + 1 : Nat) : Int)))), (7, .int (iI (0))), (5, .int (iI (((bb : Nat) : Int)))), (4, .int (iI ((M 2 0 - M (30 + 4 * i) 1)))), (0, .ref (ad (3))), (1, .ref (ad (29 + 4 * i))), (2, .int (iI (((a : Nat) : Int)))), (3, .int (iI (x)))]) hx hb d_LN_lineBehind_133 hl (k := 1) rfl (by omega) (by decide) rfl (fun ls hl => ?_)
              refine lv_goto (tgt := 31) hx hb d_LN_lineBehind_136 (by decide) ?_
              have hnb : bb = p_nb (M 7) (M 8) (p_tabs M i n) (M 2 0 - M (30 + 4 * i) 1) a b k bb r2 := by unfold p_nb; rw [if_neg (fun h => c_59 (hbr ▸ h.1))]
              have step : p_lx (M 7) (M 8) (p_tabs M i n) (M 2 0 - M (30 + 4 * i) 1) a b (f + 1) k bb r = if (a < bb ∧ M 2 0 - M (30 + 4 * i) 1 < p_least (p_tabs M i n) r2) ∨ p_endl (M 7) k then (bb, r2) else p_lx (M 7) (M 8) (p_tabs M i n) (M 2 0 - M (30 + 4 * i) 1) a b f (k + 1) (bb) r2 := by conv => lhs; unfold p_lx; rw [if_pos (by omega), ← er2, ← hnb]
              rw [if_neg (fun h => h.elim (fun h => by omega) (fun h => c_127 (hen ▸ h))), he] at step
              rw [hM1] at hP hD
              exact ih (k + 1) (bb) r2 (B + 60000) (by omega) (by omega) (by omega) hwr2 (by omega) step.symm H locs ls hP hD hS (lv_sub hl [0, 2, 3, 4, 5, 6, 7] rfl)
            · refine lv_goto (tgt := 139) hx hb d_LN_lineBehind_130 (by decide) ?_
              have hnb : bb = p_nb (M 7) (M 8) (p_tabs M i n) (M 2 0 - M (30 + 4 * i) 1) a b k bb r2 := by unfold p_nb; rw [if_neg (fun h => c_59 (hbr ▸ h.1))]
              have step : p_lx (M 7) (M 8) (p_tabs M i n) (M 2 0 - M (30 + 4 * i) 1) a b (f + 1) k bb r = if (a < bb ∧ M 2 0 - M (30 + 4 * i) 1 < p_least (p_tabs M i n) r2) ∨ p_endl (M 7) k then (bb, r2) else p_lx (M 7) (M 8) (p_tabs M i n) (M 2 0 - M (30 + 4 * i) 1) a b f (k + 1) (bb) r2 := by conv => lhs; unfold p_lx; rw [if_pos (by omega), ← er2, ← hnb]
              rw [if_pos (Or.inr (hen ▸ c_127)), he] at step
              rw [hM1] at hP hD
              subst step
              exact kk H locs ls hP hD hS (lv_sub hl [2] rfl)
        · refine lv_aload_n hx hb d_LN_lineBehind_94 rfl (lv_at hl 3 rfl) ?_
          refine z_get (ci := 3) (C := R_LN) (T := T_LN) (N := 6) (v := .ref (ad (4))) hx hb hg in_LN hown hK hP (3) (by decide) rfl rfl 5 (by decide) (hg _ (List.mem_append_right _ (List.mem_append_right _ (List.mem_append_right _ (List.mem_append_right _ (List.mem_append_left _ (List.mem_of_getElem? (i := 13) rfl))))))) (fun _ h9 => h9) rfl d_LN_lineBehind_95 ?_
          refine ro_V (As := []) (rest := []) (z := p_least (p_tabs M i n) r2) ⟨hx, hb, hml, hown, hg⟩ (hle ▸ c_leastEnd l i n hp1 ht1 hr1) (cwV 0 hg (gt_V (List.mem_append_right _ (List.mem_append_right _ (List.mem_append_right _ (List.mem_append_right _ (List.mem_append_right _ (List.mem_append_right _ (List.mem_append_right _ (List.mem_append_left _ (List.mem_of_getElem? (i := 27) rfl))))))))) (List.mem_append_right _ (List.mem_append_right _ (List.mem_append_right _ (List.mem_append_right _ (List.mem_append_right _ (List.mem_append_right _ (List.mem_append_right _ (List.mem_append_left _ (List.mem_of_getElem? (i := 28) rfl))))))))) (List.mem_append_right _ (List.mem_append_right _ (List.mem_append_right _ (List.mem_append_right _ (List.mem_append_right _ (List.mem_append_right _ (List.mem_append_right _ (List.mem_append_left _ (List.mem_of_getElem? (i := 29) rfl))))))))) (List.mem_append_right _ (List.mem_append_left _ (List.mem_of_getElem? (i := 7) rfl))) (List.mem_append_right _ (List.mem_append_right _ (List.mem_append_right _ (List.mem_append_right _ (List.mem_append_right _ (List.mem_append_right _ (List.mem_append_right _ (List.mem_append_left _ (List.mem_of_getElem? (i := 30) rfl)))))))))) rfl rfl rfl (by decide +kernel) ⟨Nat.le_of_ble_eq_true rfl, Nat.le_of_ble_eq_true rfl⟩) hK hP (va_recv hK hP (ci := 4) (q0 := 4) rfl (wl_atE (by decide) rfl)) rfl hl.1 rfl (Nat.le_of_ble_eq_true rfl) d_LN_lineBehind_98 ⟨Nat.zero_le _, Nat.zero_le _⟩ ?_
          refine lv_iload hx hb d_LN_lineBehind_101 (lv_at hl 2 rfl) ?_
          refine z_icmp_le hx hb (tgt := 110) d_LN_lineBehind_103 (by decide) ⟨by omega, by omega⟩ ⟨by omega, by omega⟩ (fun c_103 => ?_) (fun c_103 => ?_)
          · refine z_iconst hx hb (z := 0) d_LN_lineBehind_110 ?_
            refine lv_istore (lv' := [(7, .int (iI (0))), (6, .int (iI (((k : Nat) : Int)))), (5, .int (iI (((bb : Nat) : Int)))), (4, .int (iI ((M 2 0 - M (30 + 4 * i) 1)))), (0, .ref (ad (3))), (1, .ref (ad (29 + 4 * i))), (2, .int (iI (((a : Nat) : Int)))), (3, .int (iI (x)))]) hx hb d_LN_lineBehind_111 hl (by decide) rfl (fun ls hl => ?_)
            refine lv_iload hx hb d_LN_lineBehind_113 (lv_at hl 0 rfl) ?_
            refine z_if_ne hx hb (tgt := 139) d_LN_lineBehind_115 (by decide) ⟨by decide, by decide⟩ (fun c_115 => ?_) (fun c_115 => ?_)
            · exact absurd c_115 (by decide)
            · refine lv_aload_n hx hb d_LN_lineBehind_118 rfl (lv_at hl 4 rfl) ?_
              refine z_get (ci := 3) (C := R_LN) (T := T_LN) (N := 6) (v := .ref (ad (1))) hx hb hg in_LN hown hK hP (3) (by decide) rfl rfl 3 (by decide) (hg _ (List.mem_append_right _ (List.mem_append_right _ (List.mem_append_right _ (List.mem_append_right _ (List.mem_append_left _ (List.mem_of_getElem? (i := 11) rfl))))))) (fun _ h9 => h9) rfl d_LN_lineBehind_119 ?_
              refine lv_iload hx hb d_LN_lineBehind_122 (lv_at hl 1 rfl) ?_
              refine ro_V (As := [.int (iI (((k : Nat) : Int)))]) (rest := []) (z := bz (p_endl (M_1 7) k) inferInstance) ⟨hx, hb, hml, hown, hg⟩ (c_endsLine l k (by omega) (zb_7 ht1)) (cwV 1 hg (gt_V (List.mem_append_right _ (List.mem_append_right _ (List.mem_append_right _ (List.mem_append_right _ (List.mem_append_right _ (List.mem_append_right _ (List.mem_append_left _ (List.mem_of_getElem? (i := 32) rfl)))))))) (List.mem_append_right _ (List.mem_append_right _ (List.mem_append_right _ (List.mem_append_right _ (List.mem_append_right _ (List.mem_append_left _ (List.mem_of_getElem? (i := 38) rfl))))))) (List.mem_append_right _ (List.mem_append_right _ (List.mem_append_right _ (List.mem_append_right _ (List.mem_append_right _ (List.mem_append_left _ (List.mem_of_getElem? (i := 39) rfl))))))) (List.mem_append_right _ (List.mem_append_left _ (List.mem_of_getElem? (i := 3) rfl))) (List.mem_append_right _ (List.mem_append_right _ (List.mem_append_right _ (List.mem_append_right _ (List.mem_append_right _ (List.mem_append_right _ (List.mem_append_left _ (List.mem_of_getElem? (i := 0) rfl))))))))) rfl rfl rfl (by decide +kernel) ⟨Nat.le_of_ble_eq_true rfl, Nat.le_of_ble_eq_true rfl⟩) hK hP (va_recv hK hP (ci := 1) (q0 := 1) rfl (wl_atE (by decide) rfl)) rfl hl.1 rfl (Nat.le_of_ble_eq_true rfl) d_LN_lineBehind_124 ⟨Nat.zero_le _, Nat.zero_le _⟩ ?_
              refine z_ifb_eq hx hb (tgt := 133) d_LN_lineBehind_127 (by decide) (fun c_127 => ?_) (fun c_127 => ?_)
              · refine z_iinc (v := ((k + 1 : Nat) : Int)) (lv' := [(6, .int (iI (((k + 1 : Nat) : Int)))), (7, .int (iI (0))), (5, .int (iI (((bb : Nat) : Int)))), (4, .int (iI ((M 2 0 - M (30 + 4 * i) 1)))), (0, .ref (ad (3))), (1, .ref (ad (29 + 4 * i))), (2, .int (iI (((a : Nat) : Int)))), (3, .int (iI (x)))]) hx hb d_LN_lineBehind_133 hl (k := 1) rfl (by omega) (by decide) rfl (fun ls hl => ?_)
                refine lv_goto (tgt := 31) hx hb d_LN_lineBehind_136 (by decide) ?_
                have hnb : bb = p_nb (M 7) (M 8) (p_tabs M i n) (M 2 0 - M (30 + 4 * i) 1) a b k bb r2 := by unfold p_nb; rw [if_neg (fun h => c_59 (hbr ▸ h.1))]
                have step : p_lx (M 7) (M 8) (p_tabs M i n) (M 2 0 - M (30 + 4 * i) 1) a b (f + 1) k bb r = if (a < bb ∧ M 2 0 - M (30 + 4 * i) 1 < p_least (p_tabs M i n) r2) ∨ p_endl (M 7) k then (bb, r2) else p_lx (M 7) (M 8) (p_tabs M i n) (M 2 0 - M (30 + 4 * i) 1) a b f (k + 1) (bb) r2 := by conv => lhs; unfold p_lx; rw [if_pos (by omega), ← er2, ← hnb]
                rw [if_neg (fun h => h.elim (fun h => by omega) (fun h => c_127 (hen ▸ h))), he] at step
                rw [hM1] at hP hD
                exact ih (k + 1) (bb) r2 (B + 60000) (by omega) (by omega) (by omega) hwr2 (by omega) step.symm H locs ls hP hD hS (lv_sub hl [0, 2, 3, 4, 5, 6, 7] rfl)
              · refine lv_goto (tgt := 139) hx hb d_LN_lineBehind_130 (by decide) ?_
                have hnb : bb = p_nb (M 7) (M 8) (p_tabs M i n) (M 2 0 - M (30 + 4 * i) 1) a b k bb r2 := by unfold p_nb; rw [if_neg (fun h => c_59 (hbr ▸ h.1))]
                have step : p_lx (M 7) (M 8) (p_tabs M i n) (M 2 0 - M (30 + 4 * i) 1) a b (f + 1) k bb r = if (a < bb ∧ M 2 0 - M (30 + 4 * i) 1 < p_least (p_tabs M i n) r2) ∨ p_endl (M 7) k then (bb, r2) else p_lx (M 7) (M 8) (p_tabs M i n) (M 2 0 - M (30 + 4 * i) 1) a b f (k + 1) (bb) r2 := by conv => lhs; unfold p_lx; rw [if_pos (by omega), ← er2, ← hnb]
                rw [if_pos (Or.inr (hen ▸ c_127)), he] at step
                rw [hM1] at hP hD
                subst step
                exact kk H locs ls hP hD hS (lv_sub hl [2] rfl)
          · refine z_iconst hx hb (z := 1) d_LN_lineBehind_106 ?_
            refine lv_goto (tgt := 111) hx hb d_LN_lineBehind_107 (by decide) ?_
            refine lv_istore (lv' := [(7, .int (iI (1))), (6, .int (iI (((k : Nat) : Int)))), (5, .int (iI (((bb : Nat) : Int)))), (4, .int (iI ((M 2 0 - M (30 + 4 * i) 1)))), (0, .ref (ad (3))), (1, .ref (ad (29 + 4 * i))), (2, .int (iI (((a : Nat) : Int)))), (3, .int (iI (x)))]) hx hb d_LN_lineBehind_111 hl (by decide) rfl (fun ls hl => ?_)
            refine lv_iload hx hb d_LN_lineBehind_113 (lv_at hl 0 rfl) ?_
            refine z_if_ne hx hb (tgt := 139) d_LN_lineBehind_115 (by decide) ⟨by decide, by decide⟩ (fun c_115 => ?_) (fun c_115 => ?_)
            · have hnb : bb = p_nb (M 7) (M 8) (p_tabs M i n) (M 2 0 - M (30 + 4 * i) 1) a b k bb r2 := by unfold p_nb; rw [if_neg (fun h => c_59 (hbr ▸ h.1))]
              have step : p_lx (M 7) (M 8) (p_tabs M i n) (M 2 0 - M (30 + 4 * i) 1) a b (f + 1) k bb r = if (a < bb ∧ M 2 0 - M (30 + 4 * i) 1 < p_least (p_tabs M i n) r2) ∨ p_endl (M 7) k then (bb, r2) else p_lx (M 7) (M 8) (p_tabs M i n) (M 2 0 - M (30 + 4 * i) 1) a b f (k + 1) (bb) r2 := by conv => lhs; unfold p_lx; rw [if_pos (by omega), ← er2, ← hnb]
              rw [if_pos (Or.inl ⟨by omega, by omega⟩), he] at step
              rw [hM1] at hP hD
              subst step
              exact kk H locs ls hP hD hS (lv_sub hl [2] rfl)
            · exact absurd c_115 (by decide)
      · refine lv_iload hx hb d_LN_lineBehind_62 (lv_at hl 1 rfl) ?_
        refine lv_iload_n hx hb d_LN_lineBehind_64 rfl (lv_at hl 5 rfl) ?_
        refine z_icmp_eq hx hb (tgt := 82) d_LN_lineBehind_65 (by decide) ⟨by omega, by omega⟩ ⟨by omega, by omega⟩ (fun c_65 => ?_) (fun c_65 => ?_)
        · refine lv_iload hx hb d_LN_lineBehind_82 (lv_at hl 0 rfl) ?_
          refine z_iconst hx hb (z := 1) d_LN_lineBehind_84 ?_
          refine z_iadd hx hb d_LN_lineBehind_85 (v := ((k + 1 : Nat) : Int)) (by omega) ?_
          refine lv_istore (lv' := [(5, .int (iI (((k + 1 : Nat) : Int)))), (6, .int (iI (((k : Nat) : Int)))), (4, .int (iI ((M 2 0 - M (30 + 4 * i) 1)))), (0, .ref (ad (3))), (1, .ref (ad (29 + 4 * i))), (2, .int (iI (((a : Nat) : Int)))), (3, .int (iI (x)))]) hx hb d_LN_lineBehind_86 hl (by decide) rfl (fun ls hl => ?_)
          refine lv_iload hx hb d_LN_lineBehind_88 (lv_at hl 0 rfl) ?_
          refine lv_iload_n hx hb d_LN_lineBehind_90 rfl (lv_at hl 5 rfl) ?_
          refine z_icmp_le hx hb (tgt := 110) d_LN_lineBehind_91 (by decide) ⟨by omega, by omega⟩ ⟨by omega, by omega⟩ (fun c_91 => ?_) (fun c_91 => ?_)
          · refine z_iconst hx hb (z := 0) d_LN_lineBehind_110 ?_
            refine lv_istore (lv' := [(7, .int (iI (0))), (5, .int (iI (((k + 1 : Nat) : Int)))), (6, .int (iI (((k : Nat) : Int)))), (4, .int (iI ((M 2 0 - M (30 + 4 * i) 1)))), (0, .ref (ad (3))), (1, .ref (ad (29 + 4 * i))), (2, .int (iI (((a : Nat) : Int)))), (3, .int (iI (x)))]) hx hb d_LN_lineBehind_111 hl (by decide) rfl (fun ls hl => ?_)
            refine lv_iload hx hb d_LN_lineBehind_113 (lv_at hl 0 rfl) ?_
            refine z_if_ne hx hb (tgt := 139) d_LN_lineBehind_115 (by decide) ⟨by decide, by decide⟩ (fun c_115 => ?_) (fun c_115 => ?_)
            · exact absurd c_115 (by decide)
            · refine lv_aload_n hx hb d_LN_lineBehind_118 rfl (lv_at hl 4 rfl) ?_
              refine z_get (ci := 3) (C := R_LN) (T := T_LN) (N := 6) (v := .ref (ad (1))) hx hb hg in_LN hown hK hP (3) (by decide) rfl rfl 3 (by decide) (hg _ (List.mem_append_right _ (List.mem_append_right _ (List.mem_append_right _ (List.mem_append_right _ (List.mem_append_left _ (List.mem_of_getElem? (i := 11) rfl))))))) (fun _ h9 => h9) rfl d_LN_lineBehind_119 ?_
              refine lv_iload hx hb d_LN_lineBehind_122 (lv_at hl 2 rfl) ?_
              refine ro_V (As := [.int (iI (((k : Nat) : Int)))]) (rest := []) (z := bz (p_endl (M_1 7) k) inferInstance) ⟨hx, hb, hml, hown, hg⟩ (c_endsLine l k (by omega) (zb_7 ht1)) (cwV 1 hg (gt_V (List.mem_append_right _ (List.mem_append_right _ (List.mem_append_right _ (List.mem_append_right _ (List.mem_append_right _ (List.mem_append_right _ (List.mem_append_left _ (List.mem_of_getElem? (i := 32) rfl)))))))) (List.mem_append_right _ (List.mem_append_right _ (List.mem_append_right _ (List.mem_append_right _ (List.mem_append_right _ (List.mem_append_left _ (List.mem_of_getElem? (i := 38) rfl))))))) (List.mem_append_right _ (List.mem_append_right _ (List.mem_append_right _ (List.mem_append_right _ (List.mem_append_right _ (List.mem_append_left _ (List.mem_of_getElem? (i := 39) rfl))))))) (List.mem_append_right _ (List.mem_append_left _ (List.mem_of_getElem? (i := 3) rfl))) (List.mem_append_right _ (List.mem_append_right _ (List.mem_append_right _ (List.mem_append_right _ (List.mem_append_right _ (List.mem_append_right _ (List.mem_append_left _ (List.mem_of_getElem? (i := 0) rfl))))))))) rfl rfl rfl (by decide +kernel) ⟨Nat.le_of_ble_eq_true rfl, Nat.le_of_ble_eq_true rfl⟩) hK hP (va_recv hK hP (ci := 1) (q0 := 1) rfl (wl_atE (by decide) rfl)) rfl hl.1 rfl (Nat.le_of_ble_eq_true rfl) d_LN_lineBehind_124 ⟨Nat.zero_le _, Nat.zero_le _⟩ ?_
              refine z_ifb_eq hx hb (tgt := 133) d_LN_lineBehind_127 (by decide) (fun c_127 => ?_) (fun c_127 => ?_)
              · refine z_iinc (v := ((k + 1 : Nat) : Int)) (lv' := [(6, .int (iI (((k + 1 : Nat) : Int)))), (7, .int (iI (0))), (5, .int (iI (((k + 1 : Nat) : Int)))), (4, .int (iI ((M 2 0 - M (30 + 4 * i) 1)))), (0, .ref (ad (3))), (1, .ref (ad (29 + 4 * i))), (2, .int (iI (((a : Nat) : Int)))), (3, .int (iI (x)))]) hx hb d_LN_lineBehind_133 hl (k := 2) rfl (by omega) (by decide) rfl (fun ls hl => ?_)
                refine lv_goto (tgt := 31) hx hb d_LN_lineBehind_136 (by decide) ?_
                have hnb : k + 1 = p_nb (M 7) (M 8) (p_tabs M i n) (M 2 0 - M (30 + 4 * i) 1) a b k bb r2 := by unfold p_nb; rw [if_pos ⟨hbr ▸ c_59, Or.inl (by omega)⟩]
                have step : p_lx (M 7) (M 8) (p_tabs M i n) (M 2 0 - M (30 + 4 * i) 1) a b (f + 1) k bb r = if (a < k + 1 ∧ M 2 0 - M (30 + 4 * i) 1 < p_least (p_tabs M i n) r2) ∨ p_endl (M 7) k then (k + 1, r2) else p_lx (M 7) (M 8) (p_tabs M i n) (M 2 0 - M (30 + 4 * i) 1) a b f (k + 1) (k + 1) r2 := by conv => lhs; unfold p_lx; rw [if_pos (by omega), ← er2, ← hnb]
                rw [if_neg (fun h => h.elim (fun h => by omega) (fun h => c_127 (hen ▸ h))), he] at step
                rw [hM1] at hP hD
                exact ih (k + 1) (k + 1) r2 (B + 60000) (by omega) (by omega) (by omega) hwr2 (by omega) step.symm H locs ls hP hD hS (lv_sub hl [0, 2, 3, 4, 5, 6, 7] rfl)
              · refine lv_goto (tgt := 139) hx hb d_LN_lineBehind_130 (by decide) ?_
                have hnb : k + 1 = p_nb (M 7) (M 8) (p_tabs M i n) (M 2 0 - M (30 + 4 * i) 1) a b k bb r2 := by unfold p_nb; rw [if_pos ⟨hbr ▸ c_59, Or.inl (by omega)⟩]
                have step : p_lx (M 7) (M 8) (p_tabs M i n) (M 2 0 - M (30 + 4 * i) 1) a b (f + 1) k bb r = if (a < k + 1 ∧ M 2 0 - M (30 + 4 * i) 1 < p_least (p_tabs M i n) r2) ∨ p_endl (M 7) k then (k + 1, r2) else p_lx (M 7) (M 8) (p_tabs M i n) (M 2 0 - M (30 + 4 * i) 1) a b f (k + 1) (k + 1) r2 := by conv => lhs; unfold p_lx; rw [if_pos (by omega), ← er2, ← hnb]
                rw [if_pos (Or.inr (hen ▸ c_127)), he] at step
                rw [hM1] at hP hD
                subst step
                exact kk H locs ls hP hD hS (lv_sub hl [1] rfl)
          · refine lv_aload_n hx hb d_LN_lineBehind_94 rfl (lv_at hl 3 rfl) ?_
            refine z_get (ci := 3) (C := R_LN) (T := T_LN) (N := 6) (v := .ref (ad (4))) hx hb hg in_LN hown hK hP (3) (by decide) rfl rfl 5 (by decide) (hg _ (List.mem_append_right _ (List.mem_append_right _ (List.mem_append_right _ (List.mem_append_right _ (List.mem_append_left _ (List.mem_of_getElem? (i := 13) rfl))))))) (fun _ h9 => h9) rfl d_LN_lineBehind_95 ?_
            refine ro_V (As := []) (rest := []) (z := p_least (p_tabs M i n) r2) ⟨hx, hb, hml, hown, hg⟩ (hle ▸ c_leastEnd l i n hp1 ht1 hr1) (cwV 0 hg (gt_V (List.mem_append_right _ (List.mem_append_right _ (List.mem_append_right _ (List.mem_append_right _ (List.mem_append_right _ (List.mem_append_right _ (List.mem_append_right _ (List.mem_append_left _ (List.mem_of_getElem? (i := 27) rfl))))))))) (List.mem_append_right _ (List.mem_append_right _ (List.mem_append_right _ (List.mem_append_right _ (List.mem_append_right _ (List.mem_append_right _ (List.mem_append_right _ (List.mem_append_left _ (List.mem_of_getElem? (i := 28) rfl))))))))) (List.mem_append_right _ (List.mem_append_right _ (List.mem_append_right _ (List.mem_append_right _ (List.mem_append_right _ (List.mem_append_right _ (List.mem_append_right _ (List.mem_append_left _ (List.mem_of_getElem? (i := 29) rfl))))))))) (List.mem_append_right _ (List.mem_append_left _ (List.mem_of_getElem? (i := 7) rfl))) (List.mem_append_right _ (List.mem_append_right _ (List.mem_append_right _ (List.mem_append_right _ (List.mem_append_right _ (List.mem_append_right _ (List.mem_append_right _ (List.mem_append_left _ (List.mem_of_getElem? (i := 30) rfl)))))))))) rfl rfl rfl (by decide +kernel) ⟨Nat.le_of_ble_eq_true rfl, Nat.le_of_ble_eq_true rfl⟩) hK hP (va_recv hK hP (ci := 4) (q0 := 4) rfl (wl_atE (by decide) rfl)) rfl hl.1 rfl (Nat.le_of_ble_eq_true rfl) d_LN_lineBehind_98 ⟨Nat.zero_le _, Nat.zero_le _⟩ ?_
            refine lv_iload hx hb d_LN_lineBehind_101 (lv_at hl 2 rfl) ?_
            refine z_icmp_le hx hb (tgt := 110) d_LN_lineBehind_103 (by decide) ⟨by omega, by omega⟩ ⟨by omega, by omega⟩ (fun c_103 => ?_) (fun c_103 => ?_)
            · refine z_iconst hx hb (z := 0) d_LN_lineBehind_110 ?_
              refine lv_istore (lv' := [(7, .int (iI (0))), (5, .int (iI (((k + 1 : Nat) : Int)))), (6, .int (iI (((k : Nat) : Int)))), (4, .int (iI ((M 2 0 - M (30 + 4 * i) 1)))), (0, .ref (ad (3))), (1, .ref (ad (29 + 4 * i))), (2, .int (iI (((a : Nat) : Int)))), (3, .int (iI (x)))]) hx hb d_LN_lineBehind_111 hl (by decide) rfl (fun ls hl => ?_)
              refine lv_iload hx hb d_LN_lineBehind_113 (lv_at hl 0 rfl) ?_
              refine z_if_ne hx hb (tgt := 139) d_LN_lineBehind_115 (by decide) ⟨by decide, by decide⟩ (fun c_115 => ?_) (fun c_115 => ?_)
              · exact absurd c_115 (by decide)
              · refine lv_aload_n hx hb d_LN_lineBehind_118 rfl (lv_at hl 4 rfl) ?_
                refine z_get (ci := 3) (C := R_LN) (T := T_LN) (N := 6) (v := .ref (ad (1))) hx hb hg in_LN hown hK hP (3) (by decide) rfl rfl 3 (by decide) (hg _ (List.mem_append_right _ (List.mem_append_right _ (List.mem_append_right _ (List.mem_append_right _ (List.mem_append_left _ (List.mem_of_getElem? (i := 11) rfl))))))) (fun _ h9 => h9) rfl d_LN_lineBehind_119 ?_
                refine lv_iload hx hb d_LN_lineBehind_122 (lv_at hl 2 rfl) ?_
                refine ro_V (As := [.int (iI (((k : Nat) : Int)))]) (rest := []) (z := bz (p_endl (M_1 7) k) inferInstance) ⟨hx, hb, hml, hown, hg⟩ (c_endsLine l k (by omega) (zb_7 ht1)) (cwV 1 hg (gt_V (List.mem_append_right _ (List.mem_append_right _ (List.mem_append_right _ (List.mem_append_right _ (List.mem_append_right _ (List.mem_append_right _ (List.mem_append_left _ (List.mem_of_getElem? (i := 32) rfl)))))))) (List.mem_append_right _ (List.mem_append_right _ (List.mem_append_right _ (List.mem_append_right _ (List.mem_append_right _ (List.mem_append_left _ (List.mem_of_getElem? (i := 38) rfl))))))) (List.mem_append_right _ (List.mem_append_right _ (List.mem_append_right _ (List.mem_append_right _ (List.mem_append_right _ (List.mem_append_left _ (List.mem_of_getElem? (i := 39) rfl))))))) (List.mem_append_right _ (List.mem_append_left _ (List.mem_of_getElem? (i := 3) rfl))) (List.mem_append_right _ (List.mem_append_right _ (List.mem_append_right _ (List.mem_append_right _ (List.mem_append_right _ (List.mem_append_right _ (List.mem_append_left _ (List.mem_of_getElem? (i := 0) rfl))))))))) rfl rfl rfl (by decide +kernel) ⟨Nat.le_of_ble_eq_true rfl, Nat.le_of_ble_eq_true rfl⟩) hK hP (va_recv hK hP (ci := 1) (q0 := 1) rfl (wl_atE (by decide) rfl)) rfl hl.1 rfl (Nat.le_of_ble_eq_true rfl) d_LN_lineBehind_124 ⟨Nat.zero_le _, Nat.zero_le _⟩ ?_
                refine z_ifb_eq hx hb (tgt := 133) d_LN_lineBehind_127 (by decide) (fun c_127 => ?_) (fun c_127 => ?_)
                · refine z_iinc (v := ((k + 1 : Nat) : Int)) (lv' := [(6, .int (iI (((k + 1 : Nat) : Int)))), (7, .int (iI (0))), (5, .int (iI (((k + 1 : Nat) : Int)))), (4, .int (iI ((M 2 0 - M (30 + 4 * i) 1)))), (0, .ref (ad (3))), (1, .ref (ad (29 + 4 * i))), (2, .int (iI (((a : Nat) : Int)))), (3, .int (iI (x)))]) hx hb d_LN_lineBehind_133 hl (k := 2) rfl (by omega) (by decide) rfl (fun ls hl => ?_)
                  refine lv_goto (tgt := 31) hx hb d_LN_lineBehind_136 (by decide) ?_
                  have hnb : k + 1 = p_nb (M 7) (M 8) (p_tabs M i n) (M 2 0 - M (30 + 4 * i) 1) a b k bb r2 := by unfold p_nb; rw [if_pos ⟨hbr ▸ c_59, Or.inl (by omega)⟩]
                  have step : p_lx (M 7) (M 8) (p_tabs M i n) (M 2 0 - M (30 + 4 * i) 1) a b (f + 1) k bb r = if (a < k + 1 ∧ M 2 0 - M (30 + 4 * i) 1 < p_least (p_tabs M i n) r2) ∨ p_endl (M 7) k then (k + 1, r2) else p_lx (M 7) (M 8) (p_tabs M i n) (M 2 0 - M (30 + 4 * i) 1) a b f (k + 1) (k + 1) r2 := by conv => lhs; unfold p_lx; rw [if_pos (by omega), ← er2, ← hnb]
                  rw [if_neg (fun h => h.elim (fun h => by omega) (fun h => c_127 (hen ▸ h))), he] at step
                  rw [hM1] at hP hD
                  exact ih (k + 1) (k + 1) r2 (B + 60000) (by omega) (by omega) (by omega) hwr2 (by omega) step.symm H locs ls hP hD hS (lv_sub hl [0, 2, 3, 4, 5, 6, 7] rfl)
                · refine lv_goto (tgt := 139) hx hb d_LN_lineBehind_130 (by decide) ?_
                  have hnb : k + 1 = p_nb (M 7) (M 8) (p_tabs M i n) (M 2 0 - M (30 + 4 * i) 1) a b k bb r2 := by unfold p_nb; rw [if_pos ⟨hbr ▸ c_59, Or.inl (by omega)⟩]
                  have step : p_lx (M 7) (M 8) (p_tabs M i n) (M 2 0 - M (30 + 4 * i) 1) a b (f + 1) k bb r = if (a < k + 1 ∧ M 2 0 - M (30 + 4 * i) 1 < p_least (p_tabs M i n) r2) ∨ p_endl (M 7) k then (k + 1, r2) else p_lx (M 7) (M 8) (p_tabs M i n) (M 2 0 - M (30 + 4 * i) 1) a b f (k + 1) (k + 1) r2 := by conv => lhs; unfold p_lx; rw [if_pos (by omega), ← er2, ← hnb]
                  rw [if_pos (Or.inr (hen ▸ c_127)), he] at step
                  rw [hM1] at hP hD
                  subst step
                  exact kk H locs ls hP hD hS (lv_sub hl [1] rfl)
            · refine z_iconst hx hb (z := 1) d_LN_lineBehind_106 ?_
              refine lv_goto (tgt := 111) hx hb d_LN_lineBehind_107 (by decide) ?_
              refine lv_istore (lv' := [(7, .int (iI (1))), (5, .int (iI (((k + 1 : Nat) : Int)))), (6, .int (iI (((k : Nat) : Int)))), (4, .int (iI ((M 2 0 - M (30 + 4 * i) 1)))), (0, .ref (ad (3))), (1, .ref (ad (29 + 4 * i))), (2, .int (iI (((a : Nat) : Int)))), (3, .int (iI (x)))]) hx hb d_LN_lineBehind_111 hl (by decide) rfl (fun ls hl => ?_)
              refine lv_iload hx hb d_LN_lineBehind_113 (lv_at hl 0 rfl) ?_
              refine z_if_ne hx hb (tgt := 139) d_LN_lineBehind_115 (by decide) ⟨by decide, by decide⟩ (fun c_115 => ?_) (fun c_115 => ?_)
              · have hnb : k + 1 = p_nb (M 7) (M 8) (p_tabs M i n) (M 2 0 - M (30 + 4 * i) 1) a b k bb r2 := by unfold p_nb; rw [if_pos ⟨hbr ▸ c_59, Or.inl (by omega)⟩]
                have step : p_lx (M 7) (M 8) (p_tabs M i n) (M 2 0 - M (30 + 4 * i) 1) a b (f + 1) k bb r = if (a < k + 1 ∧ M 2 0 - M (30 + 4 * i) 1 < p_least (p_tabs M i n) r2) ∨ p_endl (M 7) k then (k + 1, r2) else p_lx (M 7) (M 8) (p_tabs M i n) (M 2 0 - M (30 + 4 * i) 1) a b f (k + 1) (k + 1) r2 := by conv => lhs; unfold p_lx; rw [if_pos (by omega), ← er2, ← hnb]
                rw [if_pos (Or.inl ⟨by omega, by omega⟩), he] at step
                rw [hM1] at hP hD
                subst step
                exact kk H locs ls hP hD hS (lv_sub hl [1] rfl)
              · exact absurd c_115 (by decide)
        · refine lv_aload_n hx hb d_LN_lineBehind_68 rfl (lv_at hl 3 rfl) ?_
          refine z_get (ci := 3) (C := R_LN) (T := T_LN) (N := 6) (v := .ref (ad (4))) hx hb hg in_LN hown hK hP (3) (by decide) rfl rfl 5 (by decide) (hg _ (List.mem_append_right _ (List.mem_append_right _ (List.mem_append_right _ (List.mem_append_right _ (List.mem_append_left _ (List.mem_of_getElem? (i := 13) rfl))))))) (fun _ h9 => h9) rfl d_LN_lineBehind_69 ?_
          refine lv_iload hx hb d_LN_lineBehind_72 (lv_at hl 0 rfl) ?_
          refine ro_V (As := [.int (iI (((k : Nat) : Int)))]) (rest := []) (z := p_endb (M 7) (M 8) (p_tabs M i n) r2 k) ⟨hx, hb, hml, hown, hg⟩ (heb ▸ c_endBehind l i n k (by omega) hp1 ht1 hr1) (cwV 1 hg (gt_V (List.mem_append_right _ (List.mem_append_right _ (List.mem_append_right _ (List.mem_append_right _ (List.mem_append_right _ (List.mem_append_right _ (List.mem_append_right _ (List.mem_append_left _ (List.mem_of_getElem? (i := 23) rfl))))))))) (List.mem_append_right _ (List.mem_append_right _ (List.mem_append_right _ (List.mem_append_right _ (List.mem_append_right _ (List.mem_append_right _ (List.mem_append_right _ (List.mem_append_left _ (List.mem_of_getElem? (i := 24) rfl))))))))) (List.mem_append_right _ (List.mem_append_right _ (List.mem_append_right _ (List.mem_append_right _ (List.mem_append_right _ (List.mem_append_right _ (List.mem_append_right _ (List.mem_append_left _ (List.mem_of_getElem? (i := 25) rfl))))))))) (List.mem_append_right _ (List.mem_append_left _ (List.mem_of_getElem? (i := 7) rfl))) (List.mem_append_right _ (List.mem_append_right _ (List.mem_append_right _ (List.mem_append_right _ (List.mem_append_right _ (List.mem_append_right _ (List.mem_append_right _ (List.mem_append_left _ (List.mem_of_getElem? (i := 26) rfl)))))))))) rfl rfl rfl (by decide +kernel) ⟨Nat.le_of_ble_eq_true rfl, Nat.le_of_ble_eq_true rfl⟩) hK hP (va_recv hK hP (ci := 4) (q0 := 4) rfl (wl_atE (by decide) rfl)) rfl hl.1 rfl (Nat.le_of_ble_eq_true rfl) d_LN_lineBehind_74 ⟨Nat.zero_le _, Nat.zero_le _⟩ ?_
          refine lv_iload hx hb d_LN_lineBehind_77 (lv_at hl 2 rfl) ?_
          refine z_icmp_gt hx hb (tgt := 88) d_LN_lineBehind_79 (by decide) ⟨by omega, by omega⟩ ⟨by omega, by omega⟩ (fun c_79 => ?_) (fun c_79 => ?_)
          · refine lv_iload hx hb d_LN_lineBehind_88 (lv_at hl 1 rfl) ?_
            refine lv_iload_n hx hb d_LN_lineBehind_90 rfl (lv_at hl 5 rfl) ?_
            refine z_icmp_le hx hb (tgt := 110) d_LN_lineBehind_91 (by decide) ⟨by omega, by omega⟩ ⟨by omega, by omega⟩ (fun c_91 => ?_) (fun c_91 => ?_)
            · refine z_iconst hx hb (z := 0) d_LN_lineBehind_110 ?_
              refine lv_istore (lv' := [(7, .int (iI (0))), (6, .int (iI (((k : Nat) : Int)))), (5, .int (iI (((bb : Nat) : Int)))), (4, .int (iI ((M 2 0 - M (30 + 4 * i) 1)))), (0, .ref (ad (3))), (1, .ref (ad (29 + 4 * i))), (2, .int (iI (((a : Nat) : Int)))), (3, .int (iI (x)))]) hx hb d_LN_lineBehind_111 hl (by decide) rfl (fun ls hl => ?_)
              refine lv_iload hx hb d_LN_lineBehind_113 (lv_at hl 0 rfl) ?_
              refine z_if_ne hx hb (tgt := 139) d_LN_lineBehind_115 (by decide) ⟨by decide, by decide⟩ (fun c_115 => ?_) (fun c_115 => ?_)
              · exact absurd c_115 (by decide)
              · refine lv_aload_n hx hb d_LN_lineBehind_118 rfl (lv_at hl 4 rfl) ?_
                refine z_get (ci := 3) (C := R_LN) (T := T_LN) (N := 6) (v := .ref (ad (1))) hx hb hg in_LN hown hK hP (3) (by decide) rfl rfl 3 (by decide) (hg _ (List.mem_append_right _ (List.mem_append_right _ (List.mem_append_right _ (List.mem_append_right _ (List.mem_append_left _ (List.mem_of_getElem? (i := 11) rfl))))))) (fun _ h9 => h9) rfl d_LN_lineBehind_119 ?_
                refine lv_iload hx hb d_LN_lineBehind_122 (lv_at hl 1 rfl) ?_
                refine ro_V (As := [.int (iI (((k : Nat) : Int)))]) (rest := []) (z := bz (p_endl (M_1 7) k) inferInstance) ⟨hx, hb, hml, hown, hg⟩ (c_endsLine l k (by omega) (zb_7 ht1)) (cwV 1 hg (gt_V (List.mem_append_right _ (List.mem_append_right _ (List.mem_append_right _ (List.mem_append_right _ (List.mem_append_right _ (List.mem_append_right _ (List.mem_append_left _ (List.mem_of_getElem? (i := 32) rfl)))))))) (List.mem_append_right _ (List.mem_append_right _ (List.mem_append_right _ (List.mem_append_right _ (List.mem_append_right _ (List.mem_append_left _ (List.mem_of_getElem? (i := 38) rfl))))))) (List.mem_append_right _ (List.mem_append_right _ (List.mem_append_right _ (List.mem_append_right _ (List.mem_append_right _ (List.mem_append_left _ (List.mem_of_getElem? (i := 39) rfl))))))) (List.mem_append_right _ (List.mem_append_left _ (List.mem_of_getElem? (i := 3) rfl))) (List.mem_append_right _ (List.mem_append_right _ (List.mem_append_right _ (List.mem_append_right _ (List.mem_append_right _ (List.mem_append_right _ (List.mem_append_left _ (List.mem_of_getElem? (i := 0) rfl))))))))) rfl rfl rfl (by decide +kernel) ⟨Nat.le_of_ble_eq_true rfl, Nat.le_of_ble_eq_true rfl⟩) hK hP (va_recv hK hP (ci := 1) (q0 := 1) rfl (wl_atE (by decide) rfl)) rfl hl.1 rfl (Nat.le_of_ble_eq_true rfl) d_LN_lineBehind_124 ⟨Nat.zero_le _, Nat.zero_le _⟩ ?_
                refine z_ifb_eq hx hb (tgt := 133) d_LN_lineBehind_127 (by decide) (fun c_127 => ?_) (fun c_127 => ?_)
                · refine z_iinc (v := ((k + 1 : Nat) : Int)) (lv' := [(6, .int (iI (((k + 1 : Nat) : Int)))), (7, .int (iI (0))), (5, .int (iI (((bb : Nat) : Int)))), (4, .int (iI ((M 2 0 - M (30 + 4 * i) 1)))), (0, .ref (ad (3))), (1, .ref (ad (29 + 4 * i))), (2, .int (iI (((a : Nat) : Int)))), (3, .int (iI (x)))]) hx hb d_LN_lineBehind_133 hl (k := 1) rfl (by omega) (by decide) rfl (fun ls hl => ?_)
                  refine lv_goto (tgt := 31) hx hb d_LN_lineBehind_136 (by decide) ?_
                  have hnb : bb = p_nb (M 7) (M 8) (p_tabs M i n) (M 2 0 - M (30 + 4 * i) 1) a b k bb r2 := by unfold p_nb; rw [if_neg (fun h => h.2.elim (fun q => c_65 (by omega)) (fun q => by omega))]
                  have step : p_lx (M 7) (M 8) (p_tabs M i n) (M 2 0 - M (30 + 4 * i) 1) a b (f + 1) k bb r = if (a < bb ∧ M 2 0 - M (30 + 4 * i) 1 < p_least (p_tabs M i n) r2) ∨ p_endl (M 7) k then (bb, r2) else p_lx (M 7) (M 8) (p_tabs M i n) (M 2 0 - M (30 + 4 * i) 1) a b f (k + 1) (bb) r2 := by conv => lhs; unfold p_lx; rw [if_pos (by omega), ← er2, ← hnb]
                  rw [if_neg (fun h => h.elim (fun h => by omega) (fun h => c_127 (hen ▸ h))), he] at step
                  rw [hM1] at hP hD
                  exact ih (k + 1) (bb) r2 (B + 60000) (by omega) (by omega) (by omega) hwr2 (by omega) step.symm H locs ls hP hD hS (lv_sub hl [0, 2, 3, 4, 5, 6, 7] rfl)
                · refine lv_goto (tgt := 139) hx hb d_LN_lineBehind_130 (by decide) ?_
                  have hnb : bb = p_nb (M 7) (M 8) (p_tabs M i n) (M 2 0 - M (30 + 4 * i) 1) a b k bb r2 := by unfold p_nb; rw [if_neg (fun h => h.2.elim (fun q => c_65 (by omega)) (fun q => by omega))]
                  have step : p_lx (M 7) (M 8) (p_tabs M i n) (M 2 0 - M (30 + 4 * i) 1) a b (f + 1) k bb r = if (a < bb ∧ M 2 0 - M (30 + 4 * i) 1 < p_least (p_tabs M i n) r2) ∨ p_endl (M 7) k then (bb, r2) else p_lx (M 7) (M 8) (p_tabs M i n) (M 2 0 - M (30 + 4 * i) 1) a b f (k + 1) (bb) r2 := by conv => lhs; unfold p_lx; rw [if_pos (by omega), ← er2, ← hnb]
                  rw [if_pos (Or.inr (hen ▸ c_127)), he] at step
                  rw [hM1] at hP hD
                  subst step
                  exact kk H locs ls hP hD hS (lv_sub hl [2] rfl)
            · refine lv_aload_n hx hb d_LN_lineBehind_94 rfl (lv_at hl 3 rfl) ?_
              refine z_get (ci := 3) (C := R_LN) (T := T_LN) (N := 6) (v := .ref (ad (4))) hx hb hg in_LN hown hK hP (3) (by decide) rfl rfl 5 (by decide) (hg _ (List.mem_append_right _ (List.mem_append_right _ (List.mem_append_right _ (List.mem_append_right _ (List.mem_append_left _ (List.mem_of_getElem? (i := 13) rfl))))))) (fun _ h9 => h9) rfl d_LN_lineBehind_95 ?_
              refine ro_V (As := []) (rest := []) (z := p_least (p_tabs M i n) r2) ⟨hx, hb, hml, hown, hg⟩ (hle ▸ c_leastEnd l i n hp1 ht1 hr1) (cwV 0 hg (gt_V (List.mem_append_right _ (List.mem_append_right _ (List.mem_append_right _ (List.mem_append_right _ (List.mem_append_right _ (List.mem_append_right _ (List.mem_append_right _ (List.mem_append_left _ (List.mem_of_getElem? (i := 27) rfl))))))))) (List.mem_append_right _ (List.mem_append_right _ (List.mem_append_right _ (List.mem_append_right _ (List.mem_append_right _ (List.mem_append_right _ (List.mem_append_right _ (List.mem_append_left _ (List.mem_of_getElem? (i := 28) rfl))))))))) (List.mem_append_right _ (List.mem_append_right _ (List.mem_append_right _ (List.mem_append_right _ (List.mem_append_right _ (List.mem_append_right _ (List.mem_append_right _ (List.mem_append_left _ (List.mem_of_getElem? (i := 29) rfl))))))))) (List.mem_append_right _ (List.mem_append_left _ (List.mem_of_getElem? (i := 7) rfl))) (List.mem_append_right _ (List.mem_append_right _ (List.mem_append_right _ (List.mem_append_right _ (List.mem_append_right _ (List.mem_append_right _ (List.mem_append_right _ (List.mem_append_left _ (List.mem_of_getElem? (i := 30) rfl)))))))))) rfl rfl rfl (by decide +kernel) ⟨Nat.le_of_ble_eq_true rfl, Nat.le_of_ble_eq_true rfl⟩) hK hP (va_recv hK hP (ci := 4) (q0 := 4) rfl (wl_atE (by decide) rfl)) rfl hl.1 rfl (Nat.le_of_ble_eq_true rfl) d_LN_lineBehind_98 ⟨Nat.zero_le _, Nat.zero_le _⟩ ?_
              refine lv_iload hx hb d_LN_lineBehind_101 (lv_at hl 2 rfl) ?_
              refine z_icmp_le hx hb (tgt := 110) d_LN_lineBehind_103 (by decide) ⟨by omega, by omega⟩ ⟨by omega, by omega⟩ (fun c_103 => ?_) (fun c_103 => ?_)
              · refine z_iconst hx hb (z := 0) d_LN_lineBehind_110 ?_
                refine lv_istore (lv' := [(7, .int (iI (0))), (6, .int (iI (((k : Nat) : Int)))), (5, .int (iI (((bb : Nat) : Int)))), (4, .int (iI ((M 2 0 - M (30 + 4 * i) 1)))), (0, .ref (ad (3))), (1, .ref (ad (29 + 4 * i))), (2, .int (iI (((a : Nat) : Int)))), (3, .int (iI (x)))]) hx hb d_LN_lineBehind_111 hl (by decide) rfl (fun ls hl => ?_)
                refine lv_iload hx hb d_LN_lineBehind_113 (lv_at hl 0 rfl) ?_
                refine z_if_ne hx hb (tgt := 139) d_LN_lineBehind_115 (by decide) ⟨by decide, by decide⟩ (fun c_115 => ?_) (fun c_115 => ?_)
                · exact absurd c_115 (by decide)
                · refine lv_aload_n hx hb d_LN_lineBehind_118 rfl (lv_at hl 4 rfl) ?_
                  refine z_get (ci := 3) (C := R_LN) (T := T_LN) (N := 6) (v := .ref (ad (1))) hx hb hg in_LN hown hK hP (3) (by decide) rfl rfl 3 (by decide) (hg _ (List.mem_append_right _ (List.mem_append_right _ (List.mem_append_right _ (List.mem_append_right _ (List.mem_append_left _ (List.mem_of_getElem? (i := 11) rfl))))))) (fun _ h9 => h9) rfl d_LN_lineBehind_119 ?_
                  refine lv_iload hx hb d_LN_lineBehind_122 (lv_at hl 1 rfl) ?_
                  refine ro_V (As := [.int (iI (((k : Nat) : Int)))]) (rest := []) (z := bz (p_endl (M_1 7) k) inferInstance) ⟨hx, hb, hml, hown, hg⟩ (c_endsLine l k (by omega) (zb_7 ht1)) (cwV 1 hg (gt_V (List.mem_append_right _ (List.mem_append_right _ (List.mem_append_right _ (List.mem_append_right _ (List.mem_append_right _ (List.mem_append_right _ (List.mem_append_left _ (List.mem_of_getElem? (i := 32) rfl)))))))) (List.mem_append_right _ (List.mem_append_right _ (List.mem_append_right _ (List.mem_append_right _ (List.mem_append_right _ (List.mem_append_left _ (List.mem_of_getElem? (i := 38) rfl))))))) (List.mem_append_right _ (List.mem_append_right _ (List.mem_append_right _ (List.mem_append_right _ (List.mem_append_right _ (List.mem_append_left _ (List.mem_of_getElem? (i := 39) rfl))))))) (List.mem_append_right _ (List.mem_append_left _ (List.mem_of_getElem? (i := 3) rfl))) (List.mem_append_right _ (List.mem_append_right _ (List.mem_append_right _ (List.mem_append_right _ (List.mem_append_right _ (List.mem_append_right _ (List.mem_append_left _ (List.mem_of_getElem? (i := 0) rfl))))))))) rfl rfl rfl (by decide +kernel) ⟨Nat.le_of_ble_eq_true rfl, Nat.le_of_ble_eq_true rfl⟩) hK hP (va_recv hK hP (ci := 1) (q0 := 1) rfl (wl_atE (by decide) rfl)) rfl hl.1 rfl (Nat.le_of_ble_eq_true rfl) d_LN_lineBehind_124 ⟨Nat.zero_le _, Nat.zero_le _⟩ ?_
                  refine z_ifb_eq hx hb (tgt := 133) d_LN_lineBehind_127 (by decide) (fun c_127 => ?_) (fun c_127 => ?_)
                  · refine z_iinc (v := ((k + 1 : Nat) : Int)) (lv' := [(6, .int (iI (((k + 1 : Nat) : Int)))), (7, .int (iI (0))), (5, .int (iI (((bb : Nat) : Int)))), (4, .int (iI ((M 2 0 - M (30 + 4 * i) 1)))), (0, .ref (ad (3))), (1, .ref (ad (29 + 4 * i))), (2, .int (iI (((a : Nat) : Int)))), (3, .int (iI (x)))]) hx hb d_LN_lineBehind_133 hl (k := 1) rfl (by omega) (by decide) rfl (fun ls hl => ?_)
                    refine lv_goto (tgt := 31) hx hb d_LN_lineBehind_136 (by decide) ?_
                    have hnb : bb = p_nb (M 7) (M 8) (p_tabs M i n) (M 2 0 - M (30 + 4 * i) 1) a b k bb r2 := by unfold p_nb; rw [if_neg (fun h => h.2.elim (fun q => c_65 (by omega)) (fun q => by omega))]
                    have step : p_lx (M 7) (M 8) (p_tabs M i n) (M 2 0 - M (30 + 4 * i) 1) a b (f + 1) k bb r = if (a < bb ∧ M 2 0 - M (30 + 4 * i) 1 < p_least (p_tabs M i n) r2) ∨ p_endl (M 7) k then (bb, r2) else p_lx (M 7) (M 8) (p_tabs M i n) (M 2 0 - M (30 + 4 * i) 1) a b f (k + 1) (bb) r2 := by conv => lhs; unfold p_lx; rw [if_pos (by omega), ← er2, ← hnb]
                    rw [if_neg (fun h => h.elim (fun h => by omega) (fun h => c_127 (hen ▸ h))), he] at step
                    rw [hM1] at hP hD
                    exact ih (k + 1) (bb) r2 (B + 60000) (by omega) (by omega) (by omega) hwr2 (by omega) step.symm H locs ls hP hD hS (lv_sub hl [0, 2, 3, 4, 5, 6, 7] rfl)
                  · refine lv_goto (tgt := 139) hx hb d_LN_lineBehind_130 (by decide) ?_
                    have hnb : bb = p_nb (M 7) (M 8) (p_tabs M i n) (M 2 0 - M (30 + 4 * i) 1) a b k bb r2 := by unfold p_nb; rw [if_neg (fun h => h.2.elim (fun q => c_65 (by omega)) (fun q => by omega))]
                    have step : p_lx (M 7) (M 8) (p_tabs M i n) (M 2 0 - M (30 + 4 * i) 1) a b (f + 1) k bb r = if (a < bb ∧ M 2 0 - M (30 + 4 * i) 1 < p_least (p_tabs M i n) r2) ∨ p_endl (M 7) k then (bb, r2) else p_lx (M 7) (M 8) (p_tabs M i n) (M 2 0 - M (30 + 4 * i) 1) a b f (k + 1) (bb) r2 := by conv => lhs; unfold p_lx; rw [if_pos (by omega), ← er2, ← hnb]
                    rw [if_pos (Or.inr (hen ▸ c_127)), he] at step
                    rw [hM1] at hP hD
                    subst step
                    exact kk H locs ls hP hD hS (lv_sub hl [2] rfl)
              · refine z_iconst hx hb (z := 1) d_LN_lineBehind_106 ?_
                refine lv_goto (tgt := 111) hx hb d_LN_lineBehind_107 (by decide) ?_
                refine lv_istore (lv' := [(7, .int (iI (1))), (6, .int (iI (((k : Nat) : Int)))), (5, .int (iI (((bb : Nat) : Int)))), (4, .int (iI ((M 2 0 - M (30 + 4 * i) 1)))), (0, .ref (ad (3))), (1, .ref (ad (29 + 4 * i))), (2, .int (iI (((a : Nat) : Int)))), (3, .int (iI (x)))]) hx hb d_LN_lineBehind_111 hl (by decide) rfl (fun ls hl => ?_)
                refine lv_iload hx hb d_LN_lineBehind_113 (lv_at hl 0 rfl) ?_
                refine z_if_ne hx hb (tgt := 139) d_LN_lineBehind_115 (by decide) ⟨by decide, by decide⟩ (fun c_115 => ?_) (fun c_115 => ?_)
                · have hnb : bb = p_nb (M 7) (M 8) (p_tabs M i n) (M 2 0 - M (30 + 4 * i) 1) a b k bb r2 := by unfold p_nb; rw [if_neg (fun h => h.2.elim (fun q => c_65 (by omega)) (fun q => by omega))]
                  have step : p_lx (M 7) (M 8) (p_tabs M i n) (M 2 0 - M (30 + 4 * i) 1) a b (f + 1) k bb r = if (a < bb ∧ M 2 0 - M (30 + 4 * i) 1 < p_least (p_tabs M i n) r2) ∨ p_endl (M 7) k then (bb, r2) else p_lx (M 7) (M 8) (p_tabs M i n) (M 2 0 - M (30 + 4 * i) 1) a b f (k + 1) (bb) r2 := by conv => lhs; unfold p_lx; rw [if_pos (by omega), ← er2, ← hnb]
                  rw [if_pos (Or.inl ⟨by omega, by omega⟩), he] at step
                  rw [hM1] at hP hD
                  subst step
                  exact kk H locs ls hP hD hS (lv_sub hl [2] rfl)
                · exact absurd c_115 (by decide)
          · refine lv_iload hx hb d_LN_lineBehind_82 (lv_at hl 0 rfl) ?_
            refine z_iconst hx hb (z := 1) d_LN_lineBehind_84 ?_
            refine z_iadd hx hb d_LN_lineBehind_85 (v := ((k + 1 : Nat) : Int)) (by omega) ?_
            refine lv_istore (lv' := [(5, .int (iI (((k + 1 : Nat) : Int)))), (6, .int (iI (((k : Nat) : Int)))), (4, .int (iI ((M 2 0 - M (30 + 4 * i) 1)))), (0, .ref (ad (3))), (1, .ref (ad (29 + 4 * i))), (2, .int (iI (((a : Nat) : Int)))), (3, .int (iI (x)))]) hx hb d_LN_lineBehind_86 hl (by decide) rfl (fun ls hl => ?_)
            refine lv_iload hx hb d_LN_lineBehind_88 (lv_at hl 0 rfl) ?_
            refine lv_iload_n hx hb d_LN_lineBehind_90 rfl (lv_at hl 5 rfl) ?_
            refine z_icmp_le hx hb (tgt := 110) d_LN_lineBehind_91 (by decide) ⟨by omega, by omega⟩ ⟨by omega, by omega⟩ (fun c_91 => ?_) (fun c_91 => ?_)
            · refine z_iconst hx hb (z := 0) d_LN_lineBehind_110 ?_
              refine lv_istore (lv' := [(7, .int (iI (0))), (5, .int (iI (((k + 1 : Nat) : Int)))), (6, .int (iI (((k : Nat) : Int)))), (4, .int (iI ((M 2 0 - M (30 + 4 * i) 1)))), (0, .ref (ad (3))), (1, .ref (ad (29 + 4 * i))), (2, .int (iI (((a : Nat) : Int)))), (3, .int (iI (x)))]) hx hb d_LN_lineBehind_111 hl (by decide) rfl (fun ls hl => ?_)
              refine lv_iload hx hb d_LN_lineBehind_113 (lv_at hl 0 rfl) ?_
              refine z_if_ne hx hb (tgt := 139) d_LN_lineBehind_115 (by decide) ⟨by decide, by decide⟩ (fun c_115 => ?_) (fun c_115 => ?_)
              · exact absurd c_115 (by decide)
              · refine lv_aload_n hx hb d_LN_lineBehind_118 rfl (lv_at hl 4 rfl) ?_
                refine z_get (ci := 3) (C := R_LN) (T := T_LN) (N := 6) (v := .ref (ad (1))) hx hb hg in_LN hown hK hP (3) (by decide) rfl rfl 3 (by decide) (hg _ (List.mem_append_right _ (List.mem_append_right _ (List.mem_append_right _ (List.mem_append_right _ (List.mem_append_left _ (List.mem_of_getElem? (i := 11) rfl))))))) (fun _ h9 => h9) rfl d_LN_lineBehind_119 ?_
                refine lv_iload hx hb d_LN_lineBehind_122 (lv_at hl 2 rfl) ?_
                refine ro_V (As := [.int (iI (((k : Nat) : Int)))]) (rest := []) (z := bz (p_endl (M_1 7) k) inferInstance) ⟨hx, hb, hml, hown, hg⟩ (c_endsLine l k (by omega) (zb_7 ht1)) (cwV 1 hg (gt_V (List.mem_append_right _ (List.mem_append_right _ (List.mem_append_right _ (List.mem_append_right _ (List.mem_append_right _ (List.mem_append_right _ (List.mem_append_left _ (List.mem_of_getElem? (i := 32) rfl)))))))) (List.mem_append_right _ (List.mem_append_right _ (List.mem_append_right _ (List.mem_append_right _ (List.mem_append_right _ (List.mem_append_left _ (List.mem_of_getElem? (i := 38) rfl))))))) (List.mem_append_right _ (List.mem_append_right _ (List.mem_append_right _ (List.mem_append_right _ (List.mem_append_right _ (List.mem_append_left _ (List.mem_of_getElem? (i := 39) rfl))))))) (List.mem_append_right _ (List.mem_append_left _ (List.mem_of_getElem? (i := 3) rfl))) (List.mem_append_right _ (List.mem_append_right _ (List.mem_append_right _ (List.mem_append_right _ (List.mem_append_right _ (List.mem_append_right _ (List.mem_append_left _ (List.mem_of_getElem? (i := 0) rfl))))))))) rfl rfl rfl (by decide +kernel) ⟨Nat.le_of_ble_eq_true rfl, Nat.le_of_ble_eq_true rfl⟩) hK hP (va_recv hK hP (ci := 1) (q0 := 1) rfl (wl_atE (by decide) rfl)) rfl hl.1 rfl (Nat.le_of_ble_eq_true rfl) d_LN_lineBehind_124 ⟨Nat.zero_le _, Nat.zero_le _⟩ ?_
                refine z_ifb_eq hx hb (tgt := 133) d_LN_lineBehind_127 (by decide) (fun c_127 => ?_) (fun c_127 => ?_)
                · refine z_iinc (v := ((k + 1 : Nat) : Int)) (lv' := [(6, .int (iI (((k + 1 : Nat) : Int)))), (7, .int (iI (0))), (5, .int (iI (((k + 1 : Nat) : Int)))), (4, .int (iI ((M 2 0 - M (30 + 4 * i) 1)))), (0, .ref (ad (3))), (1, .ref (ad (29 + 4 * i))), (2, .int (iI (((a : Nat) : Int)))), (3, .int (iI (x)))]) hx hb d_LN_lineBehind_133 hl (k := 2) rfl (by omega) (by decide) rfl (fun ls hl => ?_)
                  refine lv_goto (tgt := 31) hx hb d_LN_lineBehind_136 (by decide) ?_
                  have hnb : k + 1 = p_nb (M 7) (M 8) (p_tabs M i n) (M 2 0 - M (30 + 4 * i) 1) a b k bb r2 := by unfold p_nb; rw [if_pos ⟨hbr ▸ c_59, Or.inr (by omega)⟩]
                  have step : p_lx (M 7) (M 8) (p_tabs M i n) (M 2 0 - M (30 + 4 * i) 1) a b (f + 1) k bb r = if (a < k + 1 ∧ M 2 0 - M (30 + 4 * i) 1 < p_least (p_tabs M i n) r2) ∨ p_endl (M 7) k then (k + 1, r2) else p_lx (M 7) (M 8) (p_tabs M i n) (M 2 0 - M (30 + 4 * i) 1) a b f (k + 1) (k + 1) r2 := by conv => lhs; unfold p_lx; rw [if_pos (by omega), ← er2, ← hnb]
                  rw [if_neg (fun h => h.elim (fun h => by omega) (fun h => c_127 (hen ▸ h))), he] at step
                  rw [hM1] at hP hD
                  exact ih (k + 1) (k + 1) r2 (B + 60000) (by omega) (by omega) (by omega) hwr2 (by omega) step.symm H locs ls hP hD hS (lv_sub hl [0, 2, 3, 4, 5, 6, 7] rfl)
                · refine lv_goto (tgt := 139) hx hb d_LN_lineBehind_130 (by decide) ?_
                  have hnb : k + 1 = p_nb (M 7) (M 8) (p_tabs M i n) (M 2 0 - M (30 + 4 * i) 1) a b k bb r2 := by unfold p_nb; rw [if_pos ⟨hbr ▸ c_59, Or.inr (by omega)⟩]
                  have step : p_lx (M 7) (M 8) (p_tabs M i n) (M 2 0 - M (30 + 4 * i) 1) a b (f + 1) k bb r = if (a < k + 1 ∧ M 2 0 - M (30 + 4 * i) 1 < p_least (p_tabs M i n) r2) ∨ p_endl (M 7) k then (k + 1, r2) else p_lx (M 7) (M 8) (p_tabs M i n) (M 2 0 - M (30 + 4 * i) 1) a b f (k + 1) (k + 1) r2 := by conv => lhs; unfold p_lx; rw [if_pos (by omega), ← er2, ← hnb]
                  rw [if_pos (Or.inr (hen ▸ c_127)), he] at step
                  rw [hM1] at hP hD
                  subst step
                  exact kk H locs ls hP hD hS (lv_sub hl [1] rfl)
            · refine lv_aload_n hx hb d_LN_lineBehind_94 rfl (lv_at hl 3 rfl) ?_
              refine z_get (ci := 3) (C := R_LN) (T := T_LN) (N := 6) (v := .ref (ad (4))) hx hb hg in_LN hown hK hP (3) (by decide) rfl rfl 5 (by decide) (hg _ (List.mem_append_right _ (List.mem_append_right _ (List.mem_append_right _ (List.mem_append_right _ (List.mem_append_left _ (List.mem_of_getElem? (i := 13) rfl))))))) (fun _ h9 => h9) rfl d_LN_lineBehind_95 ?_
              refine ro_V (As := []) (rest := []) (z := p_least (p_tabs M i n) r2) ⟨hx, hb, hml, hown, hg⟩ (hle ▸ c_leastEnd l i n hp1 ht1 hr1) (cwV 0 hg (gt_V (List.mem_append_right _ (List.mem_append_right _ (List.mem_append_right _ (List.mem_append_right _ (List.mem_append_right _ (List.mem_append_right _ (List.mem_append_right _ (List.mem_append_left _ (List.mem_of_getElem? (i := 27) rfl))))))))) (List.mem_append_right _ (List.mem_append_right _ (List.mem_append_right _ (List.mem_append_right _ (List.mem_append_right _ (List.mem_append_right _ (List.mem_append_right _ (List.mem_append_left _ (List.mem_of_getElem? (i := 28) rfl))))))))) (List.mem_append_right _ (List.mem_append_right _ (List.mem_append_right _ (List.mem_append_right _ (List.mem_append_right _ (List.mem_append_right _ (List.mem_append_right _ (List.mem_append_left _ (List.mem_of_getElem? (i := 29) rfl))))))))) (List.mem_append_right _ (List.mem_append_left _ (List.mem_of_getElem? (i := 7) rfl))) (List.mem_append_right _ (List.mem_append_right _ (List.mem_append_right _ (List.mem_append_right _ (List.mem_append_right _ (List.mem_append_right _ (List.mem_append_right _ (List.mem_append_left _ (List.mem_of_getElem? (i := 30) rfl)))))))))) rfl rfl rfl (by decide +kernel) ⟨Nat.le_of_ble_eq_true rfl, Nat.le_of_ble_eq_true rfl⟩) hK hP (va_recv hK hP (ci := 4) (q0 := 4) rfl (wl_atE (by decide) rfl)) rfl hl.1 rfl (Nat.le_of_ble_eq_true rfl) d_LN_lineBehind_98 ⟨Nat.zero_le _, Nat.zero_le _⟩ ?_
              refine lv_iload hx hb d_LN_lineBehind_101 (lv_at hl 2 rfl) ?_
              refine z_icmp_le hx hb (tgt := 110) d_LN_lineBehind_103 (by decide) ⟨by omega, by omega⟩ ⟨by omega, by omega⟩ (fun c_103 => ?_) (fun c_103 => ?_)
              · refine z_iconst hx hb (z := 0) d_LN_lineBehind_110 ?_
                refine lv_istore (lv' := [(7, .int (iI (0))), (5, .int (iI (((k + 1 : Nat) : Int)))), (6, .int (iI (((k : Nat) : Int)))), (4, .int (iI ((M 2 0 - M (30 + 4 * i) 1)))), (0, .ref (ad (3))), (1, .ref (ad (29 + 4 * i))), (2, .int (iI (((a : Nat) : Int)))), (3, .int (iI (x)))]) hx hb d_LN_lineBehind_111 hl (by decide) rfl (fun ls hl => ?_)
                refine lv_iload hx hb d_LN_lineBehind_113 (lv_at hl 0 rfl) ?_
                refine z_if_ne hx hb (tgt := 139) d_LN_lineBehind_115 (by decide) ⟨by decide, by decide⟩ (fun c_115 => ?_) (fun c_115 => ?_)
                · exact absurd c_115 (by decide)
                · refine lv_aload_n hx hb d_LN_lineBehind_118 rfl (lv_at hl 4 rfl) ?_
                  refine z_get (ci := 3) (C := R_LN) (T := T_LN) (N := 6) (v := .ref (ad (1))) hx hb hg in_LN hown hK hP (3) (by decide) rfl rfl 3 (by decide) (hg _ (List.mem_append_right _ (List.mem_append_right _ (List.mem_append_right _ (List.mem_append_right _ (List.mem_append_left _ (List.mem_of_getElem? (i := 11) rfl))))))) (fun _ h9 => h9) rfl d_LN_lineBehind_119 ?_
                  refine lv_iload hx hb d_LN_lineBehind_122 (lv_at hl 2 rfl) ?_
                  refine ro_V (As := [.int (iI (((k : Nat) : Int)))]) (rest := []) (z := bz (p_endl (M_1 7) k) inferInstance) ⟨hx, hb, hml, hown, hg⟩ (c_endsLine l k (by omega) (zb_7 ht1)) (cwV 1 hg (gt_V (List.mem_append_right _ (List.mem_append_right _ (List.mem_append_right _ (List.mem_append_right _ (List.mem_append_right _ (List.mem_append_right _ (List.mem_append_left _ (List.mem_of_getElem? (i := 32) rfl)))))))) (List.mem_append_right _ (List.mem_append_right _ (List.mem_append_right _ (List.mem_append_right _ (List.mem_append_right _ (List.mem_append_left _ (List.mem_of_getElem? (i := 38) rfl))))))) (List.mem_append_right _ (List.mem_append_right _ (List.mem_append_right _ (List.mem_append_right _ (List.mem_append_right _ (List.mem_append_left _ (List.mem_of_getElem? (i := 39) rfl))))))) (List.mem_append_right _ (List.mem_append_left _ (List.mem_of_getElem? (i := 3) rfl))) (List.mem_append_right _ (List.mem_append_right _ (List.mem_append_right _ (List.mem_append_right _ (List.mem_append_right _ (List.mem_append_right _ (List.mem_append_left _ (List.mem_of_getElem? (i := 0) rfl))))))))) rfl rfl rfl (by decide +kernel) ⟨Nat.le_of_ble_eq_true rfl, Nat.le_of_ble_eq_true rfl⟩) hK hP (va_recv hK hP (ci := 1) (q0 := 1) rfl (wl_atE (by decide) rfl)) rfl hl.1 rfl (Nat.le_of_ble_eq_true rfl) d_LN_lineBehind_124 ⟨Nat.zero_le _, Nat.zero_le _⟩ ?_
                  refine z_ifb_eq hx hb (tgt := 133) d_LN_lineBehind_127 (by decide) (fun c_127 => ?_) (fun c_127 => ?_)
                  · refine z_iinc (v := ((k + 1 : Nat) : Int)) (lv' := [(6, .int (iI (((k + 1 : Nat) : Int)))), (7, .int (iI (0))), (5, .int (iI (((k + 1 : Nat) : Int)))), (4, .int (iI ((M 2 0 - M (30 + 4 * i) 1)))), (0, .ref (ad (3))), (1, .ref (ad (29 + 4 * i))), (2, .int (iI (((a : Nat) : Int)))), (3, .int (iI (x)))]) hx hb d_LN_lineBehind_133 hl (k := 2) rfl (by omega) (by decide) rfl (fun ls hl => ?_)
                    refine lv_goto (tgt := 31) hx hb d_LN_lineBehind_136 (by decide) ?_
                    have hnb : k + 1 = p_nb (M 7) (M 8) (p_tabs M i n) (M 2 0 - M (30 + 4 * i) 1) a b k bb r2 := by unfold p_nb; rw [if_pos ⟨hbr ▸ c_59, Or.inr (by omega)⟩]
                    have step : p_lx (M 7) (M 8) (p_tabs M i n) (M 2 0 - M (30 + 4 * i) 1) a b (f + 1) k bb r = if (a < k + 1 ∧ M 2 0 - M (30 + 4 * i) 1 < p_least (p_tabs M i n) r2) ∨ p_endl (M 7) k then (k + 1, r2) else p_lx (M 7) (M 8) (p_tabs M i n) (M 2 0 - M (30 + 4 * i) 1) a b f (k + 1) (k + 1) r2 := by conv => lhs; unfold p_lx; rw [if_pos (by omega), ← er2, ← hnb]
                    rw [if_neg (fun h => h.elim (fun h => by omega) (fun h => c_127 (hen ▸ h))), he] at step
                    rw [hM1] at hP hD
                    exact ih (k + 1) (k + 1) r2 (B + 60000) (by omega) (by omega) (by omega) hwr2 (by omega) step.symm H locs ls hP hD hS (lv_sub hl [0, 2, 3, 4, 5, 6, 7] rfl)
                  · refine lv_goto (tgt := 139) hx hb d_LN_lineBehind_130 (by decide) ?_
                    have hnb : k + 1 = p_nb (M 7) (M 8) (p_tabs M i n) (M 2 0 - M (30 + 4 * i) 1) a b k bb r2 := by unfold p_nb; rw [if_pos ⟨hbr ▸ c_59, Or.inr (by omega)⟩]
                    have step : p_lx (M 7) (M 8) (p_tabs M i n) (M 2 0 - M (30 + 4 * i) 1) a b (f + 1) k bb r = if (a < k + 1 ∧ M 2 0 - M (30 + 4 * i) 1 < p_least (p_tabs M i n) r2) ∨ p_endl (M 7) k then (k + 1, r2) else p_lx (M 7) (M 8) (p_tabs M i n) (M 2 0 - M (30 + 4 * i) 1) a b f (k + 1) (k + 1) r2 := by conv => lhs; unfold p_lx; rw [if_pos (by omega), ← er2, ← hnb]
                    rw [if_pos (Or.inr (hen ▸ c_127)), he] at step
                    rw [hM1] at hP hD
                    subst step
                    exact kk H locs ls hP hD hS (lv_sub hl [1] rfl)
              · refine z_iconst hx hb (z := 1) d_LN_lineBehind_106 ?_
                refine lv_goto (tgt := 111) hx hb d_LN_lineBehind_107 (by decide) ?_
                refine lv_istore (lv' := [(7, .int (iI (1))), (5, .int (iI (((k + 1 : Nat) : Int)))), (6, .int (iI (((k : Nat) : Int)))), (4, .int (iI ((M 2 0 - M (30 + 4 * i) 1)))), (0, .ref (ad (3))), (1, .ref (ad (29 + 4 * i))), (2, .int (iI (((a : Nat) : Int)))), (3, .int (iI (x)))]) hx hb d_LN_lineBehind_111 hl (by decide) rfl (fun ls hl => ?_)
                refine lv_iload hx hb d_LN_lineBehind_113 (lv_at hl 0 rfl) ?_
                refine z_if_ne hx hb (tgt := 139) d_LN_lineBehind_115 (by decide) ⟨by decide, by decide⟩ (fun c_115 => ?_) (fun c_115 => ?_)
                · have hnb : k + 1 = p_nb (M 7) (M 8) (p_tabs M i n) (M 2 0 - M (30 + 4 * i) 1) a b k bb r2 := by unfold p_nb; rw [if_pos ⟨hbr ▸ c_59, Or.inr (by omega)⟩]
                  have step : p_lx (M 7) (M 8) (p_tabs M i n) (M 2 0 - M (30 + 4 * i) 1) a b (f + 1) k bb r = if (a < k + 1 ∧ M 2 0 - M (30 + 4 * i) 1 < p_least (p_tabs M i n) r2) ∨ p_endl (M 7) k then (k + 1, r2) else p_lx (M 7) (M 8) (p_tabs M i n) (M 2 0 - M (30 + 4 * i) 1) a b f (k + 1) (k + 1) r2 := by conv => lhs; unfold p_lx; rw [if_pos (by omega), ← er2, ← hnb]
                  rw [if_pos (Or.inl ⟨by omega, by omega⟩), he] at step
                  rw [hM1] at hP hD
                  subst step
                  exact kk H locs ls hP hD hS (lv_sub hl [1] rfl)
                · exact absurd c_115 (by decide)
set_option maxHeartbeats 4000000 in
set_option maxRecDepth 100000 in
/-- Lines.lineBehind -/
theorem c_lineBehind (l : Launch) {D : va_G} {ad : Nat → Nat} {cs : pg_C} {rp : Option Nat} {M : Nat → Nat → Int} (sz : Nat) (i n a b : Nat) (x : Int) (hb6 : b ≤ 600) (ha : a ≤ b) (hp : wfP M i n) (ht : wfT M) (hbe : M (29 + 4 * i) 5 = ((b : Nat) : Int)) (hsh : 0 ≤ M (30 + 4 * i) 1 ∧ M (30 + 4 * i) 1 ≤ 5000) (hxb : 0 ≤ x ∧ x ≤ 10000) : Met l y_LN_lineBehind ws_LN_lineBehind ({ frames := 5, cells := 0, slots := 0, locals := 114 } : Room) (va_Pc [.ref (ad (3)), .ref (ad (29 + 4 * i)), .int (iI (((a : Nat) : Int))), .int (iI (x))] (rw_B D vwCl (pg_tys cs) (pg_w ad cs rp M) sz)) (va_Qi (fun (r : Int32) (_ : Unit) => r = iI ((((p_lx (M 7) (M 8) (p_tabs M i n) (M 2 0 - M (30 + 4 * i) 1) a b (b - a) a a (0, x, 0, 0)).1 : Nat) : Int))) (rw_E D vwCl (pg_tys cs) (pg_w ad cs rp M) (pg_w ad cs (some i) (rset M (p_lx (M 7) (M 8) (p_tabs M i n) (M 2 0 - M (30 + 4 * i) 1) a b (b - a) a a (0, x, 0, 0)).2)) sz) (va_A (pg_w ad cs rp M) sz)) 0 0 (va_A (pg_w ad cs rp M) sz) := by
  refine Met.ofW (cc := b_LN_lineBehind) (maxL := 8) (ret := (some .int)) (by decide) rfl ?_
  intro p e s m args below meth c s₁ B hml hv
  obtain ⟨rfl, hsz, hP, hK, hD0⟩ := hv
  have hx := B.exec
  have hb := B.bytes
  have hr := B.returns
  have hts := atoms_spec (ws := ws_LN_lineBehind) B.pre
  have hg : ∀ w ∈ gt, w.before _ s = true := fun w h => hts w (List.mem_cons_of_mem _ h)
  have hown : s.vm.findClass R_LN = some m.cls := findClass_of_methodNamed B.named
  have hlocks := B.notSynchronized
  subst hsz
  have hD := hD0.self (sz := s.heap.size)
  have hA : ∀ q : Nat, s.heap.size ≤ q → va_A (pg_w ad cs rp M) s.heap.size q := fun q h => Or.inr h
  have hS : va_S (va_A (pg_w ad cs rp M) s.heap.size) s.heap s.heap [] := va_S.rf
  have hl := lv_entry ([.ref (ad (3)), .ref (ad (29 + 4 * i)), .int (iI (((a : Nat) : Int))), .int (iI (x))]) (n := 8) (Nat.le_of_ble_eq_true rfl)
  rw [lg_entry_eq]
  generalize (lg_sl ([.ref (ad (3)), .ref (ad (29 + 4 * i)), .int (iI (((a : Nat) : Int))), .int (iI (x))]) ++ List.replicate (8 - (lg_sl ([.ref (ad (3)), .ref (ad (29 + 4 * i)), .int (iI (((a : Nat) : Int))), .int (iI (x))])).length) Slot.unset).toArray = ls at hl ⊢
  have hl : lv_has ls 8 [(0, .ref (ad (3))), (1, .ref (ad (29 + 4 * i))), (2, .int (iI (((a : Nat) : Int)))), (3, .int (iI (x)))] := hl
  obtain ⟨hi, hn, hs, hz, hz2⟩ := id hp
  refine lv_aload_n hx hb d_LN_lineBehind_0 rfl (lv_at hl 0 rfl) ?_
  refine z_get (ci := 3) (C := R_LN) (T := T_LN) (N := 6) (v := .ref (ad (2))) hx hb hg in_LN hown hK hP (3) (by decide) rfl rfl 4 (by decide) (hg _ (List.mem_append_right _ (List.mem_append_right _ (List.mem_append_right _ (List.mem_append_right _ (List.mem_append_left _ (List.mem_of_getElem? (i := 12) rfl))))))) (fun _ h9 => h9) rfl d_LN_lineBehind_1 ?_
  refine z_get (ci := 2) (C := R_SH) (T := T_SH) (N := 3) (v := .int (iI (M (2) 0))) hx hb hg in_SH hown hK hP (2) (by decide) rfl rfl 0 (by decide) (hg _ (List.mem_append_right _ (List.mem_append_right _ (List.mem_append_right _ (List.mem_append_left _ (List.mem_of_getElem? (i := 4) rfl)))))) (fun _ h9 => h9) rfl d_LN_lineBehind_4 ?_
  refine lv_aload_n hx hb d_LN_lineBehind_7 rfl (lv_at hl 1 rfl) ?_
  refine z_get (ci := 6) (C := R_PA) (T := T_PA) (N := 6) (v := .ref (ad (30 + 4 * i))) hx hb hg in_PA hown hK hP (29 + 4 * i) (by omega) (pg_par _ _ _ _ _) rfl 0 (by decide) (hg _ (List.mem_append_right _ (List.mem_append_left _ (List.mem_of_getElem? (i := 38) rfl)))) (fun _ h9 => h9) rfl d_LN_lineBehind_8 ?_
  refine z_iconst hx hb (z := 1) d_LN_lineBehind_11 ?_
  refine z_iald hx hb hK hP (30 + 4 * i) 0 (by omega) (fun r => pg_shp _ _ _ _ r) rfl (1) rfl (by decide) (by decide) d_LN_lineBehind_12 ?_
  refine z_isub hx hb d_LN_lineBehind_13 (v := (M (2) 0 - M (30 + 4 * i) (1))) rfl ?_
  refine lv_istore (lv' := [(4, .int (iI ((M (2) 0 - M (30 + 4 * i) (1))))), (0, .ref (ad (3))), (1, .ref (ad (29 + 4 * i))), (2, .int (iI (((a : Nat) : Int)))), (3, .int (iI (x)))]) hx hb d_LN_lineBehind_14 hl (by decide) rfl (fun ls hl => ?_)
  refine lv_iload_n hx hb d_LN_lineBehind_16 rfl (lv_at hl 3 rfl) ?_
  refine lv_istore (lv' := [(5, .int (iI (((a : Nat) : Int)))), (4, .int (iI ((M (2) 0 - M (30 + 4 * i) (1))))), (0, .ref (ad (3))), (1, .ref (ad (29 + 4 * i))), (2, .int (iI (((a : Nat) : Int)))), (3, .int (iI (x)))]) hx hb d_LN_lineBehind_17 hl (by decide) rfl (fun ls hl => ?_)
  refine lv_aload_n hx hb d_LN_lineBehind_19 rfl (lv_at hl 2 rfl) ?_
  refine z_get (ci := 3) (C := R_LN) (T := T_LN) (N := 6) (v := .ref (ad (4))) hx hb hg in_LN hown hK hP (3) (by decide) rfl rfl 5 (by decide) (hg _ (List.mem_append_right _ (List.mem_append_right _ (List.mem_append_right _ (List.mem_append_right _ (List.mem_append_left _ (List.mem_of_getElem? (i := 13) rfl))))))) (fun _ h9 => h9) rfl d_LN_lineBehind_20 ?_
  refine lv_aload_n hx hb d_LN_lineBehind_23 rfl (lv_at hl 3 rfl) ?_
  refine lv_iload_n hx hb d_LN_lineBehind_24 rfl (lv_at hl 5 rfl) ?_
  refine rw_Vv (As := [.ref (ad (29 + 4 * i)), .int (iI (x))]) (rest := []) (w' := (pg_w ad cs (some i) (rset M (0, x, 0, 0)))) ⟨hx, hb, hml, hown, hg⟩ (c_begin l _ i x hi) (cwV 2 hg (gt_V (List.mem_append_right _ (List.mem_append_right _ (List.mem_append_right _ (List.mem_append_right _ (List.mem_append_right _ (List.mem_append_right _ (List.mem_append_right _ (List.mem_append_left _ (List.mem_of_getElem? (i := 2) rfl))))))))) (List.mem_append_right _ (List.mem_append_right _ (List.mem_append_right _ (List.mem_append_right _ (List.mem_append_right _ (List.mem_append_right _ (List.mem_append_right _ (List.mem_append_left _ (List.mem_of_getElem? (i := 3) rfl))))))))) (List.mem_append_right _ (List.mem_append_right _ (List.mem_append_right _ (List.mem_append_right _ (List.mem_append_right _ (List.mem_append_right _ (List.mem_append_right _ (List.mem_append_left _ (List.mem_of_getElem? (i := 4) rfl))))))))) (List.mem_append_right _ (List.mem_append_left _ (List.mem_of_getElem? (i := 7) rfl))) (List.mem_append_right _ (List.mem_append_right _ (List.mem_append_right _ (List.mem_append_right _ (List.mem_append_right _ (List.mem_append_right _ (List.mem_append_right _ (List.mem_append_left _ (List.mem_of_getElem? (i := 5) rfl)))))))))) rfl rfl rfl (by decide +kernel) ⟨Nat.le_of_ble_eq_true rfl, Nat.le_of_ble_eq_true rfl⟩) hK hP hD hS hA (va_recv hK hP (ci := 4) (q0 := 4) rfl (wl_atE (by decide) rfl)) rfl hl.1 rfl (Nat.le_of_ble_eq_true rfl) d_LN_lineBehind_25 ⟨Nat.zero_le _, Nat.zero_le _⟩ (fun H locs hP hD hS => ?_)
  obtain ⟨M_1, eM_1⟩ : ∃ q_, q_ = rset M (0, x, 0, 0) := ⟨_, rfl⟩
  have hP : va_P D vwCl (pg_w ad cs (some i) M_1) H := by rw [eM_1]; exact hP
  have hD : va_D (va_A (pg_w ad cs rp M) s.heap.size) (pg_w ad cs (some i) M_1) := by rw [eM_1]; exact hD
  refine lv_iload_n hx hb d_LN_lineBehind_28 rfl (lv_at hl 4 rfl) ?_
  refine lv_istore (lv' := [(6, .int (iI (((a : Nat) : Int)))), (5, .int (iI (((a : Nat) : Int)))), (4, .int (iI ((M (2) 0 - M (30 + 4 * i) (1))))), (0, .ref (ad (3))), (1, .ref (ad (29 + 4 * i))), (2, .int (iI (((a : Nat) : Int)))), (3, .int (iI (x)))]) hx hb d_LN_lineBehind_29 hl (by decide) rfl (fun ls hl => ?_)
  rw [eM_1] at hP hD
  refine lp_lineBehind hx hb hml hg hown hK hA i n a b x hb6 ha hp ht hbe hsh (p_lx (M 7) (M 8) (p_tabs M i n) (M 2 0 - M (30 + 4 * i) 1) a b (b - a) a a (0, x, 0, 0)) (fun H locs ls hP hD hS hl => ?_) (b - a) a a (0, x, 0, 0) 10000 (by omega) (by omega) (by omega) ⟨Or.inl rfl, hxb.1, Int.le_refl 0, Int.le_refl 0, by show x + 0 ≤ 10000; omega⟩ (by omega) rfl H locs ls hP hD hS (lv_sub hl [0, 1, 2, 3, 4, 5, 6] rfl)
  refine lv_iload hx hb d_LN_lineBehind_139 (lv_at hl 0 rfl) ?_
  have hM : rset M (p_lx (M 7) (M 8) (p_tabs M i n) (M 2 0 - M (30 + 4 * i) 1) a b (b - a) a a (0, x, 0, 0)).2 = rset M (p_lx (M 7) (M 8) (p_tabs M i n) (M 2 0 - M (30 + 4 * i) 1) a b (b - a) a a (0, x, 0, 0)).2 := rfl
  have eW : pg_w ad cs (some i) (rset M (p_lx (M 7) (M 8) (p_tabs M i n) (M 2 0 - M (30 + 4 * i) 1) a b (b - a) a a (0, x, 0, 0)).2) = pg_w ad cs (some i) (rset M (p_lx (M 7) (M 8) (p_tabs M i n) (M 2 0 - M (30 + 4 * i) 1) a b (b - a) a a (0, x, 0, 0)).2) := by rw [hM]
  have hP := Eq.mp (congrArg (fun q => va_P D vwCl q _) eW) hP
  have hD := Eq.mp (congrArg (va_D _) eW) hD
  exact W.iret (v := iI ((((p_lx (M 7) (M 8) (p_tabs M i n) (M 2 0 - M (30 + 4 * i) 1) a b (b - a) a a (0, x, 0, 0)).1 : Nat) : Int))) hx hb hr (fun t ht hW => ⟨⟨_, (), rfl, rfl, by rw [ht]; exact hP, va_K.moved hW.alike hK, hD⟩, hS.F ht⟩) hS.2.2 d_LN_lineBehind_141
