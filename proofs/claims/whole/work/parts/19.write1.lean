set_option maxHeartbeats 4000000 in
set_option maxRecDepth 100000 in
/-- Ruler.beginStretch -/
theorem c_beginStretch (l : Launch) {D : va_G} {ad : Nat → Nat} {cs : pg_C} {rp : Option Nat} {M : Nat → Nat → Int} (sz : Nat) (x : Int) : Met l y_RU_beginStretch ws_RU_beginStretch ({ frames := 0, cells := 0, slots := 0, locals := 0 } : Room) (va_Pc [.ref (ad (4)), .int (iI (x))] (rw_B D vwCl (pg_tys cs) (pg_w ad cs rp M) sz)) (va_Qv (fun _ : Unit => True) (rw_E D vwCl (pg_tys cs) (pg_w ad cs rp M) (pg_w ad cs rp (rset M (M 4 3, x, 0, 0))) sz) (va_A (pg_w ad cs rp M) sz)) 0 0 (va_A (pg_w ad cs rp M) sz) := by
  refine Met.ofW (cc := b_RU_beginStretch) (maxL := 2) (ret := none) (by decide) rfl ?_
  intro p e s m args below meth c s₁ B hml hv
  obtain ⟨rfl, hsz, hP, hK, hD0⟩ := hv
  have hx := B.exec
  have hb := B.bytes
  have hr := B.returns
  have hts := atoms_spec (ws := ws_RU_beginStretch) B.pre
  have hg : ∀ w ∈ gt, w.before _ s = true := fun w h => hts w (List.mem_cons_of_mem _ h)
  have hown : s.vm.findClass R_RU = some m.cls := findClass_of_methodNamed B.named
  have hlocks := B.notSynchronized
  subst hsz
  have hD := hD0.self (sz := s.heap.size)
  have hA : ∀ q : Nat, s.heap.size ≤ q → va_A (pg_w ad cs rp M) s.heap.size q := fun q h => Or.inr h
  have hS : va_S (va_A (pg_w ad cs rp M) s.heap.size) s.heap s.heap [] := va_S.rf
  have hl := lv_entry ([.ref (ad (4)), .int (iI (x))]) (n := 2) (Nat.le_of_ble_eq_true rfl)
  rw [lg_entry_eq]
  generalize (lg_sl ([.ref (ad (4)), .int (iI (x))]) ++ List.replicate (2 - (lg_sl ([.ref (ad (4)), .int (iI (x))])).length) Slot.unset).toArray = ls at hl ⊢
  have hl : lv_has ls 2 [(0, .ref (ad (4))), (1, .int (iI (x)))] := hl
  refine lv_aload_n hx hb d_RU_beginStretch_0 rfl (lv_at hl 0 rfl) ?_
  refine lv_iload_n hx hb d_RU_beginStretch_1 rfl (lv_at hl 1 rfl) ?_
  refine z_put (ci := 4) (C := R_RU) (T := T_RU) (N := 7) (v := .int (iI (x))) (ty := .int) (ce' := (pg_ce ad cs rp)) (r := va_up (M (4)) 4 (x)) hx hb hg in_RU ty_RU tk_RU nm_RU hown hK hP hD hS (4) (by decide) rfl rfl 4 (by decide) (hg _ (List.mem_append_right _ (List.mem_append_right _ (List.mem_append_right _ (List.mem_append_left _ (List.mem_of_getElem? (i := 33) rfl)))))) (fun _ h9 => h9) rfl (by decide +kernel) rfl rfl (Nat.le_of_ble_eq_true rfl) (fun _ _ => rfl) rfl d_RU_beginStretch_2 (fun H locs hP hD hS => ?_)
  obtain ⟨M_1, eM_1⟩ : ∃ q_, q_ = mset M (4) (4) (x) := ⟨_, rfl⟩
  have hP : va_P D vwCl (pg_w ad cs rp M_1) H := by rw [eM_1]; exact hP
  have hD : va_D (va_A (pg_w ad cs rp M) s.heap.size) (pg_w ad cs rp M_1) := by rw [eM_1]; exact hD
  refine lv_aload_n hx hb d_RU_beginStretch_5 rfl (lv_at hl 0 rfl) ?_
  refine z_iconst hx hb (z := 0) d_RU_beginStretch_6 ?_
  refine z_put (ci := 4) (C := R_RU) (T := T_RU) (N := 7) (v := .int (iI (0))) (ty := .int) (ce' := (pg_ce ad cs rp)) (r := va_up (M_1 (4)) 5 (0)) hx hb hg in_RU ty_RU tk_RU nm_RU hown hK hP hD hS (4) (by decide) rfl rfl 5 (by decide) (hg _ (List.mem_append_right _ (List.mem_append_right _ (List.mem_append_right _ (List.mem_append_left _ (List.mem_of_getElem? (i := 34) rfl)))))) (fun _ h9 => h9) rfl (by decide +kernel) rfl rfl (Nat.le_of_ble_eq_true rfl) (fun _ _ => rfl) rfl d_RU_beginStretch_7 (fun H locs hP hD hS => ?_)
  obtain ⟨M_2, eM_2⟩ : ∃ q_, q_ = mset M_1 (4) (5) (0) := ⟨_, rfl⟩
  have hP : va_P D vwCl (pg_w ad cs rp M_2) H := by rw [eM_2]; exact hP
  have hD : va_D (va_A (pg_w ad cs rp M) s.heap.size) (pg_w ad cs rp M_2) := by rw [eM_2]; exact hD
  refine lv_aload_n hx hb d_RU_beginStretch_10 rfl (lv_at hl 0 rfl) ?_
  refine z_iconst hx hb (z := 0) d_RU_beginStretch_11 ?_
  refine z_put (ci := 4) (C := R_RU) (T := T_RU) (N := 7) (v := .int (iI (0))) (ty := .int) (ce' := (pg_ce ad cs rp)) (r := va_up (M_2 (4)) 6 (0)) hx hb hg in_RU ty_RU tk_RU nm_RU hown hK hP hD hS (4) (by decide) rfl rfl 6 (by decide) (hg _ (List.mem_append_right _ (List.mem_append_right _ (List.mem_append_right _ (List.mem_append_left _ (List.mem_of_getElem? (i := 35) rfl)))))) (fun _ h9 => h9) rfl (by decide +kernel) rfl rfl (Nat.le_of_ble_eq_true rfl) (fun _ _ => rfl) rfl d_RU_beginStretch_12 (fun H locs hP hD hS => ?_)
  obtain ⟨M_3, eM_3⟩ : ∃ q_, q_ = mset M_2 (4) (6) (0) := ⟨_, rfl⟩
  have hP : va_P D vwCl (pg_w ad cs rp M_3) H := by rw [eM_3]; exact hP
  have hD : va_D (va_A (pg_w ad cs rp M) s.heap.size) (pg_w ad cs rp M_3) := by rw [eM_3]; exact hD
  have hM : M_3 = rset M (M 4 3, x, 0, 0) := by simp only [eM_3, eM_2, eM_1, m4_3, m4_4, m4_5, m4_6, rset_rset, rv3, rv4, rv5, rv6]
  rw [hM] at hP hD
  exact W.vret hx hb hr (fun t ht hW => ⟨⟨(), rfl, trivial, by rw [ht]; exact hP, va_K.moved hW.alike hK, hD⟩, hS.F ht⟩) hS.2.2 d_RU_beginStretch_15
set_option maxHeartbeats 4000000 in
set_option maxRecDepth 100000 in
/-- Ruler.begin -/
theorem c_begin (l : Launch) {D : va_G} {ad : Nat → Nat} {cs : pg_C} {rp : Option Nat} {M : Nat → Nat → Int} (sz : Nat) (i : Nat) (x : Int) (hi : i < 30) : Met l y_RU_begin ws_RU_begin ({ frames := 1, cells := 0, slots := 0, locals := 21 } : Room) (va_Pc [.ref (ad (4)), .ref (ad (29 + 4 * i)), .int (iI (x))] (rw_B D vwCl (pg_tys cs) (pg_w ad cs rp M) sz)) (va_Qv (fun _ : Unit => True) (rw_E D vwCl (pg_tys cs) (pg_w ad cs rp M) (pg_w ad cs (some i) (rset M (0, x, 0, 0))) sz) (va_A (pg_w ad cs rp M) sz)) 0 0 (va_A (pg_w ad cs rp M) sz) := by
  refine Met.ofW (cc := b_RU_begin) (maxL := 3) (ret := none) (by decide) rfl ?_
  intro p e s m args below meth c s₁ B hml hv
  obtain ⟨rfl, hsz, hP, hK, hD0⟩ := hv
  have hx := B.exec
  have hb := B.bytes
  have hr := B.returns
  have hts := atoms_spec (ws := ws_RU_begin) B.pre
  have hg : ∀ w ∈ gt, w.before _ s = true := fun w h => hts w (List.mem_cons_of_mem _ h)
  have hown : s.vm.findClass R_RU = some m.cls := findClass_of_methodNamed B.named
  have hlocks := B.notSynchronized
  subst hsz
  have hD := hD0.self (sz := s.heap.size)
  have hA : ∀ q : Nat, s.heap.size ≤ q → va_A (pg_w ad cs rp M) s.heap.size q := fun q h => Or.inr h
  have hS : va_S (va_A (pg_w ad cs rp M) s.heap.size) s.heap s.heap [] := va_S.rf
  have hl := lv_entry ([.ref (ad (4)), .ref (ad (29 + 4 * i)), .int (iI (x))]) (n := 3) (Nat.le_of_ble_eq_true rfl)
  rw [lg_entry_eq]
  generalize (lg_sl ([.ref (ad (4)), .ref (ad (29 + 4 * i)), .int (iI (x))]) ++ List.replicate (3 - (lg_sl ([.ref (ad (4)), .ref (ad (29 + 4 * i)), .int (iI (x))])).length) Slot.unset).toArray = ls at hl ⊢
  have hl : lv_has ls 3 [(0, .ref (ad (4))), (1, .ref (ad (29 + 4 * i))), (2, .int (iI (x)))] := hl
  refine lv_aload_n hx hb d_RU_begin_0 rfl (lv_at hl 0 rfl) ?_
  refine lv_aload_n hx hb d_RU_begin_1 rfl (lv_at hl 1 rfl) ?_
  refine z_put (ci := 4) (C := R_RU) (T := T_RU) (N := 7) (v := .ref (ad (29 + 4 * i))) (ty := .object "PageLayout$Paragraph") (ce' := (pg_ce ad cs (some i))) (r := M 4) hx hb hg in_RU ty_RU tk_RU nm_RU hown hK hP hD hS (4) (by decide) rfl rfl 2 (by decide) (hg _ (List.mem_append_right _ (List.mem_append_right _ (List.mem_append_right _ (List.mem_append_left _ (List.mem_of_getElem? (i := 31) rfl)))))) (fun _ h9 => h9) rfl (by decide +kernel) rfl rfl (Nat.le_of_ble_eq_true rfl) (pg_rp ad cs _ _) rfl d_RU_begin_2 (fun H locs hP hD hS => ?_)
  rw [up_same] at hP hD
  have hP : va_P D vwCl (pg_w ad cs (some i) M) H := hP
  have hD : va_D (va_A (pg_w ad cs rp M) s.heap.size) (pg_w ad cs (some i) M) := hD
  refine lv_aload_n hx hb d_RU_begin_5 rfl (lv_at hl 0 rfl) ?_
  refine z_iconst hx hb (z := 0) d_RU_begin_6 ?_
  refine z_put (ci := 4) (C := R_RU) (T := T_RU) (N := 7) (v := .int (iI (0))) (ty := .boolean) (ce' := (pg_ce ad cs (some i))) (r := va_up (M (4)) 3 (0)) hx hb hg in_RU ty_RU tk_RU nm_RU hown hK hP hD hS (4) (by decide) rfl rfl 3 (by decide) (hg _ (List.mem_append_right _ (List.mem_append_right _ (List.mem_append_right _ (List.mem_append_left _ (List.mem_of_getElem? (i := 32) rfl)))))) (fun _ h9 => h9) rfl (by decide +kernel) rfl rfl (Nat.le_of_ble_eq_true rfl) (fun _ _ => rfl) rfl d_RU_begin_7 (fun H locs hP hD hS => ?_)
  obtain ⟨M_1, eM_1⟩ : ∃ q_, q_ = mset M (4) (3) (0) := ⟨_, rfl⟩
  have hP : va_P D vwCl (pg_w ad cs (some i) M_1) H := by rw [eM_1]; exact hP
  have hD : va_D (va_A (pg_w ad cs rp M) s.heap.size) (pg_w ad cs (some i) M_1) := by rw [eM_1]; exact hD
  refine lv_aload_n hx hb d_RU_begin_10 rfl (lv_at hl 0 rfl) ?_
  refine lv_iload_n hx hb d_RU_begin_11 rfl (lv_at hl 2 rfl) ?_
  refine rw_Vv (As := [.int (iI (x))]) (rest := []) (w' := (pg_w ad cs (some i) (rset M_1 (M_1 4 3, x, 0, 0)))) ⟨hx, hb, hml, hown, hg⟩ (c_beginStretch l _ (x)) (cwV 1 hg (gt_V (List.mem_append_right _ (List.mem_append_right _ (List.mem_append_right _ (List.mem_append_right _ (List.mem_append_right _ (List.mem_append_right _ (List.mem_append_right _ (List.mem_append_left _ (List.mem_of_getElem? (i := 6) rfl))))))))) (List.mem_append_right _ (List.mem_append_right _ (List.mem_append_right _ (List.mem_append_right _ (List.mem_append_right _ (List.mem_append_right _ (List.mem_append_right _ (List.mem_append_left _ (List.mem_of_getElem? (i := 7) rfl))))))))) (List.mem_append_left _ (List.mem_of_getElem? (i := 11) rfl)) (List.mem_append_right _ (List.mem_append_left _ (List.mem_of_getElem? (i := 7) rfl))) (List.mem_append_right _ (List.mem_append_right _ (List.mem_append_right _ (List.mem_append_right _ (List.mem_append_right _ (List.mem_append_right _ (List.mem_append_right _ (List.mem_append_left _ (List.mem_of_getElem? (i := 8) rfl)))))))))) rfl rfl rfl (by decide +kernel) ⟨Nat.le_of_ble_eq_true rfl, Nat.le_of_ble_eq_true rfl⟩) hK hP hD hS hA (va_recv hK hP (ci := 4) (q0 := 4) rfl (wl_atE (by decide) rfl)) rfl hl.1 rfl (Nat.le_of_ble_eq_true rfl) d_RU_begin_12 ⟨Nat.zero_le _, Nat.zero_le _⟩ (fun H locs hP hD hS => ?_)
  obtain ⟨M_2, eM_2⟩ : ∃ q_, q_ = rset M_1 (M_1 4 3, x, 0, 0) := ⟨_, rfl⟩
  have hP : va_P D vwCl (pg_w ad cs (some i) M_2) H := by rw [eM_2]; exact hP
  have hD : va_D (va_A (pg_w ad cs rp M) s.heap.size) (pg_w ad cs (some i) M_2) := by rw [eM_2]; exact hD
  have hM : M_2 = rset M (0, x, 0, 0) := by simp only [eM_2, eM_1, m4_3, m4_4, m4_5, m4_6, rset_rset, rv3, rv4, rv5, rv6]
  rw [hM] at hP hD
  exact W.vret hx hb hr (fun t ht hW => ⟨⟨(), rfl, trivial, by rw [ht]; exact hP, va_K.moved hW.alike hK, hD⟩, hS.F ht⟩) hS.2.2 d_RU_begin_15
set_option maxHeartbeats 4000000 in
set_option maxRecDepth 100000 in
/-- Ruler.add -/
theorem c_add (l : Launch) {D : va_G} {ad : Nat → Nat} {cs : pg_C} {M : Nat → Nat → Int} (sz : Nat) (i n k : Nat) (hk : k < 600) (hp : wfP M i n) (ht : wfT M) (hr0 : wfR M) : Met l y_RU_add ws_RU_add ({ frames := 3, cells := 0, slots := 0, locals := 73 } : Room) (va_Pc [.ref (ad (4)), .int (iI (((k : Nat) : Int)))] (rw_B D vwCl (pg_tys cs) (pg_w ad cs (some i) M) sz)) (va_Qv (fun _ : Unit => True) (rw_E D vwCl (pg_tys cs) (pg_w ad cs (some i) M) (pg_w ad cs (some i) (rset M (p_add (M 7) (M 8) (p_tabs M i n) (p_rul M) k))) sz) (va_A (pg_w ad cs (some i) M) sz)) 0 0 (va_A (pg_w ad cs (some i) M) sz) := by
  refine Met.ofW (cc := b_RU_add) (maxL := 2) (ret := none) (by decide) rfl ?_
  intro p e s m args below meth c s₁ B hml hv
  obtain ⟨rfl, hsz, hP, hK, hD0⟩ := hv
  have hx := B.exec
  have hb := B.bytes
  have hr := B.returns
  have hts := atoms_spec (ws := ws_RU_add) B.pre
  have hg : ∀ w ∈ gt, w.before _ s = true := fun w h => hts w (List.mem_cons_of_mem _ h)
  have hown : s.vm.findClass R_RU = some m.cls := findClass_of_methodNamed B.named
  have hlocks := B.notSynchronized
  subst hsz
  have hD := hD0.self (sz := s.heap.size)
  have hA : ∀ q : Nat, s.heap.size ≤ q → va_A (pg_w ad cs (some i) M) s.heap.size q := fun q h => Or.inr h
  have hS : va_S (va_A (pg_w ad cs (some i) M) s.heap.size) s.heap s.heap [] := va_S.rf
  have hl := lv_entry ([.ref (ad (4)), .int (iI (((k : Nat) : Int)))]) (n := 2) (Nat.le_of_ble_eq_true rfl)
  rw [lg_entry_eq]
  generalize (lg_sl ([.ref (ad (4)), .int (iI (((k : Nat) : Int)))]) ++ List.replicate (2 - (lg_sl ([.ref (ad (4)), .int (iI (((k : Nat) : Int)))])).length) Slot.unset).toArray = ls at hl ⊢
  have hl : lv_has ls 2 [(0, .ref (ad (4))), (1, .int (iI (((k : Nat) : Int))))] := hl
  refine lv_aload_n hx hb d_RU_add_0 rfl (lv_at hl 0 rfl) ?_
  refine z_get (ci := 4) (C := R_RU) (T := T_RU) (N := 7) (v := .ref (ad (1))) hx hb hg in_RU hown hK hP (4) (by decide) rfl rfl 0 (by decide) (hg _ (List.mem_append_right _ (List.mem_append_right _ (List.mem_append_right _ (List.mem_append_left _ (List.mem_of_getElem? (i := 29) rfl)))))) (fun _ h9 => h9) rfl d_RU_add_1 ?_
  refine z_get (ci := 1) (C := R_TX) (T := T_TX) (N := 6) (v := .ref (ad (7))) hx hb hg in_TX hown hK hP (1) (by decide) rfl rfl 1 (by decide) (hg _ (List.mem_append_right _ (List.mem_append_right _ (List.mem_append_left _ (List.mem_of_getElem? (i := 21) rfl))))) (fun _ h9 => h9) rfl d_RU_add_4 ?_
  refine lv_iload_n hx hb d_RU_add_7 rfl (lv_at hl 1 rfl) ?_
  refine z_iald hx hb hK hP (7) 0 (by decide) (fun _ => rfl) rfl (k) rfl (by omega) (by decide) d_RU_add_8 ?_
  refine z_iconst hx hb (z := 2) d_RU_add_9 ?_
  refine z_icmp_ne hx hb (tgt := 31) d_RU_add_10 (by decide) (zb_7 ht _) ⟨by decide, by decide⟩ (fun c_10 => ?_) (fun c_10 => ?_)
  · refine lv_aload_n hx hb d_RU_add_31 rfl (lv_at hl 0 rfl) ?_
    refine lv_dup hx hb d_RU_add_32 rfl ?_
    refine z_get (ci := 4) (C := R_RU) (T := T_RU) (N := 7) (v := .int (iI (M (4) 5))) hx hb hg in_RU hown hK hP (4) (by decide) rfl rfl 5 (by decide) (hg _ (List.mem_append_right _ (List.mem_append_right _ (List.mem_append_right _ (List.mem_append_left _ (List.mem_of_getElem? (i := 34) rfl)))))) (fun _ h9 => h9) rfl d_RU_add_33 ?_
    refine lv_aload_n hx hb d_RU_add_36 rfl (lv_at hl 0 rfl) ?_
    refine z_get (ci := 4) (C := R_RU) (T := T_RU) (N := 7) (v := .ref (ad (1))) hx hb hg in_RU hown hK hP (4) (by decide) rfl rfl 0 (by decide) (hg _ (List.mem_append_right _ (List.mem_append_right _ (List.mem_append_right _ (List.mem_append_left _ (List.mem_of_getElem? (i := 29) rfl)))))) (fun _ h9 => h9) rfl d_RU_add_37 ?_
    refine lv_iload_n hx hb d_RU_add_40 rfl (lv_at hl 1 rfl) ?_
    refine z_iconst hx hb (z := 0) d_RU_add_41 ?_
    refine ro_V (As := [.int (iI (((k : Nat) : Int))), .int (iI (0))]) (rest := [.int (iI (M (4) 5)), .ref (ad (4))]) (z := p_wid (M 7) (M 8) k false) ⟨hx, hb, hml, hown, hg⟩ (c_widthWithin l k false (by omega) (zb_7 ht)) (cwV 2 hg (gt_V (List.mem_append_right _ (List.mem_append_right _ (List.mem_append_right _ (List.mem_append_right _ (List.mem_append_right _ (List.mem_append_right _ (List.mem_append_right _ (List.mem_append_left _ (List.mem_of_getElem? (i := 17) rfl))))))))) (List.mem_append_right _ (List.mem_append_right _ (List.mem_append_right _ (List.mem_append_right _ (List.mem_append_right _ (List.mem_append_right _ (List.mem_append_left _ (List.mem_of_getElem? (i := 8) rfl)))))))) (List.mem_append_right _ (List.mem_append_right _ (List.mem_append_right _ (List.mem_append_right _ (List.mem_append_right _ (List.mem_append_right _ (List.mem_append_left _ (List.mem_of_getElem? (i := 9) rfl)))))))) (List.mem_append_right _ (List.mem_append_left _ (List.mem_of_getElem? (i := 3) rfl))) (List.mem_append_right _ (List.mem_append_right _ (List.mem_append_right _ (List.mem_append_right _ (List.mem_append_right _ (List.mem_append_right _ (List.mem_append_left _ (List.mem_of_getElem? (i := 10) rfl))))))))) rfl rfl rfl (by decide +kernel) ⟨Nat.le_of_ble_eq_true rfl, Nat.le_of_ble_eq_true rfl⟩) hK hP (va_recv hK hP (ci := 1) (q0 := 1) rfl (wl_atE (by decide) rfl)) rfl hl.1 rfl (Nat.le_of_ble_eq_true rfl) d_RU_add_42 ⟨Nat.zero_le _, Nat.zero_le _⟩ ?_
    refine z_iadd hx hb d_RU_add_45 (v := (M (4) 5 + p_wid (M 7) (M 8) k false)) rfl ?_
    refine z_put (ci := 4) (C := R_RU) (T := T_RU) (N := 7) (v := .int (iI ((M (4) 5 + p_wid (M 7) (M 8) k false)))) (ty := .int) (ce' := (pg_ce ad cs (some i))) (r := va_up (M (4)) 5 ((M (4) 5 + p_wid (M 7) (M 8) k false))) hx hb hg in_RU ty_RU tk_RU nm_RU hown hK hP hD hS (4) (by decide) rfl rfl 5 (by decide) (hg _ (List.mem_append_right _ (List.mem_append_right _ (List.mem_append_right _ (List.mem_append_left _ (List.mem_of_getElem? (i := 34) rfl)))))) (fun _ h9 => h9) rfl (by decide +kernel) rfl rfl (Nat.le_of_ble_eq_true rfl) (fun _ _ => rfl) rfl d_RU_add_46 (fun H locs hP hD hS => ?_)
    obtain ⟨M_1, eM_1⟩ : ∃ q_, q_ = mset M (4) (5) ((M (4) 5 + p_wid (M 7) (M 8) k false)) := ⟨_, rfl⟩
    have hP : va_P D vwCl (pg_w ad cs (some i) M_1) H := by rw [eM_1]; exact hP
    have hD : va_D (va_A (pg_w ad cs (some i) M) s.heap.size) (pg_w ad cs (some i) M_1) := by rw [eM_1]; exact hD
    have e7 : M_1 7 = M 7 := by rw [eM_1]; exact va_up_ne _ _ (by omega)
    have ht9 : wfT M_1 := by rw [eM_1]; unfold wfT mset at *; rw [va_up_ne _ _ (by omega), va_up_ne _ _ (by omega), va_up_ne _ _ (by omega), va_up_ne _ _ (by omega)]; exact ht
    refine lv_aload_n hx hb d_RU_add_49 rfl (lv_at hl 0 rfl) ?_
    refine z_get (ci := 4) (C := R_RU) (T := T_RU) (N := 7) (v := .ref (ad (1))) hx hb hg in_RU hown hK hP (4) (by decide) rfl rfl 0 (by decide) (hg _ (List.mem_append_right _ (List.mem_append_right _ (List.mem_append_right _ (List.mem_append_left _ (List.mem_of_getElem? (i := 29) rfl)))))) (fun _ h9 => h9) rfl d_RU_add_50 ?_
    refine z_get (ci := 1) (C := R_TX) (T := T_TX) (N := 6) (v := .ref (ad (7))) hx hb hg in_TX hown hK hP (1) (by decide) rfl rfl 1 (by decide) (hg _ (List.mem_append_right _ (List.mem_append_right _ (List.mem_append_left _ (List.mem_of_getElem? (i := 21) rfl))))) (fun _ h9 => h9) rfl d_RU_add_53 ?_
    refine lv_iload_n hx hb d_RU_add_56 rfl (lv_at hl 1 rfl) ?_
    refine z_iald hx hb hK hP (7) 0 (by decide) (fun _ => rfl) rfl (k) rfl (by omega) (by decide) d_RU_add_57 ?_
    refine z_iconst hx hb (z := 1) d_RU_add_58 ?_
    refine z_icmp_eq hx hb (tgt := 81) d_RU_add_59 (by decide) (zb_7 ht9 _) ⟨by decide, by decide⟩ (fun c_59 => ?_) (fun c_59 => ?_)
    · have hM : M_1 = rset M (p_add (M 7) (M 8) (p_tabs M i n) (p_rul M) k) := by rw [e7] at c_59; unfold p_add; rw [if_neg (by omega)]; (first | rw [if_pos (by omega)] | rw [if_neg (by omega)]); simp only [eM_1, m4_3, m4_4, m4_5, m4_6, rset_rset, rv3, rv4, rv5, rv6, p_rul]
      rw [hM] at hP hD
      exact W.vret hx hb hr (fun t ht hW => ⟨⟨(), rfl, trivial, by rw [ht]; exact hP, va_K.moved hW.alike hK, hD⟩, hS.F ht⟩) hS.2.2 d_RU_add_81
    · refine lv_aload_n hx hb d_RU_add_62 rfl (lv_at hl 0 rfl) ?_
      refine z_get (ci := 4) (C := R_RU) (T := T_RU) (N := 7) (v := .ref (ad (1))) hx hb hg in_RU hown hK hP (4) (by decide) rfl rfl 0 (by decide) (hg _ (List.mem_append_right _ (List.mem_append_right _ (List.mem_append_right _ (List.mem_append_left _ (List.mem_of_getElem? (i := 29) rfl)))))) (fun _ h9 => h9) rfl d_RU_add_63 ?_
      refine lv_iload_n hx hb d_RU_add_66 rfl (lv_at hl 1 rfl) ?_
      refine ro_V (As := [.int (iI (((k : Nat) : Int)))]) (rest := []) (z := bz (p_endl (M_1 7) k) inferInstance) ⟨hx, hb, hml, hown, hg⟩ (c_endsLine (M := M_1) l k (by omega) (zb_7 ht9)) (cwV 1 hg (gt_V (List.mem_append_right _ (List.mem_append_right _ (List.mem_append_right _ (List.mem_append_right _ (List.mem_append_right _ (List.mem_append_right _ (List.mem_append_right _ (List.mem_append_left _ (List.mem_of_getElem? (i := 18) rfl))))))))) (List.mem_append_right _ (List.mem_append_right _ (List.mem_append_right _ (List.mem_append_right _ (List.mem_append_right _ (List.mem_append_left _ (List.mem_of_getElem? (i := 38) rfl))))))) (List.mem_append_right _ (List.mem_append_right _ (List.mem_append_right _ (List.mem_append_right _ (List.mem_append_right _ (List.mem_append_left _ (List.mem_of_getElem? (i := 39) rfl))))))) (List.mem_append_right _ (List.mem_append_left _ (List.mem_of_getElem? (i := 3) rfl))) (List.mem_append_right _ (List.mem_append_right _ (List.mem_append_right _ (List.mem_append_right _ (List.mem_append_right _ (List.mem_append_right _ (List.mem_append_left _ (List.mem_of_getElem? (i := 0) rfl))))))))) rfl rfl rfl (by decide +kernel) ⟨Nat.le_of_ble_eq_true rfl, Nat.le_of_ble_eq_true rfl⟩) hK hP (va_recv hK hP (ci := 1) (q0 := 1) rfl (wl_atE (by decide) rfl)) rfl hl.1 rfl (Nat.le_of_ble_eq_true rfl) d_RU_add_67 ⟨Nat.zero_le _, Nat.zero_le _⟩ ?_
      refine z_ifb_ne hx hb (tgt := 81) d_RU_add_70 (by decide) (fun c_70 => ?_) (fun c_70 => ?_)
      · have hM : M_1 = rset M (p_add (M 7) (M 8) (p_tabs M i n) (p_rul M) k) := by rw [e7] at c_59; rw [e7] at c_70; unfold p_add; rw [if_neg (by omega)]; (first | rw [if_pos (by omega)] | rw [if_neg (by omega)]); simp only [eM_1, m4_3, m4_4, m4_5, m4_6, rset_rset, rv3, rv4, rv5, rv6, p_rul]
        rw [hM] at hP hD
        exact W.vret hx hb hr (fun t ht hW => ⟨⟨(), rfl, trivial, by rw [ht]; exact hP, va_K.moved hW.alike hK, hD⟩, hS.F ht⟩) hS.2.2 d_RU_add_81
      · refine lv_aload_n hx hb d_RU_add_73 rfl (lv_at hl 0 rfl) ?_
        refine lv_aload_n hx hb d_RU_add_74 rfl (lv_at hl 0 rfl) ?_
        refine z_get (ci := 4) (C := R_RU) (T := T_RU) (N := 7) (v := .int (iI (M_1 (4) 5))) hx hb hg in_RU hown hK hP (4) (by decide) rfl rfl 5 (by decide) (hg _ (List.mem_append_right _ (List.mem_append_right _ (List.mem_append_right _ (List.mem_append_left _ (List.mem_of_getElem? (i := 34) rfl)))))) (fun _ h9 => h9) rfl d_RU_add_75 ?_
        refine z_put (ci := 4) (C := R_RU) (T := T_RU) (N := 7) (v := .int (iI (M_1 (4) 5))) (ty := .int) (ce' := (pg_ce ad cs (some i))) (r := va_up (M_1 (4)) 6 (M_1 (4) 5)) hx hb hg in_RU ty_RU tk_RU nm_RU hown hK hP hD hS (4) (by decide) rfl rfl 6 (by decide) (hg _ (List.mem_append_right _ (List.mem_append_right _ (List.mem_append_right _ (List.mem_append_left _ (List.mem_of_getElem? (i := 35) rfl)))))) (fun _ h9 => h9) rfl (by decide +kernel) rfl rfl (Nat.le_of_ble_eq_true rfl) (fun _ _ => rfl) rfl d_RU_add_78 (fun H locs hP hD hS => ?_)
        obtain ⟨M_2, eM_2⟩ : ∃ q_, q_ = mset M_1 (4) (6) (M_1 (4) 5) := ⟨_, rfl⟩
        have hP : va_P D vwCl (pg_w ad cs (some i) M_2) H := by rw [eM_2]; exact hP
        have hD : va_D (va_A (pg_w ad cs (some i) M) s.heap.size) (pg_w ad cs (some i) M_2) := by rw [eM_2]; exact hD
        have hM : M_2 = rset M (p_add (M 7) (M 8) (p_tabs M i n) (p_rul M) k) := by rw [e7] at c_59; rw [e7] at c_70; unfold p_add; rw [if_neg (by omega)]; (first | rw [if_pos (by omega)] | rw [if_neg (by omega)]); simp only [eM_2, eM_1, m4_3, m4_4, m4_5, m4_6, rset_rset, rv3, rv4, rv5, rv6, p_rul]
        rw [hM] at hP hD
        exact W.vret hx hb hr (fun t ht hW => ⟨⟨(), rfl, trivial, by rw [ht]; exact hP, va_K.moved hW.alike hK, hD⟩, hS.F ht⟩) hS.2.2 d_RU_add_81
  · refine lv_aload_n hx hb d_RU_add_13 rfl (lv_at hl 0 rfl) ?_
    refine lv_aload_n hx hb d_RU_add_14 rfl (lv_at hl 0 rfl) ?_
    refine lv_aload_n hx hb d_RU_add_15 rfl (lv_at hl 0 rfl) ?_
    refine z_get (ci := 4) (C := R_RU) (T := T_RU) (N := 7) (v := .int (iI (M (4) 5))) hx hb hg in_RU hown hK hP (4) (by decide) rfl rfl 5 (by decide) (hg _ (List.mem_append_right _ (List.mem_append_right _ (List.mem_append_right _ (List.mem_append_left _ (List.mem_of_getElem? (i := 34) rfl)))))) (fun _ h9 => h9) rfl d_RU_add_16 ?_
    refine ro_V (As := [.int (iI (M (4) 5))]) (rest := [.ref (ad (4))]) (z := p_ew (p_tabs M i n) (p_rul M) (M 4 5)) ⟨hx, hb, hml, hown, hg⟩ (c_endWith l i n (M 4 5) hp ht hr0 (by have := hr0.2.2.1; omega)) (cwV 1 hg (gt_V (List.mem_append_right _ (List.mem_append_right _ (List.mem_append_right _ (List.mem_append_right _ (List.mem_append_right _ (List.mem_append_right _ (List.mem_append_right _ (List.mem_append_left _ (List.mem_of_getElem? (i := 13) rfl))))))))) (List.mem_append_right _ (List.mem_append_right _ (List.mem_append_right _ (List.mem_append_right _ (List.mem_append_right _ (List.mem_append_right _ (List.mem_append_right _ (List.mem_append_left _ (List.mem_of_getElem? (i := 14) rfl))))))))) (List.mem_append_left _ (List.mem_of_getElem? (i := 12) rfl)) (List.mem_append_right _ (List.mem_append_left _ (List.mem_of_getElem? (i := 7) rfl))) (List.mem_append_right _ (List.mem_append_right _ (List.mem_append_right _ (List.mem_append_right _ (List.mem_append_right _ (List.mem_append_right _ (List.mem_append_right _ (List.mem_append_left _ (List.mem_of_getElem? (i := 15) rfl)))))))))) rfl rfl rfl (by decide +kernel) ⟨Nat.le_of_ble_eq_true rfl, Nat.le_of_ble_eq_true rfl⟩) hK hP (va_recv hK hP (ci := 4) (q0 := 4) rfl (wl_atE (by decide) rfl)) rfl hl.1 rfl (Nat.le_of_ble_eq_true rfl) d_RU_add_19 ⟨Nat.zero_le _, Nat.zero_le _⟩ ?_
    refine rw_Vv (As := [.int (iI (p_ew (p_tabs M i n) (p_rul M) (M 4 5)))]) (rest := []) (w' := (pg_w ad cs (some i) (rset M (M 4 3, p_ew (p_tabs M i n) (p_rul M) (M 4 5), 0, 0)))) ⟨hx, hb, hml, hown, hg⟩ (c_beginStretch l _ (p_ew (p_tabs M i n) (p_rul M) (M 4 5))) (cwV 1 hg (gt_V (List.mem_append_right _ (List.mem_append_right _ (List.mem_append_right _ (List.mem_append_right _ (List.mem_append_right _ (List.mem_append_right _ (List.mem_append_right _ (List.mem_append_left _ (List.mem_of_getElem? (i := 6) rfl))))))))) (List.mem_append_right _ (List.mem_append_right _ (List.mem_append_right _ (List.mem_append_right _ (List.mem_append_right _ (List.mem_append_right _ (List.mem_append_right _ (List.mem_append_left _ (List.mem_of_getElem? (i := 7) rfl))))))))) (List.mem_append_left _ (List.mem_of_getElem? (i := 11) rfl)) (List.mem_append_right _ (List.mem_append_left _ (List.mem_of_getElem? (i := 7) rfl))) (List.mem_append_right _ (List.mem_append_right _ (List.mem_append_right _ (List.mem_append_right _ (List.mem_append_right _ (List.mem_append_right _ (List.mem_append_right _ (List.mem_append_left _ (List.mem_of_getElem? (i := 8) rfl)))))))))) rfl rfl rfl (by decide +kernel) ⟨Nat.le_of_ble_eq_true rfl, Nat.le_of_ble_eq_true rfl⟩) hK hP hD hS hA (va_recv hK hP (ci := 4) (q0 := 4) rfl (wl_atE (by decide) rfl)) rfl hl.1 rfl (Nat.le_of_ble_eq_true rfl) d_RU_add_22 ⟨Nat.zero_le _, Nat.zero_le _⟩ (fun H locs hP hD hS => ?_)
    obtain ⟨M_3, eM_3⟩ : ∃ q_, q_ = rset M (M 4 3, p_ew (p_tabs M i n) (p_rul M) (M 4 5), 0, 0) := ⟨_, rfl⟩
    have hP : va_P D vwCl (pg_w ad cs (some i) M_3) H := by rw [eM_3]; exact hP
    have hD : va_D (va_A (pg_w ad cs (some i) M) s.heap.size) (pg_w ad cs (some i) M_3) := by rw [eM_3]; exact hD
    refine lv_aload_n hx hb d_RU_add_25 rfl (lv_at hl 0 rfl) ?_
    refine z_iconst hx hb (z := 1) d_RU_add_26 ?_
    refine z_put (ci := 4) (C := R_RU) (T := T_RU) (N := 7) (v := .int (iI (1))) (ty := .boolean) (ce' := (pg_ce ad cs (some i))) (r := va_up (M_3 (4)) 3 (1)) hx hb hg in_RU ty_RU tk_RU nm_RU hown hK hP hD hS (4) (by decide) rfl rfl 3 (by decide) (hg _ (List.mem_append_right _ (List.mem_append_right _ (List.mem_append_right _ (List.mem_append_left _ (List.mem_of_getElem? (i := 32) rfl)))))) (fun _ h9 => h9) rfl (by decide +kernel) rfl rfl (Nat.le_of_ble_eq_true rfl) (fun _ _ => rfl) rfl d_RU_add_27 (fun H locs hP hD hS => ?_)
    obtain ⟨M_4, eM_4⟩ : ∃ q_, q_ = mset M_3 (4) (3) (1) := ⟨_, rfl⟩
    have hP : va_P D vwCl (pg_w ad cs (some i) M_4) H := by rw [eM_4]; exact hP
    have hD : va_D (va_A (pg_w ad cs (some i) M) s.heap.size) (pg_w ad cs (some i) M_4) := by rw [eM_4]; exact hD
    have hM : M_4 = rset M (p_add (M 7) (M 8) (p_tabs M i n) (p_rul M) k) := by unfold p_add; rw [if_pos (by omega)]; simp only [eM_4, eM_3, m4_3, m4_4, m4_5, m4_6, rset_rset, rv3, rv4, rv5, rv6, p_rul]
    rw [hM] at hP hD
    exact W.vret hx hb hr (fun t ht hW => ⟨⟨(), rfl, trivial, by rw [ht]; exact hP, va_K.moved hW.alike hK, hD⟩, hS.F ht⟩) hS.2.2 d_RU_add_30
