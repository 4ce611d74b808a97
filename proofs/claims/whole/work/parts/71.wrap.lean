/-! The law's wrappers, one theorem an outcome. My own. -/
theorem lw_Dl {A : Nat → Prop} {w1 w2 : va_W} {sz : Nat} (h : va_D A w1) : va_D (va_A (w1 ++ w2) sz) w1 := ⟨h.1, fun k q hk => Or.inl ⟨k, q.2, by rw [List.getElem?_append_left (List.getElem?_eq_some_iff.mp hk).1]; exact hk⟩⟩
theorem lw_Dr {A : Nat → Prop} {w1 w2 : va_W} {sz : Nat} (h : va_D A w2) : va_D (va_A (w1 ++ w2) sz) w2 := ⟨h.1, fun k q hk => Or.inl ⟨w1.length + k, q.2, by rw [List.getElem?_append_right (by omega), Nat.add_sub_cancel_left]; exact hk⟩⟩
theorem lw_Do {cJ : ClassId} {ao sz : Nat} {f g : Nat → Int64} (h : va_D (va_A (wo cJ ao f) sz) (wo cJ ao f)) : va_D (va_A (wo cJ ao f) sz) (wo cJ ao g) := by
  refine ⟨fun i j p q hi hj _ => ?_, fun k q hk => ?_⟩
  · have h1 := (List.getElem?_eq_some_iff.mp hi).1
    have h2 := (List.getElem?_eq_some_iff.mp hj).1
    simp [wo] at h1 h2
    omega
  · rw [wo_0 hk]
    exact Or.inl ⟨0, _, rfl⟩
theorem pg_at0 {ad : Nat → Nat} {cs : pg_C} {rp : Option Nat} {M : Nat → Nat → Int} {k : Nat} {q : Nat × va_E} (h : (pg_w ad cs rp M)[k]? = some q) : k < 149 ∧ q.1 = ad k := by
  have hk : k < 149 := by
    have := (List.getElem?_eq_some_iff.mp h).1
    unfold pg_w at this
    rwa [wl_len] at this
  unfold pg_w at h
  rw [wl_at hk] at h
  cases h
  exact ⟨hk, rfl⟩
theorem pg_dj {ad : Nat → Nat} {cs : pg_C} {rp rp' : Option Nat} {M M' : Nat → Nat → Int} {w2 : va_W} (h : dj (pg_w ad cs rp M) w2) : dj (pg_w ad cs rp' M') w2 := fun i j p q h1 h2 e => by
  obtain ⟨hk, hp⟩ := pg_at0 h1
  exact h i j _ q (wl_at hk) h2 (hp ▸ e)
theorem z_tab {T : List ExceptionTableEntry} {hs : List (Nat × Nat × Nat × Nat)} (h : T.map (fun h => (h.startPc, h.endPc, h.handlerPc, h.catchType)) = hs) : T = hs.map (fun q => { startPc := q.1, endPc := q.2.1, handlerPc := q.2.2.1, catchType := q.2.2.2 }) := by
  subst h
  rw [List.map_map]
  exact (List.map_id _).symm
theorem lw_more {w : Cond} (h : w ∈ z_more) : w ∈ tx0 := List.mem_append_right _ (List.mem_append_right _ (List.mem_append_right _ h))
def h_LW_paragraph : List (Nat × Nat × Nat × Nat) := [(0, 8, 11, 13)]
theorem cw_paragraph : Cond.codeWith y_LW_paragraph b_LW_paragraph 3 (some .int) h_LW_paragraph ∈ lw_tbl := List.mem_of_getElem? (i := 429) (by decide +kernel)
theorem cwk_paragraph : ((Cond.codeWith y_LW_paragraph b_LW_paragraph 3 (some .int) h_LW_paragraph).onTables && (Cond.codeWith y_LW_paragraph b_LW_paragraph 3 (some .int) h_LW_paragraph).keeps) = true := by decide +kernel
def h_LW_sign : List (Nat × Nat × Nat × Nat) := [(0, 12, 15, 19), (0, 12, 19, 21), (0, 12, 23, 13)]
theorem cw_sign : Cond.codeWith y_LW_sign b_LW_sign 6 (some .int) h_LW_sign ∈ lw_tbl := List.mem_of_getElem? (i := 516) (by decide +kernel)
theorem cwk_sign : ((Cond.codeWith y_LW_sign b_LW_sign 6 (some .int) h_LW_sign).onTables && (Cond.codeWith y_LW_sign b_LW_sign 6 (some .int) h_LW_sign).keeps) = true := by decide +kernel
def h_LW_shape : List (Nat × Nat × Nat × Nat) := [(0, 7, 10, 19), (0, 7, 14, 21)]
theorem cw_shape : Cond.codeWith y_LW_shape b_LW_shape 5 (some .int) h_LW_shape ∈ lw_tbl := List.mem_of_getElem? (i := 565) (by decide +kernel)
theorem cwk_shape : ((Cond.codeWith y_LW_shape b_LW_shape 5 (some .int) h_LW_shape).onTables && (Cond.codeWith y_LW_shape b_LW_shape 5 (some .int) h_LW_shape).keeps) = true := by decide +kernel
def h_LW_stop : List (Nat × Nat × Nat × Nat) := [(0, 12, 15, 19), (0, 12, 19, 21), (0, 12, 23, 13)]
theorem cw_stop : Cond.codeWith y_LW_stop b_LW_stop 6 (some .int) h_LW_stop ∈ lw_tbl := List.mem_of_getElem? (i := 578) (by decide +kernel)
theorem cwk_stop : ((Cond.codeWith y_LW_stop b_LW_stop 6 (some .int) h_LW_stop).onTables && (Cond.codeWith y_LW_stop b_LW_stop 6 (some .int) h_LW_stop).keeps) = true := by decide +kernel
def h_LW_sheet : List (Nat × Nat × Nat × Nat) := [(0, 7, 10, 21)]
theorem cw_sheet : Cond.codeWith y_LW_sheet b_LW_sheet 5 (some .int) h_LW_sheet ∈ lw_tbl := List.mem_of_getElem? (i := 592) (by decide +kernel)
theorem cwk_sheet : ((Cond.codeWith y_LW_sheet b_LW_sheet 5 (some .int) h_LW_sheet).onTables && (Cond.codeWith y_LW_sheet b_LW_sheet 5 (some .int) h_LW_sheet).keeps) = true := by decide +kernel
def h_LW_line : List (Nat × Nat × Nat × Nat) := [(0, 10, 13, 19), (0, 10, 17, 21)]
theorem cw_line : Cond.codeWith y_LW_line b_LW_line 5 (some .int) h_LW_line ∈ lw_tbl := List.mem_of_getElem? (i := 600) (by decide +kernel)
theorem cwk_line : ((Cond.codeWith y_LW_line b_LW_line 5 (some .int) h_LW_line).onTables && (Cond.codeWith y_LW_line b_LW_line 5 (some .int) h_LW_line).keeps) = true := by decide +kernel
def h_LW_where : List (Nat × Nat × Nat × Nat) := [(0, 10, 13, 19), (0, 10, 17, 21)]
theorem cw_where : Cond.codeWith y_LW_where b_LW_where 5 (some .int) h_LW_where ∈ lw_tbl := List.mem_of_getElem? (i := 609) (by decide +kernel)
theorem cwk_where : ((Cond.codeWith y_LW_where b_LW_where 5 (some .int) h_LW_where).onTables && (Cond.codeWith y_LW_where b_LW_where 5 (some .int) h_LW_where).keeps) = true := by decide +kernel
def h_LW_page : List (Nat × Nat × Nat × Nat) := [(0, 10, 13, 19), (0, 10, 17, 21)]
theorem cw_page : Cond.codeWith y_LW_page b_LW_page 5 (some .int) h_LW_page ∈ lw_tbl := List.mem_of_getElem? (i := 617) (by decide +kernel)
theorem cwk_page : ((Cond.codeWith y_LW_page b_LW_page 5 (some .int) h_LW_page).onTables && (Cond.codeWith y_LW_page b_LW_page 5 (some .int) h_LW_page).keeps) = true := by decide +kernel
def h_LW_hit : List (Nat × Nat × Nat × Nat) := [(0, 12, 15, 19)]
theorem cw_hit : Cond.codeWith y_LW_hit b_LW_hit 6 (some .int) h_LW_hit ∈ lw_tbl := List.mem_of_getElem? (i := 625) (by decide +kernel)
theorem cwk_hit : ((Cond.codeWith y_LW_hit b_LW_hit 6 (some .int) h_LW_hit).onTables && (Cond.codeWith y_LW_hit b_LW_hit 6 (some .int) h_LW_hit).keeps) = true := by decide +kernel
set_option maxHeartbeats 4000000 in
set_option maxRecDepth 100000 in
theorem w_paragraph_0 (l : Launch) (hfl : l.flags = flags0) {D : va_G} {ad : Nat → Nat} {cs : pg_C} {rp : Option Nat} {M : Nat → Nat → Int} {cJ : ClassId} {ao : Nat} {f : Nat → Int64} (sz : Nat) (np : Nat) (hnp : M 1 4 = ((np : Nat) : Int)) (hn : np < 30) : Met l y_LW_paragraph (.codeWith y_LW_paragraph b_LW_paragraph 3 (some .int) h_LW_paragraph :: gx) ({ frames := 7, cells := 1, slots := 6, locals := 110 } : Room) (va_Pc [.ref (ad (0)), .ref ao] (lp_B D vwCl (pg_tys cs) (pg_w ad cs rp M) (wo cJ ao f) cJ sz)) (va_Qi (fun (r : Int32) (_ : Unit) => r = iI 0) (lp_E D vwCl (pg_w ad cs rp M) (wo cJ ao f) (pg_w ad cs rp (q_apar (q_fg M) np)) (wo cJ ao (fun _ => (iI (((np : Nat) : Int))).toInt64)) sz) (va_A ((pg_w ad cs rp M) ++ (wo cJ ao f)) sz)) 1 6 (va_A ((pg_w ad cs rp M) ++ (wo cJ ao f)) sz) := by
  refine va_MetW (cc := b_LW_paragraph) (maxL := 3) (ret := (some .int)) (hh := h_LW_paragraph) (by decide) rfl ?_
  intro p e s m args below meth c s₁ B hml hv
  obtain ⟨rfl, ⟨⟨hsz, hP, hK, hD0⟩, hT⟩, hP2, hKJ, hdj, hD20⟩ := hv
  have hx := B.exec
  have hb := B.bytes
  have hr := B.returns
  have hts := atoms_spec (ws := (.codeWith y_LW_paragraph b_LW_paragraph 3 (some .int) h_LW_paragraph :: gx)) B.pre
  have hgx : ∀ w ∈ gx, w.before _ s = true := fun w h => hts w (List.mem_cons_of_mem _ h)
  have hg : ∀ w ∈ gt, w.before _ s = true := fun w h => hgx w (gx_gt h)
  have htx : ∀ w ∈ tx, w.before _ s = true := fun w h => hgx w (List.mem_append_right _ h)
  have hown : s.vm.findClass R_LW = some m.cls := findClass_of_methodNamed B.named
  have hlocks := B.notSynchronized
  subst hsz
  have hA : ∀ q : Nat, s.heap.size ≤ q → va_A ((pg_w ad cs rp M) ++ (wo cJ ao f)) s.heap.size q := fun q h => Or.inr h
  have hD : va_D (va_A ((pg_w ad cs rp M) ++ (wo cJ ao f)) s.heap.size) (pg_w ad cs rp M) := lw_Dl hD0
  have hD2 : va_D (va_A ((pg_w ad cs rp M) ++ (wo cJ ao f)) s.heap.size) (wo cJ ao f) := lw_Dr hD20
  have hDs : va_D (va_A (pg_w ad cs rp M) s.heap.size) (pg_w ad cs rp M) := hD0.self
  have hD2s : va_D (va_A (wo cJ ao f) s.heap.size) (wo cJ ao f) := hD20.self
  have hS : va_S (va_A ((pg_w ad cs rp M) ++ (wo cJ ao f)) s.heap.size) s.heap s.heap [] := va_S.rf
  have hl := lv_entry ([.ref (ad (0)), .ref ao]) (n := 3) (Nat.le_of_ble_eq_true rfl)
  rw [lg_entry_eq]
  generalize (lg_sl ([.ref (ad (0)), .ref ao]) ++ List.replicate (3 - (lg_sl ([.ref (ad (0)), .ref ao])).length) Slot.unset).toArray = ls at hl ⊢
  have hl : lv_has ls 3 [(0, .ref (ad (0))), (1, .ref ao)] := hl
  refine lv_aload_n hx hb d_LW_paragraph_0 rfl (lv_at hl 1 rfl) ?_
  refine z_iconst hx hb (z := 0) d_LW_paragraph_1 ?_
  refine lv_aload_n hx hb d_LW_paragraph_2 rfl (lv_at hl 0 rfl) ?_
  refine lw_Vi (As := []) (rest := [.int (iI (0)), .ref ao]) (w' := pg_w ad cs rp (q_apar (q_fg M) np)) (z := ((np : Nat) : Int)) ⟨hx, hb, hml, hown, hg⟩ (c_paragraph l _ np hnp hn) (cwV 0 hg (gt_V (List.mem_append_right _ (List.mem_append_right _ (List.mem_append_right _ (List.mem_append_right _ (List.mem_append_right _ (List.mem_append_right _ (List.mem_append_right _ (List.mem_append_right _ (List.mem_append_left _ (List.mem_of_getElem? (i := 39) rfl)))))))))) (List.mem_append_right _ (List.mem_append_right _ (List.mem_append_right _ (List.mem_append_right _ (List.mem_append_right _ (List.mem_append_right _ (List.mem_append_right _ (List.mem_append_right _ (List.mem_append_right _ (List.mem_append_left _ (List.mem_of_getElem? (i := 0) rfl))))))))))) (List.mem_append_right _ (List.mem_append_right _ (List.mem_append_right _ (List.mem_append_right _ (List.mem_append_right _ (List.mem_append_right _ (List.mem_append_right _ (List.mem_append_right _ (List.mem_append_right _ (List.mem_append_left _ (List.mem_of_getElem? (i := 1) rfl))))))))))) (List.mem_append_right _ (List.mem_append_left _ (List.mem_of_getElem? (i := 2) rfl))) (List.mem_append_right _ (List.mem_append_right _ (List.mem_append_right _ (List.mem_append_right _ (List.mem_append_right _ (List.mem_append_right _ (List.mem_append_right _ (List.mem_append_right _ (List.mem_append_right _ (List.mem_append_left _ (List.mem_of_getElem? (i := 2) rfl)))))))))))) rfl rfl rfl (by decide +kernel) ⟨Nat.le_of_ble_eq_true rfl, Nat.le_of_ble_eq_true rfl⟩) rw_blind (fun U hU hW => ⟨by rw [hU], by rw [hU]; exact hP, va_K.moved hW.alike hK, hD.weaken (fun _ _ _ _ => trivial)⟩) hD hS hA (va_recv hK hP (ci := 0) (q0 := 0) rfl (wl_atE (by decide) rfl)) rfl hl.1 rfl (Nat.le_of_ble_eq_true rfl) d_LW_paragraph_3 ⟨Nat.zero_le _, Nat.zero_le _⟩ (fun H1 locs1 hPn hDn hDq hSn hk => ?_)
  have hP2n := z_keep hP2 hdj hk
  refine lv_i2l hx hb d_LW_paragraph_6 rfl ?_
  refine lw_last (v := (iI (((np : Nat) : Int))).toInt64) hx hb hKJ hPn hP2n hDn hD2 (pg_dj hdj) hSn d_LW_paragraph_7 (fun H2 locs2 hPn hP2n hSn => ?_)
  refine lv_goto (tgt := 14) hx hb d_LW_paragraph_8 (by decide) ?_
  refine z_iconst hx hb (z := 0) d_LW_paragraph_14 ?_
  refine W.widen (k := 1) (n := 6) (by decide) (by decide) ?_
  exact W.iret (v := iI 0) hx hb hr (fun t ht hW => ⟨⟨_, (), rfl, rfl, by rw [ht]; exact hPn, by rw [ht]; exact hP2n, hDq, lw_Do hD2s⟩, hSn.F ht⟩) hSn.2.2 d_LW_paragraph_15
set_option maxHeartbeats 4000000 in
set_option maxRecDepth 100000 in
theorem w_paragraph_I (l : Launch) (hfl : l.flags = flags0) {D : va_G} {ad : Nat → Nat} {cs : pg_C} {rp : Option Nat} {M : Nat → Nat → Int} {cJ : ClassId} {ao : Nat} {f : Nat → Int64} (sz : Nat) (np : Nat) (hnp : M 1 4 = ((np : Nat) : Int)) (h : 30 ≤ np) (hn6 : np ≤ 1000) : Met l y_LW_paragraph (.codeWith y_LW_paragraph b_LW_paragraph 3 (some .int) h_LW_paragraph :: gx) ({ frames := 7, cells := 1, slots := 6, locals := 110 } : Room) (va_Pc [.ref (ad (0)), .ref ao] (lp_B D vwCl (pg_tys cs) (pg_w ad cs rp M) (wo cJ ao f) cJ sz)) (va_Qi (fun (r : Int32) (_ : Unit) => r = iI 1) (lp_E D vwCl (pg_w ad cs rp M) (wo cJ ao f) (pg_w ad cs rp (M)) (wo cJ ao (f)) sz) (va_A ((pg_w ad cs rp M) ++ (wo cJ ao f)) sz)) 1 6 (va_A ((pg_w ad cs rp M) ++ (wo cJ ao f)) sz) := by
  refine va_MetW (cc := b_LW_paragraph) (maxL := 3) (ret := (some .int)) (hh := h_LW_paragraph) (by decide) rfl ?_
  intro p e s m args below meth c s₁ B hml hv
  obtain ⟨rfl, ⟨⟨hsz, hP, hK, hD0⟩, hT⟩, hP2, hKJ, hdj, hD20⟩ := hv
  have hx := B.exec
  have hb := B.bytes
  have hr := B.returns
  have hts := atoms_spec (ws := (.codeWith y_LW_paragraph b_LW_paragraph 3 (some .int) h_LW_paragraph :: gx)) B.pre
  have hgx : ∀ w ∈ gx, w.before _ s = true := fun w h => hts w (List.mem_cons_of_mem _ h)
  have hg : ∀ w ∈ gt, w.before _ s = true := fun w h => hgx w (gx_gt h)
  have htx : ∀ w ∈ tx, w.before _ s = true := fun w h => hgx w (List.mem_append_right _ h)
  have hown : s.vm.findClass R_LW = some m.cls := findClass_of_methodNamed B.named
  have hlocks := B.notSynchronized
  subst hsz
  have hA : ∀ q : Nat, s.heap.size ≤ q → va_A ((pg_w ad cs rp M) ++ (wo cJ ao f)) s.heap.size q := fun q h => Or.inr h
  have hD : va_D (va_A ((pg_w ad cs rp M) ++ (wo cJ ao f)) s.heap.size) (pg_w ad cs rp M) := lw_Dl hD0
  have hD2 : va_D (va_A ((pg_w ad cs rp M) ++ (wo cJ ao f)) s.heap.size) (wo cJ ao f) := lw_Dr hD20
  have hDs : va_D (va_A (pg_w ad cs rp M) s.heap.size) (pg_w ad cs rp M) := hD0.self
  have hD2s : va_D (va_A (wo cJ ao f) s.heap.size) (wo cJ ao f) := hD20.self
  have hS : va_S (va_A ((pg_w ad cs rp M) ++ (wo cJ ao f)) s.heap.size) s.heap s.heap [] := va_S.rf
  have hl := lv_entry ([.ref (ad (0)), .ref ao]) (n := 3) (Nat.le_of_ble_eq_true rfl)
  rw [lg_entry_eq]
  generalize (lg_sl ([.ref (ad (0)), .ref ao]) ++ List.replicate (3 - (lg_sl ([.ref (ad (0)), .ref ao])).length) Slot.unset).toArray = ls at hl ⊢
  have hl : lv_has ls 3 [(0, .ref (ad (0))), (1, .ref ao)] := hl
  refine lv_aload_n hx hb d_LW_paragraph_0 rfl (lv_at hl 1 rfl) ?_
  refine z_iconst hx hb (z := 0) d_LW_paragraph_1 ?_
  refine lv_aload_n hx hb d_LW_paragraph_2 rfl (lv_at hl 0 rfl) ?_
  obtain ⟨m9, meth9, c9, hn9, hm9, hc9, -, -, ht9, -⟩ := Cond.codeWith_spec (hts _ List.mem_cons_self)
  cases B.named.symm.trans hn9
  cases B.method.symm.trans hm9
  cases (Stand.of_body B).code.symm.trans hc9
  have htab := z_tab ht9
  have hcat := hT.at htx
  refine z_tryV (X := z_ISE) (As := []) (rest := [.int (iI (0)), .ref ao]) ⟨hx, hb, hml, hown, hgx⟩ (t_paragraph_I l hfl np hnp h hn6) (cwV 0 hgx (gx_V (fun _ h => h) (gx_gt (List.mem_append_right _ (List.mem_append_right _ (List.mem_append_right _ (List.mem_append_right _ (List.mem_append_right _ (List.mem_append_right _ (List.mem_append_right _ (List.mem_append_right _ (List.mem_append_left _ (List.mem_of_getElem? (i := 39) rfl))))))))))) (gx_gt (List.mem_append_right _ (List.mem_append_right _ (List.mem_append_right _ (List.mem_append_right _ (List.mem_append_right _ (List.mem_append_right _ (List.mem_append_right _ (List.mem_append_right _ (List.mem_append_right _ (List.mem_append_left _ (List.mem_of_getElem? (i := 0) rfl)))))))))))) (gx_gt (List.mem_append_right _ (List.mem_append_right _ (List.mem_append_right _ (List.mem_append_right _ (List.mem_append_right _ (List.mem_append_right _ (List.mem_append_right _ (List.mem_append_right _ (List.mem_append_right _ (List.mem_append_left _ (List.mem_of_getElem? (i := 1) rfl)))))))))))) (gx_gt (List.mem_append_right _ (List.mem_append_left _ (List.mem_of_getElem? (i := 2) rfl)))) (gx_gt (List.mem_append_right _ (List.mem_append_right _ (List.mem_append_right _ (List.mem_append_right _ (List.mem_append_right _ (List.mem_append_right _ (List.mem_append_right _ (List.mem_append_right _ (List.mem_append_right _ (List.mem_append_left _ (List.mem_of_getElem? (i := 2) rfl))))))))))))) rfl rfl rfl (by decide +kernel) ⟨Nat.le_of_ble_eq_true rfl, Nat.le_of_ble_eq_true rfl⟩) ⟨rt_blind, (va_recv hK hP (ci := 0) (q0 := 0) rfl (wl_atE (by decide) rfl)), fun U hU hW => ⟨rfl, ⟨by rw [hU]; exact hP, va_K.moved hW.alike hK⟩, hT.kept hW (fun q hq => by rw [hU])⟩⟩ rfl hl.1 rfl (Nat.le_of_ble_eq_true rfl) d_LW_paragraph_3 ⟨Nat.le_of_ble_eq_true rfl, Nat.le_of_ble_eq_true rfl⟩ [] { startPc := 0, endPc := 8, handlerPc := 11, catchType := 13 } [] htab (fun q hq => by cases hq) (by decide) (by decide) (hcat (.classLink "PageLayoutLaw" 13 z_ISE) (lw_more (by simp [z_more]))) (hcat (.castable z_ISE z_ISE) (lw_more (by simp [z_more]))) (fun H1 hz1 hk1 => ?_)
  have hPn := z_keep (w := []) hP (fun i j p q h1 h2 => by simp at h1) (fun q h1 _ => hk1 q h1)
  have hP2n := z_keep (w := []) hP2 (fun i j p q h1 h2 => by simp at h1) (fun q h1 _ => hk1 q h1)
  refine lv_astore_n (x := s.heap.size) (lv' := [(2, .ref s.heap.size), (0, .ref (ad (0))), (1, .ref ao)]) hx hb d_LW_paragraph_11 rfl hl (by decide) rfl (fun ls hl => ?_)
  refine z_iconst hx hb (z := 1) d_LW_paragraph_12 ?_
  have hSn : va_S (va_A (pg_w ad cs rp M ++ wo cJ ao f) s.heap.size) s.heap H1 [] := ⟨hz1, fun q h1 _ => hk1 q h1, fun _ h => by cases h⟩
  exact W.iret (v := iI 1) hx hb hr (fun t ht hW => ⟨⟨_, (), rfl, rfl, by rw [ht]; exact hPn, by rw [ht]; exact hP2n, hDs, hD2s⟩, hSn.F ht⟩) hSn.2.2 d_LW_paragraph_13
set_option maxHeartbeats 4000000 in
set_option maxRecDepth 100000 in
theorem w_sign_0 (l : Launch) (hfl : l.flags = flags0) {D : va_G} {ad : Nat → Nat} {cs : pg_C} {rp : Option Nat} {M : Nat → Nat → Int} {cJ : ClassId} {ao : Nat} {f : Nat → Int64} (sz : Nat) (np n : Nat) (k wd h : Int) (hk : zb k) (hw : zb wd) (hh : zb h) (hnp : M 1 4 = ((np : Nat) : Int)) (hn : np ≤ 30) (hs : M 1 5 = ((n : Nat) : Int)) (hn6 : n < 600) (h0 : 1 ≤ np) (h1 : inn k 0 6 ∧ inn wd 0 4000 ∧ inn h 0 2000) : Met l y_LW_sign (.codeWith y_LW_sign b_LW_sign 6 (some .int) h_LW_sign :: gx) ({ frames := 7, cells := 1, slots := 6, locals := 110 } : Room) (va_Pc [.ref (ad (0)), .int (iI (k)), .int (iI (wd)), .int (iI (h)), .ref ao] (lp_B D vwCl (pg_tys cs) (pg_w ad cs rp M) (wo cJ ao f) cJ sz)) (va_Qi (fun (r : Int32) (_ : Unit) => r = iI 0) (lp_E D vwCl (pg_w ad cs rp M) (wo cJ ao f) (pg_w ad cs rp (q_asgn (q_fg M) np n k wd h)) (wo cJ ao (fun _ => (iI (((n : Nat) : Int))).toInt64)) sz) (va_A ((pg_w ad cs rp M) ++ (wo cJ ao f)) sz)) 1 6 (va_A ((pg_w ad cs rp M) ++ (wo cJ ao f)) sz) := by
  refine va_MetW (cc := b_LW_sign) (maxL := 6) (ret := (some .int)) (hh := h_LW_sign) (by decide) rfl ?_
  intro p e s m args below meth c s₁ B hml hv
  obtain ⟨rfl, ⟨⟨hsz, hP, hK, hD0⟩, hT⟩, hP2, hKJ, hdj, hD20⟩ := hv
  have hx := B.exec
  have hb := B.bytes
  have hr := B.returns
  have hts := atoms_spec (ws := (.codeWith y_LW_sign b_LW_sign 6 (some .int) h_LW_sign :: gx)) B.pre
  have hgx : ∀ w ∈ gx, w.before _ s = true := fun w h => hts w (List.mem_cons_of_mem _ h)
  have hg : ∀ w ∈ gt, w.before _ s = true := fun w h => hgx w (gx_gt h)
  have htx : ∀ w ∈ tx, w.before _ s = true := fun w h => hgx w (List.mem_append_right _ h)
  have hown : s.vm.findClass R_LW = some m.cls := findClass_of_methodNamed B.named
  have hlocks := B.notSynchronized
  subst hsz
  have hA : ∀ q : Nat, s.heap.size ≤ q → va_A ((pg_w ad cs rp M) ++ (wo cJ ao f)) s.heap.size q := fun q h => Or.inr h
  have hD : va_D (va_A ((pg_w ad cs rp M) ++ (wo cJ ao f)) s.heap.size) (pg_w ad cs rp M) := lw_Dl hD0
  have hD2 : va_D (va_A ((pg_w ad cs rp M) ++ (wo cJ ao f)) s.heap.size) (wo cJ ao f) := lw_Dr hD20
  have hDs : va_D (va_A (pg_w ad cs rp M) s.heap.size) (pg_w ad cs rp M) := hD0.self
  have hD2s : va_D (va_A (wo cJ ao f) s.heap.size) (wo cJ ao f) := hD20.self
  have hS : va_S (va_A ((pg_w ad cs rp M) ++ (wo cJ ao f)) s.heap.size) s.heap s.heap [] := va_S.rf
  have hl := lv_entry ([.ref (ad (0)), .int (iI (k)), .int (iI (wd)), .int (iI (h)), .ref ao]) (n := 6) (Nat.le_of_ble_eq_true rfl)
  rw [lg_entry_eq]
  generalize (lg_sl ([.ref (ad (0)), .int (iI (k)), .int (iI (wd)), .int (iI (h)), .ref ao]) ++ List.replicate (6 - (lg_sl ([.ref (ad (0)), .int (iI (k)), .int (iI (wd)), .int (iI (h)), .ref ao])).length) Slot.unset).toArray = ls at hl ⊢
  have hl : lv_has ls 6 [(0, .ref (ad (0))), (1, .int (iI (k))), (2, .int (iI (wd))), (3, .int (iI (h))), (4, .ref ao)] := hl
  refine lv_aload hx hb d_LW_sign_0 (lv_at hl 4 rfl) ?_
  refine z_iconst hx hb (z := 0) d_LW_sign_2 ?_
  refine lv_aload_n hx hb d_LW_sign_3 rfl (lv_at hl 0 rfl) ?_
  refine lv_iload_n hx hb d_LW_sign_4 rfl (lv_at hl 1 rfl) ?_
  refine lv_iload_n hx hb d_LW_sign_5 rfl (lv_at hl 2 rfl) ?_
  refine lv_iload_n hx hb d_LW_sign_6 rfl (lv_at hl 3 rfl) ?_
  refine lw_Vi (As := [.int (iI (k)), .int (iI (wd)), .int (iI (h))]) (rest := [.int (iI (0)), .ref ao]) (w' := pg_w ad cs rp (q_asgn (q_fg M) np n k wd h)) (z := ((n : Nat) : Int)) ⟨hx, hb, hml, hown, hg⟩ (c_sign l _ np n k wd h hk hw hh hnp hn hs hn6 h0 h1) (cwV 3 hg (gt_V (List.mem_append_right _ (List.mem_append_right _ (List.mem_append_right _ (List.mem_append_right _ (List.mem_append_right _ (List.mem_append_right _ (List.mem_append_right _ (List.mem_append_right _ (List.mem_append_right _ (List.mem_append_right _ (List.mem_append_left _ (List.mem_of_getElem? (i := 23) rfl)))))))))))) (List.mem_append_right _ (List.mem_append_right _ (List.mem_append_right _ (List.mem_append_right _ (List.mem_append_right _ (List.mem_append_right _ (List.mem_append_right _ (List.mem_append_right _ (List.mem_append_right _ (List.mem_append_right _ (List.mem_append_left _ (List.mem_of_getElem? (i := 24) rfl)))))))))))) (List.mem_append_right _ (List.mem_append_right _ (List.mem_append_right _ (List.mem_append_right _ (List.mem_append_right _ (List.mem_append_right _ (List.mem_append_right _ (List.mem_append_right _ (List.mem_append_right _ (List.mem_append_right _ (List.mem_append_left _ (List.mem_of_getElem? (i := 25) rfl)))))))))))) (List.mem_append_right _ (List.mem_append_left _ (List.mem_of_getElem? (i := 2) rfl))) (List.mem_append_right _ (List.mem_append_right _ (List.mem_append_right _ (List.mem_append_right _ (List.mem_append_right _ (List.mem_append_right _ (List.mem_append_right _ (List.mem_append_right _ (List.mem_append_right _ (List.mem_append_right _ (List.mem_append_left _ (List.mem_of_getElem? (i := 26) rfl))))))))))))) rfl rfl rfl (by decide +kernel) ⟨Nat.le_of_ble_eq_true rfl, Nat.le_of_ble_eq_true rfl⟩) rw_blind (fun U hU hW => ⟨by rw [hU], by rw [hU]; exact hP, va_K.moved hW.alike hK, hD.weaken (fun _ _ _ _ => trivial)⟩) hD hS hA (va_recv hK hP (ci := 0) (q0 := 0) rfl (wl_atE (by decide) rfl)) rfl hl.1 rfl (Nat.le_of_ble_eq_true rfl) d_LW_sign_7 ⟨Nat.zero_le _, Nat.zero_le _⟩ (fun H1 locs1 hPn hDn hDq hSn hk => ?_)
  have hP2n := z_keep hP2 hdj hk
  refine lv_i2l hx hb d_LW_sign_10 rfl ?_
  refine lw_last (v := (iI (((n : Nat) : Int))).toInt64) hx hb hKJ hPn hP2n hDn hD2 (pg_dj hdj) hSn d_LW_sign_11 (fun H2 locs2 hPn hP2n hSn => ?_)
  refine lv_goto (tgt := 27) hx hb d_LW_sign_12 (by decide) ?_
  refine z_iconst hx hb (z := 0) d_LW_sign_27 ?_
  refine W.widen (k := 1) (n := 6) (by decide) (by decide) ?_
  exact W.iret (v := iI 0) hx hb hr (fun t ht hW => ⟨⟨_, (), rfl, rfl, by rw [ht]; exact hPn, by rw [ht]; exact hP2n, hDq, lw_Do hD2s⟩, hSn.F ht⟩) hSn.2.2 d_LW_sign_28
set_option maxHeartbeats 4000000 in
set_option maxRecDepth 100000 in
theorem w_sign_N (l : Launch) (hfl : l.flags = flags0) {D : va_G} {ad : Nat → Nat} {cs : pg_C} {rp : Option Nat} {M : Nat → Nat → Int} {cJ : ClassId} {ao : Nat} {f : Nat → Int64} (sz : Nat) (np n : Nat) (k wd h : Int) (hk : zb k) (hw : zb wd) (hh : zb h) (hnp : M 1 4 = ((np : Nat) : Int)) (hn : np ≤ 30) (hs : M 1 5 = ((n : Nat) : Int)) (hn6 : n ≤ 600) (h0 : np = 0) : Met l y_LW_sign (.codeWith y_LW_sign b_LW_sign 6 (some .int) h_LW_sign :: gx) ({ frames := 7, cells := 1, slots := 6, locals := 110 } : Room) (va_Pc [.ref (ad (0)), .int (iI (k)), .int (iI (wd)), .int (iI (h)), .ref ao] (lp_B D vwCl (pg_tys cs) (pg_w ad cs rp M) (wo cJ ao f) cJ sz)) (va_Qi (fun (r : Int32) (_ : Unit) => r = iI 1) (lp_E D vwCl (pg_w ad cs rp M) (wo cJ ao f) (pg_w ad cs rp (M)) (wo cJ ao (f)) sz) (va_A ((pg_w ad cs rp M) ++ (wo cJ ao f)) sz)) 1 6 (va_A ((pg_w ad cs rp M) ++ (wo cJ ao f)) sz) := by
  refine va_MetW (cc := b_LW_sign) (maxL := 6) (ret := (some .int)) (hh := h_LW_sign) (by decide) rfl ?_
  intro p e s m args below meth c s₁ B hml hv
  obtain ⟨rfl, ⟨⟨hsz, hP, hK, hD0⟩, hT⟩, hP2, hKJ, hdj, hD20⟩ := hv
  have hx := B.exec
  have hb := B.bytes
  have hr := B.returns
  have hts := atoms_spec (ws := (.codeWith y_LW_sign b_LW_sign 6 (some .int) h_LW_sign :: gx)) B.pre
  have hgx : ∀ w ∈ gx, w.before _ s = true := fun w h => hts w (List.mem_cons_of_mem _ h)
  have hg : ∀ w ∈ gt, w.before _ s = true := fun w h => hgx w (gx_gt h)
  have htx : ∀ w ∈ tx, w.before _ s = true := fun w h => hgx w (List.mem_append_right _ h)
  have hown : s.vm.findClass R_LW = some m.cls := findClass_of_methodNamed B.named
  have hlocks := B.notSynchronized
  subst hsz
  have hA : ∀ q : Nat, s.heap.size ≤ q → va_A ((pg_w ad cs rp M) ++ (wo cJ ao f)) s.heap.size q := fun q h => Or.inr h
  have hD : va_D (va_A ((pg_w ad cs rp M) ++ (wo cJ ao f)) s.heap.size) (pg_w ad cs rp M) := lw_Dl hD0
  have hD2 : va_D (va_A ((pg_w ad cs rp M) ++ (wo cJ ao f)) s.heap.size) (wo cJ ao f) := lw_Dr hD20
  have hDs : va_D (va_A (pg_w ad cs rp M) s.heap.size) (pg_w ad cs rp M) := hD0.self
  have hD2s : va_D (va_A (wo cJ ao f) s.heap.size) (wo cJ ao f) := hD20.self
  have hS : va_S (va_A ((pg_w ad cs rp M) ++ (wo cJ ao f)) s.heap.size) s.heap s.heap [] := va_S.rf
  have hl := lv_entry ([.ref (ad (0)), .int (iI (k)), .int (iI (wd)), .int (iI (h)), .ref ao]) (n := 6) (Nat.le_of_ble_eq_true rfl)
  rw [lg_entry_eq]
  generalize (lg_sl ([.ref (ad (0)), .int (iI (k)), .int (iI (wd)), .int (iI (h)), .ref ao]) ++ List.replicate (6 - (lg_sl ([.ref (ad (0)), .int (iI (k)), .int (iI (wd)), .int (iI (h)), .ref ao])).length) Slot.unset).toArray = ls at hl ⊢
  have hl : lv_has ls 6 [(0, .ref (ad (0))), (1, .int (iI (k))), (2, .int (iI (wd))), (3, .int (iI (h))), (4, .ref ao)] := hl
  refine lv_aload hx hb d_LW_sign_0 (lv_at hl 4 rfl) ?_
  refine z_iconst hx hb (z := 0) d_LW_sign_2 ?_
  refine lv_aload_n hx hb d_LW_sign_3 rfl (lv_at hl 0 rfl) ?_
  refine lv_iload_n hx hb d_LW_sign_4 rfl (lv_at hl 1 rfl) ?_
  refine lv_iload_n hx hb d_LW_sign_5 rfl (lv_at hl 2 rfl) ?_
  refine lv_iload_n hx hb d_LW_sign_6 rfl (lv_at hl 3 rfl) ?_
  obtain ⟨m9, meth9, c9, hn9, hm9, hc9, -, -, ht9, -⟩ := Cond.codeWith_spec (hts _ List.mem_cons_self)
  cases B.named.symm.trans hn9
  cases B.method.symm.trans hm9
  cases (Stand.of_body B).code.symm.trans hc9
  have htab := z_tab ht9
  have hcat := hT.at htx
  refine z_tryV (X := z_NSE) (As := [.int (iI (k)), .int (iI (wd)), .int (iI (h))]) (rest := [.int (iI (0)), .ref ao]) ⟨hx, hb, hml, hown, hgx⟩ (t_sign_N l hfl np n k wd h hk hw hh hnp hn hs hn6 h0) (cwV 3 hgx (gx_V (fun _ h => h) (gx_gt (List.mem_append_right _ (List.mem_append_right _ (List.mem_append_right _ (List.mem_append_right _ (List.mem_append_right _ (List.mem_append_right _ (List.mem_append_right _ (List.mem_append_right _ (List.mem_append_right _ (List.mem_append_right _ (List.mem_append_left _ (List.mem_of_getElem? (i := 23) rfl))))))))))))) (gx_gt (List.mem_append_right _ (List.mem_append_right _ (List.mem_append_right _ (List.mem_append_right _ (List.mem_append_right _ (List.mem_append_right _ (List.mem_append_right _ (List.mem_append_right _ (List.mem_append_right _ (List.mem_append_right _ (List.mem_append_left _ (List.mem_of_getElem? (i := 24) rfl))))))))))))) (gx_gt (List.mem_append_right _ (List.mem_append_right _ (List.mem_append_right _ (List.mem_append_right _ (List.mem_append_right _ (List.mem_append_right _ (List.mem_append_right _ (List.mem_append_right _ (List.mem_append_right _ (List.mem_append_right _ (List.mem_append_left _ (List.mem_of_getElem? (i := 25) rfl))))))))))))) (gx_gt (List.mem_append_right _ (List.mem_append_left _ (List.mem_of_getElem? (i := 2) rfl)))) (gx_gt (List.mem_append_right _ (List.mem_append_right _ (List.mem_append_right _ (List.mem_append_right _ (List.mem_append_right _ (List.mem_append_right _ (List.mem_append_right _ (List.mem_append_right _ (List.mem_append_right _ (List.mem_append_right _ (List.mem_append_left _ (List.mem_of_getElem? (i := 26) rfl)))))))))))))) rfl rfl rfl (by decide +kernel) ⟨Nat.le_of_ble_eq_true rfl, Nat.le_of_ble_eq_true rfl⟩) ⟨rt_blind, (va_recv hK hP (ci := 0) (q0 := 0) rfl (wl_atE (by decide) rfl)), fun U hU hW => ⟨rfl, ⟨by rw [hU]; exact hP, va_K.moved hW.alike hK⟩, hT.kept hW (fun q hq => by rw [hU])⟩⟩ rfl hl.1 rfl (Nat.le_of_ble_eq_true rfl) d_LW_sign_7 ⟨Nat.le_of_ble_eq_true rfl, Nat.le_of_ble_eq_true rfl⟩ [] { startPc := 0, endPc := 12, handlerPc := 15, catchType := 19 } [{ startPc := 0, endPc := 12, handlerPc := 19, catchType := 21 }, { startPc := 0, endPc := 12, handlerPc := 23, catchType := 13 }] htab (fun q hq => by cases hq) (by decide) (by decide) (hcat (.classLink "PageLayoutLaw" 19 z_NSE) (lw_more (by simp [z_more]))) (hcat (.castable z_NSE z_NSE) (lw_more (by simp [z_more]))) (fun H1 hz1 hk1 => ?_)
  have hPn := z_keep (w := []) hP (fun i j p q h1 h2 => by simp at h1) (fun q h1 _ => hk1 q h1)
  have hP2n := z_keep (w := []) hP2 (fun i j p q h1 h2 => by simp at h1) (fun q h1 _ => hk1 q h1)
  refine lv_astore (x := s.heap.size) (lv' := [(5, .ref s.heap.size), (0, .ref (ad (0))), (1, .int (iI (k))), (2, .int (iI (wd))), (3, .int (iI (h))), (4, .ref ao)]) hx hb d_LW_sign_15 hl (by decide) rfl (fun ls hl => ?_)
  refine z_iconst hx hb (z := 1) d_LW_sign_17 ?_
  have hSn : va_S (va_A (pg_w ad cs rp M ++ wo cJ ao f) s.heap.size) s.heap H1 [] := ⟨hz1, fun q h1 _ => hk1 q h1, fun _ h => by cases h⟩
  exact W.iret (v := iI 1) hx hb hr (fun t ht hW => ⟨⟨_, (), rfl, rfl, by rw [ht]; exact hPn, by rw [ht]; exact hP2n, hDs, hD2s⟩, hSn.F ht⟩) hSn.2.2 d_LW_sign_18
set_option maxHeartbeats 4000000 in
set_option maxRecDepth 100000 in
theorem w_sign_A (l : Launch) (hfl : l.flags = flags0) {D : va_G} {ad : Nat → Nat} {cs : pg_C} {rp : Option Nat} {M : Nat → Nat → Int} {cJ : ClassId} {ao : Nat} {f : Nat → Int64} (sz : Nat) (np n : Nat) (k wd h : Int) (hk : zb k) (hw : zb wd) (hh : zb h) (hnp : M 1 4 = ((np : Nat) : Int)) (hn : np ≤ 30) (hs : M 1 5 = ((n : Nat) : Int)) (hn6 : n ≤ 600) (h0 : 1 ≤ np) (h1 : ¬ (inn k 0 6 ∧ inn wd 0 4000 ∧ inn h 0 2000)) : Met l y_LW_sign (.codeWith y_LW_sign b_LW_sign 6 (some .int) h_LW_sign :: gx) ({ frames := 7, cells := 1, slots := 6, locals := 110 } : Room) (va_Pc [.ref (ad (0)), .int (iI (k)), .int (iI (wd)), .int (iI (h)), .ref ao] (lp_B D vwCl (pg_tys cs) (pg_w ad cs rp M) (wo cJ ao f) cJ sz)) (va_Qi (fun (r : Int32) (_ : Unit) => r = iI 2) (lp_E D vwCl (pg_w ad cs rp M) (wo cJ ao f) (pg_w ad cs rp (M)) (wo cJ ao (f)) sz) (va_A ((pg_w ad cs rp M) ++ (wo cJ ao f)) sz)) 1 6 (va_A ((pg_w ad cs rp M) ++ (wo cJ ao f)) sz) := by
  refine va_MetW (cc := b_LW_sign) (maxL := 6) (ret := (some .int)) (hh := h_LW_sign) (by decide) rfl ?_
  intro p e s m args below meth c s₁ B hml hv
  obtain ⟨rfl, ⟨⟨hsz, hP, hK, hD0⟩, hT⟩, hP2, hKJ, hdj, hD20⟩ := hv
  have hx := B.exec
  have hb := B.bytes
  have hr := B.returns
  have hts := atoms_spec (ws := (.codeWith y_LW_sign b_LW_sign 6 (some .int) h_LW_sign :: gx)) B.pre
  have hgx : ∀ w ∈ gx, w.before _ s = true := fun w h => hts w (List.mem_cons_of_mem _ h)
  have hg : ∀ w ∈ gt, w.before _ s = true := fun w h => hgx w (gx_gt h)
  have htx : ∀ w ∈ tx, w.before _ s = true := fun w h => hgx w (List.mem_append_right _ h)
  have hown : s.vm.findClass R_LW = some m.cls := findClass_of_methodNamed B.named
  have hlocks := B.notSynchronized
  subst hsz
  have hA : ∀ q : Nat, s.heap.size ≤ q → va_A ((pg_w ad cs rp M) ++ (wo cJ ao f)) s.heap.size q := fun q h => Or.inr h
  have hD : va_D (va_A ((pg_w ad cs rp M) ++ (wo cJ ao f)) s.heap.size) (pg_w ad cs rp M) := lw_Dl hD0
  have hD2 : va_D (va_A ((pg_w ad cs rp M) ++ (wo cJ ao f)) s.heap.size) (wo cJ ao f) := lw_Dr hD20
  have hDs : va_D (va_A (pg_w ad cs rp M) s.heap.size) (pg_w ad cs rp M) := hD0.self
  have hD2s : va_D (va_A (wo cJ ao f) s.heap.size) (wo cJ ao f) := hD20.self
  have hS : va_S (va_A ((pg_w ad cs rp M) ++ (wo cJ ao f)) s.heap.size) s.heap s.heap [] := va_S.rf
  have hl := lv_entry ([.ref (ad (0)), .int (iI (k)), .int (iI (wd)), .int (iI (h)), .ref ao]) (n := 6) (Nat.le_of_ble_eq_true rfl)
  rw [lg_entry_eq]
  generalize (lg_sl ([.ref (ad (0)), .int (iI (k)), .int (iI (wd)), .int (iI (h)), .ref ao]) ++ List.replicate (6 - (lg_sl ([.ref (ad (0)), .int (iI (k)), .int (iI (wd)), .int (iI (h)), .ref ao])).length) Slot.unset).toArray = ls at hl ⊢
  have hl : lv_has ls 6 [(0, .ref (ad (0))), (1, .int (iI (k))), (2, .int (iI (wd))), (3, .int (iI (h))), (4, .ref ao)] := hl
  refine lv_aload hx hb d_LW_sign_0 (lv_at hl 4 rfl) ?_
  refine z_iconst hx hb (z := 0) d_LW_sign_2 ?_
  refine lv_aload_n hx hb d_LW_sign_3 rfl (lv_at hl 0 rfl) ?_
  refine lv_iload_n hx hb d_LW_sign_4 rfl (lv_at hl 1 rfl) ?_
  refine lv_iload_n hx hb d_LW_sign_5 rfl (lv_at hl 2 rfl) ?_
  refine lv_iload_n hx hb d_LW_sign_6 rfl (lv_at hl 3 rfl) ?_
  obtain ⟨m9, meth9, c9, hn9, hm9, hc9, -, -, ht9, -⟩ := Cond.codeWith_spec (hts _ List.mem_cons_self)
  cases B.named.symm.trans hn9
  cases B.method.symm.trans hm9
  cases (Stand.of_body B).code.symm.trans hc9
  have htab := z_tab ht9
  have hcat := hT.at htx
  refine z_tryV (X := z_IAE) (As := [.int (iI (k)), .int (iI (wd)), .int (iI (h))]) (rest := [.int (iI (0)), .ref ao]) ⟨hx, hb, hml, hown, hgx⟩ (t_sign_A l hfl np n k wd h hk hw hh hnp hn hs hn6 h0 h1) (cwV 3 hgx (gx_V (fun _ h => h) (gx_gt (List.mem_append_right _ (List.mem_append_right _ (List.mem_append_right _ (List.mem_append_right _ (List.mem_append_right _ (List.mem_append_right _ (List.mem_append_right _ (List.mem_append_right _ (List.mem_append_right _ (List.mem_append_right _ (List.mem_append_left _ (List.mem_of_getElem? (i := 23) rfl))))))))))))) (gx_gt (List.mem_append_right _ (List.mem_append_right _ (List.mem_append_right _ (List.mem_append_right _ (List.mem_append_right _ (List.mem_append_right _ (List.mem_append_right _ (List.mem_append_right _ (List.mem_append_right _ (List.mem_append_right _ (List.mem_append_left _ (List.mem_of_getElem? (i := 24) rfl))))))))))))) (gx_gt (List.mem_append_right _ (List.mem_append_right _ (List.mem_append_right _ (List.mem_append_right _ (List.mem_append_right _ (List.mem_append_right _ (List.mem_append_right _ (List.mem_append_right _ (List.mem_append_right _ (List.mem_append_right _ (List.mem_append_left _ (List.mem_of_getElem? (i := 25) rfl))))))))))))) (gx_gt (List.mem_append_right _ (List.mem_append_left _ (List.mem_of_getElem? (i := 2) rfl)))) (gx_gt (List.mem_append_right _ (List.mem_append_right _ (List.mem_append_right _ (List.mem_append_right _ (List.mem_append_right _ (List.mem_append_right _ (List.mem_append_right _ (List.mem_append_right _ (List.mem_append_right _ (List.mem_append_right _ (List.mem_append_left _ (List.mem_of_getElem? (i := 26) rfl)))))))))))))) rfl rfl rfl (by decide +kernel) ⟨Nat.le_of_ble_eq_true rfl, Nat.le_of_ble_eq_true rfl⟩) ⟨rt_blind, (va_recv hK hP (ci := 0) (q0 := 0) rfl (wl_atE (by decide) rfl)), fun U hU hW => ⟨rfl, ⟨by rw [hU]; exact hP, va_K.moved hW.alike hK⟩, hT.kept hW (fun q hq => by rw [hU])⟩⟩ rfl hl.1 rfl (Nat.le_of_ble_eq_true rfl) d_LW_sign_7 ⟨Nat.le_of_ble_eq_true rfl, Nat.le_of_ble_eq_true rfl⟩ [({ startPc := 0, endPc := 12, handlerPc := 15, catchType := 19 }, z_NSE)] { startPc := 0, endPc := 12, handlerPc := 19, catchType := 21 } [{ startPc := 0, endPc := 12, handlerPc := 23, catchType := 13 }] htab (List.forall_mem_cons.mpr ⟨⟨by decide, by decide, (hcat (.classLink "PageLayoutLaw" 19 z_NSE) (lw_more (by simp [z_more]))), hT.2.2.1.1⟩, fun q hq => by cases hq⟩) (by decide) (by decide) (hcat (.classLink "PageLayoutLaw" 21 z_IAE) (lw_more (by simp [z_more]))) (hcat (.castable z_IAE z_IAE) (lw_more (by simp [z_more]))) (fun H1 hz1 hk1 => ?_)
  have hPn := z_keep (w := []) hP (fun i j p q h1 h2 => by simp at h1) (fun q h1 _ => hk1 q h1)
  have hP2n := z_keep (w := []) hP2 (fun i j p q h1 h2 => by simp at h1) (fun q h1 _ => hk1 q h1)
  refine lv_astore (x := s.heap.size) (lv' := [(5, .ref s.heap.size), (0, .ref (ad (0))), (1, .int (iI (k))), (2, .int (iI (wd))), (3, .int (iI (h))), (4, .ref ao)]) hx hb d_LW_sign_19 hl (by decide) rfl (fun ls hl => ?_)
  refine z_iconst hx hb (z := 2) d_LW_sign_21 ?_
  have hSn : va_S (va_A (pg_w ad cs rp M ++ wo cJ ao f) s.heap.size) s.heap H1 [] := ⟨hz1, fun q h1 _ => hk1 q h1, fun _ h => by cases h⟩
  exact W.iret (v := iI 2) hx hb hr (fun t ht hW => ⟨⟨_, (), rfl, rfl, by rw [ht]; exact hPn, by rw [ht]; exact hP2n, hDs, hD2s⟩, hSn.F ht⟩) hSn.2.2 d_LW_sign_22
set_option maxHeartbeats 4000000 in
set_option maxRecDepth 100000 in
theorem w_sign_I (l : Launch) (hfl : l.flags = flags0) {D : va_G} {ad : Nat → Nat} {cs : pg_C} {rp : Option Nat} {M : Nat → Nat → Int} {cJ : ClassId} {ao : Nat} {f : Nat → Int64} (sz : Nat) (np n : Nat) (k wd h : Int) (hk : zb k) (hw : zb wd) (hh : zb h) (hnp : M 1 4 = ((np : Nat) : Int)) (hn : np ≤ 30) (hs : M 1 5 = ((n : Nat) : Int)) (hn6 : n ≤ 600) (h0 : 1 ≤ np) (h1 : inn k 0 6 ∧ inn wd 0 4000 ∧ inn h 0 2000) (h2 : n = 600) : Met l y_LW_sign (.codeWith y_LW_sign b_LW_sign 6 (some .int) h_LW_sign :: gx) ({ frames := 7, cells := 1, slots := 6, locals := 110 } : Room) (va_Pc [.ref (ad (0)), .int (iI (k)), .int (iI (wd)), .int (iI (h)), .ref ao] (lp_B D vwCl (pg_tys cs) (pg_w ad cs rp M) (wo cJ ao f) cJ sz)) (va_Qi (fun (r : Int32) (_ : Unit) => r = iI 3) (lp_E D vwCl (pg_w ad cs rp M) (wo cJ ao f) (pg_w ad cs rp (M)) (wo cJ ao (f)) sz) (va_A ((pg_w ad cs rp M) ++ (wo cJ ao f)) sz)) 1 6 (va_A ((pg_w ad cs rp M) ++ (wo cJ ao f)) sz) := by
  refine va_MetW (cc := b_LW_sign) (maxL := 6) (ret := (some .int)) (hh := h_LW_sign) (by decide) rfl ?_
  intro p e s m args below meth c s₁ B hml hv
  obtain ⟨rfl, ⟨⟨hsz, hP, hK, hD0⟩, hT⟩, hP2, hKJ, hdj, hD20⟩ := hv
  have hx := B.exec
  have hb := B.bytes
  have hr := B.returns
  have hts := atoms_spec (ws := (.codeWith y_LW_sign b_LW_sign 6 (some .int) h_LW_sign :: gx)) B.pre
  have hgx : ∀ w ∈ gx, w.before _ s = true := fun w h => hts w (List.mem_cons_of_mem _ h)
  have hg : ∀ w ∈ gt, w.before _ s = true := fun w h => hgx w (gx_gt h)
  have htx : ∀ w ∈ tx, w.before _ s = true := fun w h => hgx w (List.mem_append_right _ h)
  have hown : s.vm.findClass R_LW = some m.cls := findClass_of_methodNamed B.named
  have hlocks := B.notSynchronized
  subst hsz
  have hA : ∀ q : Nat, s.heap.size ≤ q → va_A ((pg_w ad cs rp M) ++ (wo cJ ao f)) s.heap.size q := fun q h => Or.inr h
  have hD : va_D (va_A ((pg_w ad cs rp M) ++ (wo cJ ao f)) s.heap.size) (pg_w ad cs rp M) := lw_Dl hD0
  have hD2 : va_D (va_A ((pg_w ad cs rp M) ++ (wo cJ ao f)) s.heap.size) (wo cJ ao f) := lw_Dr hD20
  have hDs : va_D (va_A (pg_w ad cs rp M) s.heap.size) (pg_w ad cs rp M) := hD0.self
  have hD2s : va_D (va_A (wo cJ ao f) s.heap.size) (wo cJ ao f) := hD20.self
  have hS : va_S (va_A ((pg_w ad cs rp M) ++ (wo cJ ao f)) s.heap.size) s.heap s.heap [] := va_S.rf
  have hl := lv_entry ([.ref (ad (0)), .int (iI (k)), .int (iI (wd)), .int (iI (h)), .ref ao]) (n := 6) (Nat.le_of_ble_eq_true rfl)
  rw [lg_entry_eq]
  generalize (lg_sl ([.ref (ad (0)), .int (iI (k)), .int (iI (wd)), .int (iI (h)), .ref ao]) ++ List.replicate (6 - (lg_sl ([.ref (ad (0)), .int (iI (k)), .int (iI (wd)), .int (iI (h)), .ref ao])).length) Slot.unset).toArray = ls at hl ⊢
  have hl : lv_has ls 6 [(0, .ref (ad (0))), (1, .int (iI (k))), (2, .int (iI (wd))), (3, .int (iI (h))), (4, .ref ao)] := hl
  refine lv_aload hx hb d_LW_sign_0 (lv_at hl 4 rfl) ?_
  refine z_iconst hx hb (z := 0) d_LW_sign_2 ?_
  refine lv_aload_n hx hb d_LW_sign_3 rfl (lv_at hl 0 rfl) ?_
  refine lv_iload_n hx hb d_LW_sign_4 rfl (lv_at hl 1 rfl) ?_
  refine lv_iload_n hx hb d_LW_sign_5 rfl (lv_at hl 2 rfl) ?_
  refine lv_iload_n hx hb d_LW_sign_6 rfl (lv_at hl 3 rfl) ?_
  obtain ⟨m9, meth9, c9, hn9, hm9, hc9, -, -, ht9, -⟩ := Cond.codeWith_spec (hts _ List.mem_cons_self)
  cases B.named.symm.trans hn9
  cases B.method.symm.trans hm9
  cases (Stand.of_body B).code.symm.trans hc9
  have htab := z_tab ht9
  have hcat := hT.at htx
  refine z_tryV (X := z_ISE) (As := [.int (iI (k)), .int (iI (wd)), .int (iI (h))]) (rest := [.int (iI (0)), .ref ao]) ⟨hx, hb, hml, hown, hgx⟩ (t_sign_I l hfl np n k wd h hk hw hh hnp hn hs hn6 h0 h1 h2) (cwV 3 hgx (gx_V (fun _ h => h) (gx_gt (List.mem_append_right _ (List.mem_append_right _ (List.mem_append_right _ (List.mem_append_right _ (List.mem_append_right _ (List.mem_append_right _ (List.mem_append_right _ (List.mem_append_right _ (List.mem_append_right _ (List.mem_append_right _ (List.mem_append_left _ (List.mem_of_getElem? (i := 23) rfl))))))))))))) (gx_gt (List.mem_append_right _ (List.mem_append_right _ (List.mem_append_right _ (List.mem_append_right _ (List.mem_append_right _ (List.mem_append_right _ (List.mem_append_right _ (List.mem_append_right _ (List.mem_append_right _ (List.mem_append_right _ (List.mem_append_left _ (List.mem_of_getElem? (i := 24) rfl))))))))))))) (gx_gt (List.mem_append_right _ (List.mem_append_right _ (List.mem_append_right _ (List.mem_append_right _ (List.mem_append_right _ (List.mem_append_right _ (List.mem_append_right _ (List.mem_append_right _ (List.mem_append_right _ (List.mem_append_right _ (List.mem_append_left _ (List.mem_of_getElem? (i := 25) rfl))))))))))))) (gx_gt (List.mem_append_right _ (List.mem_append_left _ (List.mem_of_getElem? (i := 2) rfl)))) (gx_gt (List.mem_append_right _ (List.mem_append_right _ (List.mem_append_right _ (List.mem_append_right _ (List.mem_append_right _ (List.mem_append_right _ (List.mem_append_right _ (List.mem_append_right _ (List.mem_append_right _ (List.mem_append_right _ (List.mem_append_left _ (List.mem_of_getElem? (i := 26) rfl)))))))))))))) rfl rfl rfl (by decide +kernel) ⟨Nat.le_of_ble_eq_true rfl, Nat.le_of_ble_eq_true rfl⟩) ⟨rt_blind, (va_recv hK hP (ci := 0) (q0 := 0) rfl (wl_atE (by decide) rfl)), fun U hU hW => ⟨rfl, ⟨by rw [hU]; exact hP, va_K.moved hW.alike hK⟩, hT.kept hW (fun q hq => by rw [hU])⟩⟩ rfl hl.1 rfl (Nat.le_of_ble_eq_true rfl) d_LW_sign_7 ⟨Nat.le_of_ble_eq_true rfl, Nat.le_of_ble_eq_true rfl⟩ [({ startPc := 0, endPc := 12, handlerPc := 15, catchType := 19 }, z_NSE), ({ startPc := 0, endPc := 12, handlerPc := 19, catchType := 21 }, z_IAE)] { startPc := 0, endPc := 12, handlerPc := 23, catchType := 13 } [] htab (List.forall_mem_cons.mpr ⟨⟨by decide, by decide, (hcat (.classLink "PageLayoutLaw" 19 z_NSE) (lw_more (by simp [z_more]))), hT.2.2.1.2.1⟩, List.forall_mem_cons.mpr ⟨⟨by decide, by decide, (hcat (.classLink "PageLayoutLaw" 21 z_IAE) (lw_more (by simp [z_more]))), hT.2.2.1.2.2⟩, fun q hq => by cases hq⟩⟩) (by decide) (by decide) (hcat (.classLink "PageLayoutLaw" 13 z_ISE) (lw_more (by simp [z_more]))) (hcat (.castable z_ISE z_ISE) (lw_more (by simp [z_more]))) (fun H1 hz1 hk1 => ?_)
  have hPn := z_keep (w := []) hP (fun i j p q h1 h2 => by simp at h1) (fun q h1 _ => hk1 q h1)
  have hP2n := z_keep (w := []) hP2 (fun i j p q h1 h2 => by simp at h1) (fun q h1 _ => hk1 q h1)
  refine lv_astore (x := s.heap.size) (lv' := [(5, .ref s.heap.size), (0, .ref (ad (0))), (1, .int (iI (k))), (2, .int (iI (wd))), (3, .int (iI (h))), (4, .ref ao)]) hx hb d_LW_sign_23 hl (by decide) rfl (fun ls hl => ?_)
  refine z_iconst hx hb (z := 3) d_LW_sign_25 ?_
  have hSn : va_S (va_A (pg_w ad cs rp M ++ wo cJ ao f) s.heap.size) s.heap H1 [] := ⟨hz1, fun q h1 _ => hk1 q h1, fun _ h => by cases h⟩
  exact W.iret (v := iI 3) hx hb hr (fun t ht hW => ⟨⟨_, (), rfl, rfl, by rw [ht]; exact hPn, by rw [ht]; exact hP2n, hDs, hD2s⟩, hSn.F ht⟩) hSn.2.2 d_LW_sign_26
set_option maxHeartbeats 4000000 in
set_option maxRecDepth 100000 in
theorem w_shape_0 (l : Launch) (hfl : l.flags = flags0) {D : va_G} {ad : Nat → Nat} {cs : pg_C} {rp : Option Nat} {M : Nat → Nat → Int} {cJ : ClassId} {ao : Nat} {f : Nat → Int64} (sz : Nat) (np : Nat) (x wh v : Int) (hx0 : zb x) (hw : zb wh) (hv : zb v) (hnp : M 1 4 = ((np : Nat) : Int)) (hn : np ≤ 30) (h0 : inn x 0 (((np : Nat) : Int) - 1)) (h1 : inn wh 0 10 ∧ inn v (r_least wh) (r_most wh)) : Met l y_LW_shape (.codeWith y_LW_shape b_LW_shape 5 (some .int) h_LW_shape :: gx) ({ frames := 7, cells := 1, slots := 6, locals := 110 } : Room) (va_Pc [.ref (ad (0)), .int (iI (x)), .int (iI (wh)), .int (iI (v))] (lp_B D vwCl (pg_tys cs) (pg_w ad cs rp M) (wo cJ ao f) cJ sz)) (va_Qi (fun (r : Int32) (_ : Unit) => r = iI 0) (lp_E D vwCl (pg_w ad cs rp M) (wo cJ ao f) (pg_w ad cs rp (mset (q_fg M) (30 + 4 * x.toNat) wh.toNat v)) (wo cJ ao (f)) sz) (va_A ((pg_w ad cs rp M) ++ (wo cJ ao f)) sz)) 1 6 (va_A ((pg_w ad cs rp M) ++ (wo cJ ao f)) sz) := by
  refine va_MetW (cc := b_LW_shape) (maxL := 5) (ret := (some .int)) (hh := h_LW_shape) (by decide) rfl ?_
  intro p e s m args below meth c s₁ B hml hv
  obtain ⟨rfl, ⟨⟨hsz, hP, hK, hD0⟩, hT⟩, hP2, hKJ, hdj, hD20⟩ := hv
  have hx := B.exec
  have hb := B.bytes
  have hr := B.returns
  have hts := atoms_spec (ws := (.codeWith y_LW_shape b_LW_shape 5 (some .int) h_LW_shape :: gx)) B.pre
  have hgx : ∀ w ∈ gx, w.before _ s = true := fun w h => hts w (List.mem_cons_of_mem _ h)
  have hg : ∀ w ∈ gt, w.before _ s = true := fun w h => hgx w (gx_gt h)
  have htx : ∀ w ∈ tx, w.before _ s = true := fun w h => hgx w (List.mem_append_right _ h)
  have hown : s.vm.findClass R_LW = some m.cls := findClass_of_methodNamed B.named
  have hlocks := B.notSynchronized
  subst hsz
  have hA : ∀ q : Nat, s.heap.size ≤ q → va_A ((pg_w ad cs rp M) ++ (wo cJ ao f)) s.heap.size q := fun q h => Or.inr h
  have hD : va_D (va_A ((pg_w ad cs rp M) ++ (wo cJ ao f)) s.heap.size) (pg_w ad cs rp M) := lw_Dl hD0
  have hD2 : va_D (va_A ((pg_w ad cs rp M) ++ (wo cJ ao f)) s.heap.size) (wo cJ ao f) := lw_Dr hD20
  have hDs : va_D (va_A (pg_w ad cs rp M) s.heap.size) (pg_w ad cs rp M) := hD0.self
  have hD2s : va_D (va_A (wo cJ ao f) s.heap.size) (wo cJ ao f) := hD20.self
  have hS : va_S (va_A ((pg_w ad cs rp M) ++ (wo cJ ao f)) s.heap.size) s.heap s.heap [] := va_S.rf
  have hl := lv_entry ([.ref (ad (0)), .int (iI (x)), .int (iI (wh)), .int (iI (v))]) (n := 5) (Nat.le_of_ble_eq_true rfl)
  rw [lg_entry_eq]
  generalize (lg_sl ([.ref (ad (0)), .int (iI (x)), .int (iI (wh)), .int (iI (v))]) ++ List.replicate (5 - (lg_sl ([.ref (ad (0)), .int (iI (x)), .int (iI (wh)), .int (iI (v))])).length) Slot.unset).toArray = ls at hl ⊢
  have hl : lv_has ls 5 [(0, .ref (ad (0))), (1, .int (iI (x))), (2, .int (iI (wh))), (3, .int (iI (v)))] := hl
  refine lv_aload_n hx hb d_LW_shape_0 rfl (lv_at hl 0 rfl) ?_
  refine lv_iload_n hx hb d_LW_shape_1 rfl (lv_at hl 1 rfl) ?_
  refine lv_iload_n hx hb d_LW_shape_2 rfl (lv_at hl 2 rfl) ?_
  refine lv_iload_n hx hb d_LW_shape_3 rfl (lv_at hl 3 rfl) ?_
  refine lw_Vv (As := [.int (iI (x)), .int (iI (wh)), .int (iI (v))]) (rest := []) (w' := pg_w ad cs rp (mset (q_fg M) (30 + 4 * x.toNat) wh.toNat v)) ⟨hx, hb, hml, hown, hg⟩ (c_shape l _ np x wh v hx0 hw hv hnp hn h0 h1) (cwV 3 hg (gt_V (List.mem_append_right _ (List.mem_append_right _ (List.mem_append_right _ (List.mem_append_right _ (List.mem_append_right _ (List.mem_append_right _ (List.mem_append_right _ (List.mem_append_right _ (List.mem_append_right _ (List.mem_append_right _ (List.mem_append_right _ (List.mem_append_left _ (List.mem_of_getElem? (i := 22) rfl))))))))))))) (List.mem_append_right _ (List.mem_append_right _ (List.mem_append_right _ (List.mem_append_right _ (List.mem_append_right _ (List.mem_append_right _ (List.mem_append_right _ (List.mem_append_right _ (List.mem_append_right _ (List.mem_append_right _ (List.mem_append_right _ (List.mem_append_left _ (List.mem_of_getElem? (i := 23) rfl))))))))))))) (List.mem_append_right _ (List.mem_append_right _ (List.mem_append_right _ (List.mem_append_right _ (List.mem_append_right _ (List.mem_append_right _ (List.mem_append_right _ (List.mem_append_right _ (List.mem_append_right _ (List.mem_append_right _ (List.mem_append_right _ (List.mem_append_left _ (List.mem_of_getElem? (i := 24) rfl))))))))))))) (List.mem_append_right _ (List.mem_append_left _ (List.mem_of_getElem? (i := 2) rfl))) (List.mem_append_right _ (List.mem_append_right _ (List.mem_append_right _ (List.mem_append_right _ (List.mem_append_right _ (List.mem_append_right _ (List.mem_append_right _ (List.mem_append_right _ (List.mem_append_right _ (List.mem_append_right _ (List.mem_append_right _ (List.mem_append_left _ (List.mem_of_getElem? (i := 25) rfl)))))))))))))) rfl rfl rfl (by decide +kernel) ⟨Nat.le_of_ble_eq_true rfl, Nat.le_of_ble_eq_true rfl⟩) rz_blind (fun U hU hW => ⟨⟨by rw [hU], by rw [hU]; exact hP, va_K.moved hW.alike hK, hD.weaken (fun _ _ _ _ => trivial)⟩, hT.kept hW (fun q hq => by rw [hU])⟩) hD hS hA (va_recv hK hP (ci := 0) (q0 := 0) rfl (wl_atE (by decide) rfl)) rfl hl.1 rfl (Nat.le_of_ble_eq_true rfl) d_LW_shape_4 ⟨Nat.zero_le _, Nat.zero_le _⟩ (fun H1 locs1 hPn hDn hDq hSn hk => ?_)
  have hP2n := z_keep hP2 hdj hk
  refine lv_goto (tgt := 18) hx hb d_LW_shape_7 (by decide) ?_
  refine z_iconst hx hb (z := 0) d_LW_shape_18 ?_
  refine W.widen (k := 1) (n := 6) (by decide) (by decide) ?_
  exact W.iret (v := iI 0) hx hb hr (fun t ht hW => ⟨⟨_, (), rfl, rfl, by rw [ht]; exact hPn, by rw [ht]; exact hP2n, hDq, lw_Do hD2s⟩, hSn.F ht⟩) hSn.2.2 d_LW_shape_19
set_option maxHeartbeats 4000000 in
set_option maxRecDepth 100000 in
theorem w_shape_N (l : Launch) (hfl : l.flags = flags0) {D : va_G} {ad : Nat → Nat} {cs : pg_C} {rp : Option Nat} {M : Nat → Nat → Int} {cJ : ClassId} {ao : Nat} {f : Nat → Int64} (sz : Nat) (np : Nat) (x wh v : Int) (hx0 : zb x) (hw : zb wh) (hv : zb v) (hnp : M 1 4 = ((np : Nat) : Int)) (hn : np ≤ 30) (h0 : ¬ inn x 0 (((np : Nat) : Int) - 1)) : Met l y_LW_shape (.codeWith y_LW_shape b_LW_shape 5 (some .int) h_LW_shape :: gx) ({ frames := 7, cells := 1, slots := 6, locals := 110 } : Room) (va_Pc [.ref (ad (0)), .int (iI (x)), .int (iI (wh)), .int (iI (v))] (lp_B D vwCl (pg_tys cs) (pg_w ad cs rp M) (wo cJ ao f) cJ sz)) (va_Qi (fun (r : Int32) (_ : Unit) => r = iI 1) (lp_E D vwCl (pg_w ad cs rp M) (wo cJ ao f) (pg_w ad cs rp (M)) (wo cJ ao (f)) sz) (va_A ((pg_w ad cs rp M) ++ (wo cJ ao f)) sz)) 1 6 (va_A ((pg_w ad cs rp M) ++ (wo cJ ao f)) sz) := by
  refine va_MetW (cc := b_LW_shape) (maxL := 5) (ret := (some .int)) (hh := h_LW_shape) (by decide) rfl ?_
  intro p e s m args below meth c s₁ B hml hv
  obtain ⟨rfl, ⟨⟨hsz, hP, hK, hD0⟩, hT⟩, hP2, hKJ, hdj, hD20⟩ := hv
  have hx := B.exec
  have hb := B.bytes
  have hr := B.returns
  have hts := atoms_spec (ws := (.codeWith y_LW_shape b_LW_shape 5 (some .int) h_LW_shape :: gx)) B.pre
  have hgx : ∀ w ∈ gx, w.before _ s = true := fun w h => hts w (List.mem_cons_of_mem _ h)
  have hg : ∀ w ∈ gt, w.before _ s = true := fun w h => hgx w (gx_gt h)
  have htx : ∀ w ∈ tx, w.before _ s = true := fun w h => hgx w (List.mem_append_right _ h)
  have hown : s.vm.findClass R_LW = some m.cls := findClass_of_methodNamed B.named
  have hlocks := B.notSynchronized
  subst hsz
  have hA : ∀ q : Nat, s.heap.size ≤ q → va_A ((pg_w ad cs rp M) ++ (wo cJ ao f)) s.heap.size q := fun q h => Or.inr h
  have hD : va_D (va_A ((pg_w ad cs rp M) ++ (wo cJ ao f)) s.heap.size) (pg_w ad cs rp M) := lw_Dl hD0
  have hD2 : va_D (va_A ((pg_w ad cs rp M) ++ (wo cJ ao f)) s.heap.size) (wo cJ ao f) := lw_Dr hD20
  have hDs : va_D (va_A (pg_w ad cs rp M) s.heap.size) (pg_w ad cs rp M) := hD0.self
  have hD2s : va_D (va_A (wo cJ ao f) s.heap.size) (wo cJ ao f) := hD20.self
  have hS : va_S (va_A ((pg_w ad cs rp M) ++ (wo cJ ao f)) s.heap.size) s.heap s.heap [] := va_S.rf
  have hl := lv_entry ([.ref (ad (0)), .int (iI (x)), .int (iI (wh)), .int (iI (v))]) (n := 5) (Nat.le_of_ble_eq_true rfl)
  rw [lg_entry_eq]
  generalize (lg_sl ([.ref (ad (0)), .int (iI (x)), .int (iI (wh)), .int (iI (v))]) ++ List.replicate (5 - (lg_sl ([.ref (ad (0)), .int (iI (x)), .int (iI (wh)), .int (iI (v))])).length) Slot.unset).toArray = ls at hl ⊢
  have hl : lv_has ls 5 [(0, .ref (ad (0))), (1, .int (iI (x))), (2, .int (iI (wh))), (3, .int (iI (v)))] := hl
  refine lv_aload_n hx hb d_LW_shape_0 rfl (lv_at hl 0 rfl) ?_
  refine lv_iload_n hx hb d_LW_shape_1 rfl (lv_at hl 1 rfl) ?_
  refine lv_iload_n hx hb d_LW_shape_2 rfl (lv_at hl 2 rfl) ?_
  refine lv_iload_n hx hb d_LW_shape_3 rfl (lv_at hl 3 rfl) ?_
  obtain ⟨m9, meth9, c9, hn9, hm9, hc9, -, -, ht9, -⟩ := Cond.codeWith_spec (hts _ List.mem_cons_self)
  cases B.named.symm.trans hn9
  cases B.method.symm.trans hm9
  cases (Stand.of_body B).code.symm.trans hc9
  have htab := z_tab ht9
  have hcat := hT.at htx
  refine z_tryV (X := z_NSE) (As := [.int (iI (x)), .int (iI (wh)), .int (iI (v))]) (rest := []) ⟨hx, hb, hml, hown, hgx⟩ (t_shape_N l hfl np x wh v hx0 hw hv hnp hn h0) (cwV 3 hgx (gx_V (fun _ h => h) (gx_gt (List.mem_append_right _ (List.mem_append_right _ (List.mem_append_right _ (List.mem_append_right _ (List.mem_append_right _ (List.mem_append_right _ (List.mem_append_right _ (List.mem_append_right _ (List.mem_append_right _ (List.mem_append_right _ (List.mem_append_right _ (List.mem_append_left _ (List.mem_of_getElem? (i := 22) rfl)))))))))))))) (gx_gt (List.mem_append_right _ (List.mem_append_right _ (List.mem_append_right _ (List.mem_append_right _ (List.mem_append_right _ (List.mem_append_right _ (List.mem_append_right _ (List.mem_append_right _ (List.mem_append_right _ (List.mem_append_right _ (List.mem_append_right _ (List.mem_append_left _ (List.mem_of_getElem? (i := 23) rfl)))))))))))))) (gx_gt (List.mem_append_right _ (List.mem_append_right _ (List.mem_append_right _ (List.mem_append_right _ (List.mem_append_right _ (List.mem_append_right _ (List.mem_append_right _ (List.mem_append_right _ (List.mem_append_right _ (List.mem_append_right _ (List.mem_append_right _ (List.mem_append_left _ (List.mem_of_getElem? (i := 24) rfl)))))))))))))) (gx_gt (List.mem_append_right _ (List.mem_append_left _ (List.mem_of_getElem? (i := 2) rfl)))) (gx_gt (List.mem_append_right _ (List.mem_append_right _ (List.mem_append_right _ (List.mem_append_right _ (List.mem_append_right _ (List.mem_append_right _ (List.mem_append_right _ (List.mem_append_right _ (List.mem_append_right _ (List.mem_append_right _ (List.mem_append_right _ (List.mem_append_left _ (List.mem_of_getElem? (i := 25) rfl))))))))))))))) rfl rfl rfl (by decide +kernel) ⟨Nat.le_of_ble_eq_true rfl, Nat.le_of_ble_eq_true rfl⟩) ⟨rt_blind, (va_recv hK hP (ci := 0) (q0 := 0) rfl (wl_atE (by decide) rfl)), fun U hU hW => ⟨rfl, ⟨by rw [hU]; exact hP, va_K.moved hW.alike hK⟩, hT.kept hW (fun q hq => by rw [hU])⟩⟩ rfl hl.1 rfl (Nat.le_of_ble_eq_true rfl) d_LW_shape_4 ⟨Nat.le_of_ble_eq_true rfl, Nat.le_of_ble_eq_true rfl⟩ [] { startPc := 0, endPc := 7, handlerPc := 10, catchType := 19 } [{ startPc := 0, endPc := 7, handlerPc := 14, catchType := 21 }] htab (fun q hq => by cases hq) (by decide) (by decide) (hcat (.classLink "PageLayoutLaw" 19 z_NSE) (lw_more (by simp [z_more]))) (hcat (.castable z_NSE z_NSE) (lw_more (by simp [z_more]))) (fun H1 hz1 hk1 => ?_)
  have hPn := z_keep (w := []) hP (fun i j p q h1 h2 => by simp at h1) (fun q h1 _ => hk1 q h1)
  have hP2n := z_keep (w := []) hP2 (fun i j p q h1 h2 => by simp at h1) (fun q h1 _ => hk1 q h1)
  refine lv_astore (x := s.heap.size) (lv' := [(4, .ref s.heap.size), (0, .ref (ad (0))), (1, .int (iI (x))), (2, .int (iI (wh))), (3, .int (iI (v)))]) hx hb d_LW_shape_10 hl (by decide) rfl (fun ls hl => ?_)
  refine z_iconst hx hb (z := 1) d_LW_shape_12 ?_
  have hSn : va_S (va_A (pg_w ad cs rp M ++ wo cJ ao f) s.heap.size) s.heap H1 [] := ⟨hz1, fun q h1 _ => hk1 q h1, fun _ h => by cases h⟩
  exact W.iret (v := iI 1) hx hb hr (fun t ht hW => ⟨⟨_, (), rfl, rfl, by rw [ht]; exact hPn, by rw [ht]; exact hP2n, hDs, hD2s⟩, hSn.F ht⟩) hSn.2.2 d_LW_shape_13
set_option maxHeartbeats 4000000 in
set_option maxRecDepth 100000 in
theorem w_shape_A (l : Launch) (hfl : l.flags = flags0) {D : va_G} {ad : Nat → Nat} {cs : pg_C} {rp : Option Nat} {M : Nat → Nat → Int} {cJ : ClassId} {ao : Nat} {f : Nat → Int64} (sz : Nat) (np : Nat) (x wh v : Int) (hx0 : zb x) (hw : zb wh) (hv : zb v) (hnp : M 1 4 = ((np : Nat) : Int)) (hn : np ≤ 30) (h0 : inn x 0 (((np : Nat) : Int) - 1)) (h1 : ¬ (inn wh 0 10 ∧ inn v (r_least wh) (r_most wh))) : Met l y_LW_shape (.codeWith y_LW_shape b_LW_shape 5 (some .int) h_LW_shape :: gx) ({ frames := 7, cells := 1, slots := 6, locals := 110 } : Room) (va_Pc [.ref (ad (0)), .int (iI (x)), .int (iI (wh)), .int (iI (v))] (lp_B D vwCl (pg_tys cs) (pg_w ad cs rp M) (wo cJ ao f) cJ sz)) (va_Qi (fun (r : Int32) (_ : Unit) => r = iI 2) (lp_E D vwCl (pg_w ad cs rp M) (wo cJ ao f) (pg_w ad cs rp (M)) (wo cJ ao (f)) sz) (va_A ((pg_w ad cs rp M) ++ (wo cJ ao f)) sz)) 1 6 (va_A ((pg_w ad cs rp M) ++ (wo cJ ao f)) sz) := by
  refine va_MetW (cc := b_LW_shape) (maxL := 5) (ret := (some .int)) (hh := h_LW_shape) (by decide) rfl ?_
  intro p e s m args below meth c s₁ B hml hv
  obtain ⟨rfl, ⟨⟨hsz, hP, hK, hD0⟩, hT⟩, hP2, hKJ, hdj, hD20⟩ := hv
  have hx := B.exec
  have hb := B.bytes
  have hr := B.returns
  have hts := atoms_spec (ws := (.codeWith y_LW_shape b_LW_shape 5 (some .int) h_LW_shape :: gx)) B.pre
  have hgx : ∀ w ∈ gx, w.before _ s = true := fun w h => hts w (List.mem_cons_of_mem _ h)
  have hg : ∀ w ∈ gt, w.before _ s = true := fun w h => hgx w (gx_gt h)
  have htx : ∀ w ∈ tx, w.before _ s = true := fun w h => hgx w (List.mem_append_right _ h)
  have hown : s.vm.findClass R_LW = some m.cls := findClass_of_methodNamed B.named
  have hlocks := B.notSynchronized
  subst hsz
  have hA : ∀ q : Nat, s.heap.size ≤ q → va_A ((pg_w ad cs rp M) ++ (wo cJ ao f)) s.heap.size q := fun q h => Or.inr h
  have hD : va_D (va_A ((pg_w ad cs rp M) ++ (wo cJ ao f)) s.heap.size) (pg_w ad cs rp M) := lw_Dl hD0
  have hD2 : va_D (va_A ((pg_w ad cs rp M) ++ (wo cJ ao f)) s.heap.size) (wo cJ ao f) := lw_Dr hD20
  have hDs : va_D (va_A (pg_w ad cs rp M) s.heap.size) (pg_w ad cs rp M) := hD0.self
  have hD2s : va_D (va_A (wo cJ ao f) s.heap.size) (wo cJ ao f) := hD20.self
  have hS : va_S (va_A ((pg_w ad cs rp M) ++ (wo cJ ao f)) s.heap.size) s.heap s.heap [] := va_S.rf
  have hl := lv_entry ([.ref (ad (0)), .int (iI (x)), .int (iI (wh)), .int (iI (v))]) (n := 5) (Nat.le_of_ble_eq_true rfl)
  rw [lg_entry_eq]
  generalize (lg_sl ([.ref (ad (0)), .int (iI (x)), .int (iI (wh)), .int (iI (v))]) ++ List.replicate (5 - (lg_sl ([.ref (ad (0)), .int (iI (x)), .int (iI (wh)), .int (iI (v))])).length) Slot.unset).toArray = ls at hl ⊢
  have hl : lv_has ls 5 [(0, .ref (ad (0))), (1, .int (iI (x))), (2, .int (iI (wh))), (3, .int (iI (v)))] := hl
  refine lv_aload_n hx hb d_LW_shape_0 rfl (lv_at hl 0 rfl) ?_
  refine lv_iload_n hx hb d_LW_shape_1 rfl (lv_at hl 1 rfl) ?_
  refine lv_iload_n hx hb d_LW_shape_2 rfl (lv_at hl 2 rfl) ?_
  refine lv_iload_n hx hb d_LW_shape_3 rfl (lv_at hl 3 rfl) ?_
  obtain ⟨m9, meth9, c9, hn9, hm9, hc9, -, -, ht9, -⟩ := Cond.codeWith_spec (hts _ List.mem_cons_self)
  cases B.named.symm.trans hn9
  cases B.method.symm.trans hm9
  cases (Stand.of_body B).code.symm.trans hc9
  have htab := z_tab ht9
  have hcat := hT.at htx
  refine z_tryV (X := z_IAE) (As := [.int (iI (x)), .int (iI (wh)), .int (iI (v))]) (rest := []) ⟨hx, hb, hml, hown, hgx⟩ (t_shape_A l hfl np x wh v hx0 hw hv hnp hn h0 h1) (cwV 3 hgx (gx_V (fun _ h => h) (gx_gt (List.mem_append_right _ (List.mem_append_right _ (List.mem_append_right _ (List.mem_append_right _ (List.mem_append_right _ (List.mem_append_right _ (List.mem_append_right _ (List.mem_append_right _ (List.mem_append_right _ (List.mem_append_right _ (List.mem_append_right _ (List.mem_append_left _ (List.mem_of_getElem? (i := 22) rfl)))))))))))))) (gx_gt (List.mem_append_right _ (List.mem_append_right _ (List.mem_append_right _ (List.mem_append_right _ (List.mem_append_right _ (List.mem_append_right _ (List.mem_append_right _ (List.mem_append_right _ (List.mem_append_right _ (List.mem_append_right _ (List.mem_append_right _ (List.mem_append_left _ (List.mem_of_getElem? (i := 23) rfl)))))))))))))) (gx_gt (List.mem_append_right _ (List.mem_append_right _ (List.mem_append_right _ (List.mem_append_right _ (List.mem_append_right _ (List.mem_append_right _ (List.mem_append_right _ (List.mem_append_right _ (List.mem_append_right _ (List.mem_append_right _ (List.mem_append_right _ (List.mem_append_left _ (List.mem_of_getElem? (i := 24) rfl)))))))))))))) (gx_gt (List.mem_append_right _ (List.mem_append_left _ (List.mem_of_getElem? (i := 2) rfl)))) (gx_gt (List.mem_append_right _ (List.mem_append_right _ (List.mem_append_right _ (List.mem_append_right _ (List.mem_append_right _ (List.mem_append_right _ (List.mem_append_right _ (List.mem_append_right _ (List.mem_append_right _ (List.mem_append_right _ (List.mem_append_right _ (List.mem_append_left _ (List.mem_of_getElem? (i := 25) rfl))))))))))))))) rfl rfl rfl (by decide +kernel) ⟨Nat.le_of_ble_eq_true rfl, Nat.le_of_ble_eq_true rfl⟩) ⟨rt_blind, (va_recv hK hP (ci := 0) (q0 := 0) rfl (wl_atE (by decide) rfl)), fun U hU hW => ⟨rfl, ⟨by rw [hU]; exact hP, va_K.moved hW.alike hK⟩, hT.kept hW (fun q hq => by rw [hU])⟩⟩ rfl hl.1 rfl (Nat.le_of_ble_eq_true rfl) d_LW_shape_4 ⟨Nat.le_of_ble_eq_true rfl, Nat.le_of_ble_eq_true rfl⟩ [({ startPc := 0, endPc := 7, handlerPc := 10, catchType := 19 }, z_NSE)] { startPc := 0, endPc := 7, handlerPc := 14, catchType := 21 } [] htab (List.forall_mem_cons.mpr ⟨⟨by decide, by decide, (hcat (.classLink "PageLayoutLaw" 19 z_NSE) (lw_more (by simp [z_more]))), hT.2.2.1.1⟩, fun q hq => by cases hq⟩) (by decide) (by decide) (hcat (.classLink "PageLayoutLaw" 21 z_IAE) (lw_more (by simp [z_more]))) (hcat (.castable z_IAE z_IAE) (lw_more (by simp [z_more]))) (fun H1 hz1 hk1 => ?_)
  have hPn := z_keep (w := []) hP (fun i j p q h1 h2 => by simp at h1) (fun q h1 _ => hk1 q h1)
  have hP2n := z_keep (w := []) hP2 (fun i j p q h1 h2 => by simp at h1) (fun q h1 _ => hk1 q h1)
  refine lv_astore (x := s.heap.size) (lv' := [(4, .ref s.heap.size), (0, .ref (ad (0))), (1, .int (iI (x))), (2, .int (iI (wh))), (3, .int (iI (v)))]) hx hb d_LW_shape_14 hl (by decide) rfl (fun ls hl => ?_)
  refine z_iconst hx hb (z := 2) d_LW_shape_16 ?_
  have hSn : va_S (va_A (pg_w ad cs rp M ++ wo cJ ao f) s.heap.size) s.heap H1 [] := ⟨hz1, fun q h1 _ => hk1 q h1, fun _ h => by cases h⟩
  exact W.iret (v := iI 2) hx hb hr (fun t ht hW => ⟨⟨_, (), rfl, rfl, by rw [ht]; exact hPn, by rw [ht]; exact hP2n, hDs, hD2s⟩, hSn.F ht⟩) hSn.2.2 d_LW_shape_17
set_option maxHeartbeats 4000000 in
set_option maxRecDepth 100000 in
theorem w_stop_0 (l : Launch) (hfl : l.flags = flags0) {D : va_G} {ad : Nat → Nat} {cs : pg_C} {rp : Option Nat} {M : Nat → Nat → Int} {cJ : ClassId} {ao : Nat} {f : Nat → Int64} (sz : Nat) (np : Nat) (x at_ k : Int) (hx0 : zb x) (hw : zb at_) (hv : zb k) (hnp : M 1 4 = ((np : Nat) : Int)) (hn : np ≤ 30) (q n : Nat) (hxq : x = ((q : Nat) : Int)) (hqn : q < np) (hwf : wfP M q n) (h1 : inn at_ (p_last n (M (31 + 4 * q)) + 1) 30000 ∧ inn k 0 2) (h2 : n < 8) : Met l y_LW_stop (.codeWith y_LW_stop b_LW_stop 6 (some .int) h_LW_stop :: gx) ({ frames := 7, cells := 1, slots := 6, locals := 110 } : Room) (va_Pc [.ref (ad (0)), .int (iI (x)), .int (iI (at_)), .int (iI (k)), .ref ao] (lp_B D vwCl (pg_tys cs) (pg_w ad cs rp M) (wo cJ ao f) cJ sz)) (va_Qi (fun (r : Int32) (_ : Unit) => r = iI 0) (lp_E D vwCl (pg_w ad cs rp M) (wo cJ ao f) (pg_w ad cs rp (q_stp (q_fg M) q n at_ k)) (wo cJ ao (fun _ => (iI (((n : Nat) : Int) + 1)).toInt64)) sz) (va_A ((pg_w ad cs rp M) ++ (wo cJ ao f)) sz)) 1 6 (va_A ((pg_w ad cs rp M) ++ (wo cJ ao f)) sz) := by
  refine va_MetW (cc := b_LW_stop) (maxL := 6) (ret := (some .int)) (hh := h_LW_stop) (by decide) rfl ?_
  intro p e s m args below meth c s₁ B hml hv
  obtain ⟨rfl, ⟨⟨hsz, hP, hK, hD0⟩, hT⟩, hP2, hKJ, hdj, hD20⟩ := hv
  have hx := B.exec
  have hb := B.bytes
  have hr := B.returns
  have hts := atoms_spec (ws := (.codeWith y_LW_stop b_LW_stop 6 (some .int) h_LW_stop :: gx)) B.pre
  have hgx : ∀ w ∈ gx, w.before _ s = true := fun w h => hts w (List.mem_cons_of_mem _ h)
  have hg : ∀ w ∈ gt, w.before _ s = true := fun w h => hgx w (gx_gt h)
  have htx : ∀ w ∈ tx, w.before _ s = true := fun w h => hgx w (List.mem_append_right _ h)
  have hown : s.vm.findClass R_LW = some m.cls := findClass_of_methodNamed B.named
  have hlocks := B.notSynchronized
  subst hsz
  have hA : ∀ q : Nat, s.heap.size ≤ q → va_A ((pg_w ad cs rp M) ++ (wo cJ ao f)) s.heap.size q := fun q h => Or.inr h
  have hD : va_D (va_A ((pg_w ad cs rp M) ++ (wo cJ ao f)) s.heap.size) (pg_w ad cs rp M) := lw_Dl hD0
  have hD2 : va_D (va_A ((pg_w ad cs rp M) ++ (wo cJ ao f)) s.heap.size) (wo cJ ao f) := lw_Dr hD20
  have hDs : va_D (va_A (pg_w ad cs rp M) s.heap.size) (pg_w ad cs rp M) := hD0.self
  have hD2s : va_D (va_A (wo cJ ao f) s.heap.size) (wo cJ ao f) := hD20.self
  have hS : va_S (va_A ((pg_w ad cs rp M) ++ (wo cJ ao f)) s.heap.size) s.heap s.heap [] := va_S.rf
  have hl := lv_entry ([.ref (ad (0)), .int (iI (x)), .int (iI (at_)), .int (iI (k)), .ref ao]) (n := 6) (Nat.le_of_ble_eq_true rfl)
  rw [lg_entry_eq]
  generalize (lg_sl ([.ref (ad (0)), .int (iI (x)), .int (iI (at_)), .int (iI (k)), .ref ao]) ++ List.replicate (6 - (lg_sl ([.ref (ad (0)), .int (iI (x)), .int (iI (at_)), .int (iI (k)), .ref ao])).length) Slot.unset).toArray = ls at hl ⊢
  have hl : lv_has ls 6 [(0, .ref (ad (0))), (1, .int (iI (x))), (2, .int (iI (at_))), (3, .int (iI (k))), (4, .ref ao)] := hl
  refine lv_aload hx hb d_LW_stop_0 (lv_at hl 4 rfl) ?_
  refine z_iconst hx hb (z := 0) d_LW_stop_2 ?_
  refine lv_aload_n hx hb d_LW_stop_3 rfl (lv_at hl 0 rfl) ?_
  refine lv_iload_n hx hb d_LW_stop_4 rfl (lv_at hl 1 rfl) ?_
  refine lv_iload_n hx hb d_LW_stop_5 rfl (lv_at hl 2 rfl) ?_
  refine lv_iload_n hx hb d_LW_stop_6 rfl (lv_at hl 3 rfl) ?_
  refine lw_Vi (As := [.int (iI (x)), .int (iI (at_)), .int (iI (k))]) (rest := [.int (iI (0)), .ref ao]) (w' := pg_w ad cs rp (q_stp (q_fg M) q n at_ k)) (z := ((n : Nat) : Int) + 1) ⟨hx, hb, hml, hown, hg⟩ (c_stop l _ np x at_ k hx0 hw hv hnp hn q n hxq hqn hwf h1 h2) (cwV 3 hg (gt_V (List.mem_append_right _ (List.mem_append_right _ (List.mem_append_right _ (List.mem_append_right _ (List.mem_append_right _ (List.mem_append_right _ (List.mem_append_right _ (List.mem_append_right _ (List.mem_append_right _ (List.mem_append_right _ (List.mem_append_right _ (List.mem_append_left _ (List.mem_of_getElem? (i := 30) rfl))))))))))))) (List.mem_append_right _ (List.mem_append_right _ (List.mem_append_right _ (List.mem_append_right _ (List.mem_append_right _ (List.mem_append_right _ (List.mem_append_right _ (List.mem_append_right _ (List.mem_append_right _ (List.mem_append_right _ (List.mem_append_right _ (List.mem_append_left _ (List.mem_of_getElem? (i := 31) rfl))))))))))))) (List.mem_append_right _ (List.mem_append_right _ (List.mem_append_right _ (List.mem_append_right _ (List.mem_append_right _ (List.mem_append_right _ (List.mem_append_right _ (List.mem_append_right _ (List.mem_append_right _ (List.mem_append_right _ (List.mem_append_right _ (List.mem_append_left _ (List.mem_of_getElem? (i := 32) rfl))))))))))))) (List.mem_append_right _ (List.mem_append_left _ (List.mem_of_getElem? (i := 2) rfl))) (List.mem_append_right _ (List.mem_append_right _ (List.mem_append_right _ (List.mem_append_right _ (List.mem_append_right _ (List.mem_append_right _ (List.mem_append_right _ (List.mem_append_right _ (List.mem_append_right _ (List.mem_append_right _ (List.mem_append_right _ (List.mem_append_left _ (List.mem_of_getElem? (i := 33) rfl)))))))))))))) rfl rfl rfl (by decide +kernel) ⟨Nat.le_of_ble_eq_true rfl, Nat.le_of_ble_eq_true rfl⟩) rw_blind (fun U hU hW => ⟨by rw [hU], by rw [hU]; exact hP, va_K.moved hW.alike hK, hD.weaken (fun _ _ _ _ => trivial)⟩) hD hS hA (va_recv hK hP (ci := 0) (q0 := 0) rfl (wl_atE (by decide) rfl)) rfl hl.1 rfl (Nat.le_of_ble_eq_true rfl) d_LW_stop_7 ⟨Nat.zero_le _, Nat.zero_le _⟩ (fun H1 locs1 hPn hDn hDq hSn hk => ?_)
  have hP2n := z_keep hP2 hdj hk
  refine lv_i2l hx hb d_LW_stop_10 rfl ?_
  refine lw_last (v := (iI (((n : Nat) : Int) + 1)).toInt64) hx hb hKJ hPn hP2n hDn hD2 (pg_dj hdj) hSn d_LW_stop_11 (fun H2 locs2 hPn hP2n hSn => ?_)
  refine lv_goto (tgt := 27) hx hb d_LW_stop_12 (by decide) ?_
  refine z_iconst hx hb (z := 0) d_LW_stop_27 ?_
  refine W.widen (k := 1) (n := 6) (by decide) (by decide) ?_
  exact W.iret (v := iI 0) hx hb hr (fun t ht hW => ⟨⟨_, (), rfl, rfl, by rw [ht]; exact hPn, by rw [ht]; exact hP2n, hDq, lw_Do hD2s⟩, hSn.F ht⟩) hSn.2.2 d_LW_stop_28
set_option maxHeartbeats 4000000 in
set_option maxRecDepth 100000 in
theorem w_stop_N (l : Launch) (hfl : l.flags = flags0) {D : va_G} {ad : Nat → Nat} {cs : pg_C} {rp : Option Nat} {M : Nat → Nat → Int} {cJ : ClassId} {ao : Nat} {f : Nat → Int64} (sz : Nat) (np : Nat) (x at_ k : Int) (hx0 : zb x) (hw : zb at_) (hv : zb k) (hnp : M 1 4 = ((np : Nat) : Int)) (hn : np ≤ 30) (h0 : ¬ inn x 0 (((np : Nat) : Int) - 1)) : Met l y_LW_stop (.codeWith y_LW_stop b_LW_stop 6 (some .int) h_LW_stop :: gx) ({ frames := 7, cells := 1, slots := 6, locals := 110 } : Room) (va_Pc [.ref (ad (0)), .int (iI (x)), .int (iI (at_)), .int (iI (k)), .ref ao] (lp_B D vwCl (pg_tys cs) (pg_w ad cs rp M) (wo cJ ao f) cJ sz)) (va_Qi (fun (r : Int32) (_ : Unit) => r = iI 1) (lp_E D vwCl (pg_w ad cs rp M) (wo cJ ao f) (pg_w ad cs rp (M)) (wo cJ ao (f)) sz) (va_A ((pg_w ad cs rp M) ++ (wo cJ ao f)) sz)) 1 6 (va_A ((pg_w ad cs rp M) ++ (wo cJ ao f)) sz) := by
  refine va_MetW (cc := b_LW_stop) (maxL := 6) (ret := (some .int)) (hh := h_LW_stop) (by decide) rfl ?_
  intro p e s m args below meth c s₁ B hml hv
  obtain ⟨rfl, ⟨⟨hsz, hP, hK, hD0⟩, hT⟩, hP2, hKJ, hdj, hD20⟩ := hv
  have hx := B.exec
  have hb := B.bytes
  have hr := B.returns
  have hts := atoms_spec (ws := (.codeWith y_LW_stop b_LW_stop 6 (some .int) h_LW_stop :: gx)) B.pre
  have hgx : ∀ w ∈ gx, w.before _ s = true := fun w h => hts w (List.mem_cons_of_mem _ h)
  have hg : ∀ w ∈ gt, w.before _ s = true := fun w h => hgx w (gx_gt h)
  have htx : ∀ w ∈ tx, w.before _ s = true := fun w h => hgx w (List.mem_append_right _ h)
  have hown : s.vm.findClass R_LW = some m.cls := findClass_of_methodNamed B.named
  have hlocks := B.notSynchronized
  subst hsz
  have hA : ∀ q : Nat, s.heap.size ≤ q → va_A ((pg_w ad cs rp M) ++ (wo cJ ao f)) s.heap.size q := fun q h => Or.inr h
  have hD : va_D (va_A ((pg_w ad cs rp M) ++ (wo cJ ao f)) s.heap.size) (pg_w ad cs rp M) := lw_Dl hD0
  have hD2 : va_D (va_A ((pg_w ad cs rp M) ++ (wo cJ ao f)) s.heap.size) (wo cJ ao f) := lw_Dr hD20
  have hDs : va_D (va_A (pg_w ad cs rp M) s.heap.size) (pg_w ad cs rp M) := hD0.self
  have hD2s : va_D (va_A (wo cJ ao f) s.heap.size) (wo cJ ao f) := hD20.self
  have hS : va_S (va_A ((pg_w ad cs rp M) ++ (wo cJ ao f)) s.heap.size) s.heap s.heap [] := va_S.rf
  have hl := lv_entry ([.ref (ad (0)), .int (iI (x)), .int (iI (at_)), .int (iI (k)), .ref ao]) (n := 6) (Nat.le_of_ble_eq_true rfl)
  rw [lg_entry_eq]
  generalize (lg_sl ([.ref (ad (0)), .int (iI (x)), .int (iI (at_)), .int (iI (k)), .ref ao]) ++ List.replicate (6 - (lg_sl ([.ref (ad (0)), .int (iI (x)), .int (iI (at_)), .int (iI (k)), .ref ao])).length) Slot.unset).toArray = ls at hl ⊢
  have hl : lv_has ls 6 [(0, .ref (ad (0))), (1, .int (iI (x))), (2, .int (iI (at_))), (3, .int (iI (k))), (4, .ref ao)] := hl
  refine lv_aload hx hb d_LW_stop_0 (lv_at hl 4 rfl) ?_
  refine z_iconst hx hb (z := 0) d_LW_stop_2 ?_
  refine lv_aload_n hx hb d_LW_stop_3 rfl (lv_at hl 0 rfl) ?_
  refine lv_iload_n hx hb d_LW_stop_4 rfl (lv_at hl 1 rfl) ?_
  refine lv_iload_n hx hb d_LW_stop_5 rfl (lv_at hl 2 rfl) ?_
  refine lv_iload_n hx hb d_LW_stop_6 rfl (lv_at hl 3 rfl) ?_
  obtain ⟨m9, meth9, c9, hn9, hm9, hc9, -, -, ht9, -⟩ := Cond.codeWith_spec (hts _ List.mem_cons_self)
  cases B.named.symm.trans hn9
  cases B.method.symm.trans hm9
  cases (Stand.of_body B).code.symm.trans hc9
  have htab := z_tab ht9
  have hcat := hT.at htx
  refine z_tryV (X := z_NSE) (As := [.int (iI (x)), .int (iI (at_)), .int (iI (k))]) (rest := [.int (iI (0)), .ref ao]) ⟨hx, hb, hml, hown, hgx⟩ (t_stop_N l hfl np x at_ k hx0 hw hv hnp hn h0) (cwV 3 hgx (gx_V (fun _ h => h) (gx_gt (List.mem_append_right _ (List.mem_append_right _ (List.mem_append_right _ (List.mem_append_right _ (List.mem_append_right _ (List.mem_append_right _ (List.mem_append_right _ (List.mem_append_right _ (List.mem_append_right _ (List.mem_append_right _ (List.mem_append_right _ (List.mem_append_left _ (List.mem_of_getElem? (i := 30) rfl)))))))))))))) (gx_gt (List.mem_append_right _ (List.mem_append_right _ (List.mem_append_right _ (List.mem_append_right _ (List.mem_append_right _ (List.mem_append_right _ (List.mem_append_right _ (List.mem_append_right _ (List.mem_append_right _ (List.mem_append_right _ (List.mem_append_right _ (List.mem_append_left _ (List.mem_of_getElem? (i := 31) rfl)))))))))))))) (gx_gt (List.mem_append_right _ (List.mem_append_right _ (List.mem_append_right _ (List.mem_append_right _ (List.mem_append_right _ (List.mem_append_right _ (List.mem_append_right _ (List.mem_append_right _ (List.mem_append_right _ (List.mem_append_right _ (List.mem_append_right _ (List.mem_append_left _ (List.mem_of_getElem? (i := 32) rfl)))))))))))))) (gx_gt (List.mem_append_right _ (List.mem_append_left _ (List.mem_of_getElem? (i := 2) rfl)))) (gx_gt (List.mem_append_right _ (List.mem_append_right _ (List.mem_append_right _ (List.mem_append_right _ (List.mem_append_right _ (List.mem_append_right _ (List.mem_append_right _ (List.mem_append_right _ (List.mem_append_right _ (List.mem_append_right _ (List.mem_append_right _ (List.mem_append_left _ (List.mem_of_getElem? (i := 33) rfl))))))))))))))) rfl rfl rfl (by decide +kernel) ⟨Nat.le_of_ble_eq_true rfl, Nat.le_of_ble_eq_true rfl⟩) ⟨rt_blind, (va_recv hK hP (ci := 0) (q0 := 0) rfl (wl_atE (by decide) rfl)), fun U hU hW => ⟨rfl, ⟨by rw [hU]; exact hP, va_K.moved hW.alike hK⟩, hT.kept hW (fun q hq => by rw [hU])⟩⟩ rfl hl.1 rfl (Nat.le_of_ble_eq_true rfl) d_LW_stop_7 ⟨Nat.le_of_ble_eq_true rfl, Nat.le_of_ble_eq_true rfl⟩ [] { startPc := 0, endPc := 12, handlerPc := 15, catchType := 19 } [{ startPc := 0, endPc := 12, handlerPc := 19, catchType := 21 }, { startPc := 0, endPc := 12, handlerPc := 23, catchType := 13 }] htab (fun q hq => by cases hq) (by decide) (by decide) (hcat (.classLink "PageLayoutLaw" 19 z_NSE) (lw_more (by simp [z_more]))) (hcat (.castable z_NSE z_NSE) (lw_more (by simp [z_more]))) (fun H1 hz1 hk1 => ?_)
  have hPn := z_keep (w := []) hP (fun i j p q h1 h2 => by simp at h1) (fun q h1 _ => hk1 q h1)
  have hP2n := z_keep (w := []) hP2 (fun i j p q h1 h2 => by simp at h1) (fun q h1 _ => hk1 q h1)
  refine lv_astore (x := s.heap.size) (lv' := [(5, .ref s.heap.size), (0, .ref (ad (0))), (1, .int (iI (x))), (2, .int (iI (at_))), (3, .int (iI (k))), (4, .ref ao)]) hx hb d_LW_stop_15 hl (by decide) rfl (fun ls hl => ?_)
  refine z_iconst hx hb (z := 1) d_LW_stop_17 ?_
  have hSn : va_S (va_A (pg_w ad cs rp M ++ wo cJ ao f) s.heap.size) s.heap H1 [] := ⟨hz1, fun q h1 _ => hk1 q h1, fun _ h => by cases h⟩
  exact W.iret (v := iI 1) hx hb hr (fun t ht hW => ⟨⟨_, (), rfl, rfl, by rw [ht]; exact hPn, by rw [ht]; exact hP2n, hDs, hD2s⟩, hSn.F ht⟩) hSn.2.2 d_LW_stop_18
set_option maxHeartbeats 4000000 in
set_option maxRecDepth 100000 in
theorem w_stop_A (l : Launch) (hfl : l.flags = flags0) {D : va_G} {ad : Nat → Nat} {cs : pg_C} {rp : Option Nat} {M : Nat → Nat → Int} {cJ : ClassId} {ao : Nat} {f : Nat → Int64} (sz : Nat) (np : Nat) (x at_ k : Int) (hx0 : zb x) (hw : zb at_) (hv : zb k) (hnp : M 1 4 = ((np : Nat) : Int)) (hn : np ≤ 30) (q n : Nat) (hxq : x = ((q : Nat) : Int)) (hqn : q < np) (hwf : wfP M q n) (h1 : ¬ (inn at_ (p_last n (M (31 + 4 * q)) + 1) 30000 ∧ inn k 0 2)) : Met l y_LW_stop (.codeWith y_LW_stop b_LW_stop 6 (some .int) h_LW_stop :: gx) ({ frames := 7, cells := 1, slots := 6, locals := 110 } : Room) (va_Pc [.ref (ad (0)), .int (iI (x)), .int (iI (at_)), .int (iI (k)), .ref ao] (lp_B D vwCl (pg_tys cs) (pg_w ad cs rp M) (wo cJ ao f) cJ sz)) (va_Qi (fun (r : Int32) (_ : Unit) => r = iI 2) (lp_E D vwCl (pg_w ad cs rp M) (wo cJ ao f) (pg_w ad cs rp (M)) (wo cJ ao (f)) sz) (va_A ((pg_w ad cs rp M) ++ (wo cJ ao f)) sz)) 1 6 (va_A ((pg_w ad cs rp M) ++ (wo cJ ao f)) sz) := by
  refine va_MetW (cc := b_LW_stop) (maxL := 6) (ret := (some .int)) (hh := h_LW_stop) (by decide) rfl ?_
  intro p e s m args below meth c s₁ B hml hv
  obtain ⟨rfl, ⟨⟨hsz, hP, hK, hD0⟩, hT⟩, hP2, hKJ, hdj, hD20⟩ := hv
  have hx := B.exec
  have hb := B.bytes
  have hr := B.returns
  have hts := atoms_spec (ws := (.codeWith y_LW_stop b_LW_stop 6 (some .int) h_LW_stop :: gx)) B.pre
  have hgx : ∀ w ∈ gx, w.before _ s = true := fun w h => hts w (List.mem_cons_of_mem _ h)
  have hg : ∀ w ∈ gt, w.before _ s = true := fun w h => hgx w (gx_gt h)
  have htx : ∀ w ∈ tx, w.before _ s = true := fun w h => hgx w (List.mem_append_right _ h)
  have hown : s.vm.findClass R_LW = some m.cls := findClass_of_methodNamed B.named
  have hlocks := B.notSynchronized
  subst hsz
  have hA : ∀ q : Nat, s.heap.size ≤ q → va_A ((pg_w ad cs rp M) ++ (wo cJ ao f)) s.heap.size q := fun q h => Or.inr h
  have hD : va_D (va_A ((pg_w ad cs rp M) ++ (wo cJ ao f)) s.heap.size) (pg_w ad cs rp M) := lw_Dl hD0
  have hD2 : va_D (va_A ((pg_w ad cs rp M) ++ (wo cJ ao f)) s.heap.size) (wo cJ ao f) := lw_Dr hD20
  have hDs : va_D (va_A (pg_w ad cs rp M) s.heap.size) (pg_w ad cs rp M) := hD0.self
  have hD2s : va_D (va_A (wo cJ ao f) s.heap.size) (wo cJ ao f) := hD20.self
  have hS : va_S (va_A ((pg_w ad cs rp M) ++ (wo cJ ao f)) s.heap.size) s.heap s.heap [] := va_S.rf
  have hl := lv_entry ([.ref (ad (0)), .int (iI (x)), .int (iI (at_)), .int (iI (k)), .ref ao]) (n := 6) (Nat.le_of_ble_eq_true rfl)
  rw [lg_entry_eq]
  generalize (lg_sl ([.ref (ad (0)), .int (iI (x)), .int (iI (at_)), .int (iI (k)), .ref ao]) ++ List.replicate (6 - (lg_sl ([.ref (ad (0)), .int (iI (x)), .int (iI (at_)), .int (iI (k)), .ref ao])).length) Slot.unset).toArray = ls at hl ⊢
  have hl : lv_has ls 6 [(0, .ref (ad (0))), (1, .int (iI (x))), (2, .int (iI (at_))), (3, .int (iI (k))), (4, .ref ao)] := hl
  refine lv_aload hx hb d_LW_stop_0 (lv_at hl 4 rfl) ?_
  refine z_iconst hx hb (z := 0) d_LW_stop_2 ?_
  refine lv_aload_n hx hb d_LW_stop_3 rfl (lv_at hl 0 rfl) ?_
  refine lv_iload_n hx hb d_LW_stop_4 rfl (lv_at hl 1 rfl) ?_
  refine lv_iload_n hx hb d_LW_stop_5 rfl (lv_at hl 2 rfl) ?_
  refine lv_iload_n hx hb d_LW_stop_6 rfl (lv_at hl 3 rfl) ?_
  obtain ⟨m9, meth9, c9, hn9, hm9, hc9, -, -, ht9, -⟩ := Cond.codeWith_spec (hts _ List.mem_cons_self)
  cases B.named.symm.trans hn9
  cases B.method.symm.trans hm9
  cases (Stand.of_body B).code.symm.trans hc9
  have htab := z_tab ht9
  have hcat := hT.at htx
  refine z_tryV (X := z_IAE) (As := [.int (iI (x)), .int (iI (at_)), .int (iI (k))]) (rest := [.int (iI (0)), .ref ao]) ⟨hx, hb, hml, hown, hgx⟩ (t_stop_A l hfl np x at_ k hx0 hw hv hnp hn q n hxq hqn hwf h1) (cwV 3 hgx (gx_V (fun _ h => h) (gx_gt (List.mem_append_right _ (List.mem_append_right _ (List.mem_append_right _ (List.mem_append_right _ (List.mem_append_right _ (List.mem_append_right _ (List.mem_append_right _ (List.mem_append_right _ (List.mem_append_right _ (List.mem_append_right _ (List.mem_append_right _ (List.mem_append_left _ (List.mem_of_getElem? (i := 30) rfl)))))))))))))) (gx_gt (List.mem_append_right _ (List.mem_append_right _ (List.mem_append_right _ (List.mem_append_right _ (List.mem_append_right _ (List.mem_append_right _ (List.mem_append_right _ (List.mem_append_right _ (List.mem_append_right _ (List.mem_append_right _ (List.mem_append_right _ (List.mem_append_left _ (List.mem_of_getElem? (i := 31) rfl)))))))))))))) (gx_gt (List.mem_append_right _ (List.mem_append_right _ (List.mem_append_right _ (List.mem_append_right _ (List.mem_append_right _ (List.mem_append_right _ (List.mem_append_right _ (List.mem_append_right _ (List.mem_append_right _ (List.mem_append_right _ (List.mem_append_right _ (List.mem_append_left _ (List.mem_of_getElem? (i := 32) rfl)))))))))))))) (gx_gt (List.mem_append_right _ (List.mem_append_left _ (List.mem_of_getElem? (i := 2) rfl)))) (gx_gt (List.mem_append_right _ (List.mem_append_right _ (List.mem_append_right _ (List.mem_append_right _ (List.mem_append_right _ (List.mem_append_right _ (List.mem_append_right _ (List.mem_append_right _ (List.mem_append_right _ (List.mem_append_right _ (List.mem_append_right _ (List.mem_append_left _ (List.mem_of_getElem? (i := 33) rfl))))))))))))))) rfl rfl rfl (by decide +kernel) ⟨Nat.le_of_ble_eq_true rfl, Nat.le_of_ble_eq_true rfl⟩) ⟨rt_blind, (va_recv hK hP (ci := 0) (q0 := 0) rfl (wl_atE (by decide) rfl)), fun U hU hW => ⟨rfl, ⟨by rw [hU]; exact hP, va_K.moved hW.alike hK⟩, hT.kept hW (fun q hq => by rw [hU])⟩⟩ rfl hl.1 rfl (Nat.le_of_ble_eq_true rfl) d_LW_stop_7 ⟨Nat.le_of_ble_eq_true rfl, Nat.le_of_ble_eq_true rfl⟩ [({ startPc := 0, endPc := 12, handlerPc := 15, catchType := 19 }, z_NSE)] { startPc := 0, endPc := 12, handlerPc := 19, catchType := 21 } [{ startPc := 0, endPc := 12, handlerPc := 23, catchType := 13 }] htab (List.forall_mem_cons.mpr ⟨⟨by decide, by decide, (hcat (.classLink "PageLayoutLaw" 19 z_NSE) (lw_more (by simp [z_more]))), hT.2.2.1.1⟩, fun q hq => by cases hq⟩) (by decide) (by decide) (hcat (.classLink "PageLayoutLaw" 21 z_IAE) (lw_more (by simp [z_more]))) (hcat (.castable z_IAE z_IAE) (lw_more (by simp [z_more]))) (fun H1 hz1 hk1 => ?_)
  have hPn := z_keep (w := []) hP (fun i j p q h1 h2 => by simp at h1) (fun q h1 _ => hk1 q h1)
  have hP2n := z_keep (w := []) hP2 (fun i j p q h1 h2 => by simp at h1) (fun q h1 _ => hk1 q h1)
  refine lv_astore (x := s.heap.size) (lv' := [(5, .ref s.heap.size), (0, .ref (ad (0))), (1, .int (iI (x))), (2, .int (iI (at_))), (3, .int (iI (k))), (4, .ref ao)]) hx hb d_LW_stop_19 hl (by decide) rfl (fun ls hl => ?_)
  refine z_iconst hx hb (z := 2) d_LW_stop_21 ?_
  have hSn : va_S (va_A (pg_w ad cs rp M ++ wo cJ ao f) s.heap.size) s.heap H1 [] := ⟨hz1, fun q h1 _ => hk1 q h1, fun _ h => by cases h⟩
  exact W.iret (v := iI 2) hx hb hr (fun t ht hW => ⟨⟨_, (), rfl, rfl, by rw [ht]; exact hPn, by rw [ht]; exact hP2n, hDs, hD2s⟩, hSn.F ht⟩) hSn.2.2 d_LW_stop_22
set_option maxHeartbeats 4000000 in
set_option maxRecDepth 100000 in
theorem w_stop_I (l : Launch) (hfl : l.flags = flags0) {D : va_G} {ad : Nat → Nat} {cs : pg_C} {rp : Option Nat} {M : Nat → Nat → Int} {cJ : ClassId} {ao : Nat} {f : Nat → Int64} (sz : Nat) (np : Nat) (x at_ k : Int) (hx0 : zb x) (hw : zb at_) (hv : zb k) (hnp : M 1 4 = ((np : Nat) : Int)) (hn : np ≤ 30) (q n : Nat) (hxq : x = ((q : Nat) : Int)) (hqn : q < np) (hwf : wfP M q n) (h1 : inn at_ (p_last n (M (31 + 4 * q)) + 1) 30000 ∧ inn k 0 2) (h2 : n = 8) : Met l y_LW_stop (.codeWith y_LW_stop b_LW_stop 6 (some .int) h_LW_stop :: gx) ({ frames := 7, cells := 1, slots := 6, locals := 110 } : Room) (va_Pc [.ref (ad (0)), .int (iI (x)), .int (iI (at_)), .int (iI (k)), .ref ao] (lp_B D vwCl (pg_tys cs) (pg_w ad cs rp M) (wo cJ ao f) cJ sz)) (va_Qi (fun (r : Int32) (_ : Unit) => r = iI 3) (lp_E D vwCl (pg_w ad cs rp M) (wo cJ ao f) (pg_w ad cs rp (M)) (wo cJ ao (f)) sz) (va_A ((pg_w ad cs rp M) ++ (wo cJ ao f)) sz)) 1 6 (va_A ((pg_w ad cs rp M) ++ (wo cJ ao f)) sz) := by
  refine va_MetW (cc := b_LW_stop) (maxL := 6) (ret := (some .int)) (hh := h_LW_stop) (by decide) rfl ?_
  intro p e s m args below meth c s₁ B hml hv
  obtain ⟨rfl, ⟨⟨hsz, hP, hK, hD0⟩, hT⟩, hP2, hKJ, hdj, hD20⟩ := hv
  have hx := B.exec
  have hb := B.bytes
  have hr := B.returns
  have hts := atoms_spec (ws := (.codeWith y_LW_stop b_LW_stop 6 (some .int) h_LW_stop :: gx)) B.pre
  have hgx : ∀ w ∈ gx, w.before _ s = true := fun w h => hts w (List.mem_cons_of_mem _ h)
  have hg : ∀ w ∈ gt, w.before _ s = true := fun w h => hgx w (gx_gt h)
  have htx : ∀ w ∈ tx, w.before _ s = true := fun w h => hgx w (List.mem_append_right _ h)
  have hown : s.vm.findClass R_LW = some m.cls := findClass_of_methodNamed B.named
  have hlocks := B.notSynchronized
  subst hsz
  have hA : ∀ q : Nat, s.heap.size ≤ q → va_A ((pg_w ad cs rp M) ++ (wo cJ ao f)) s.heap.size q := fun q h => Or.inr h
  have hD : va_D (va_A ((pg_w ad cs rp M) ++ (wo cJ ao f)) s.heap.size) (pg_w ad cs rp M) := lw_Dl hD0
  have hD2 : va_D (va_A ((pg_w ad cs rp M) ++ (wo cJ ao f)) s.heap.size) (wo cJ ao f) := lw_Dr hD20
  have hDs : va_D (va_A (pg_w ad cs rp M) s.heap.size) (pg_w ad cs rp M) := hD0.self
  have hD2s : va_D (va_A (wo cJ ao f) s.heap.size) (wo cJ ao f) := hD20.self
  have hS : va_S (va_A ((pg_w ad cs rp M) ++ (wo cJ ao f)) s.heap.size) s.heap s.heap [] := va_S.rf
  have hl := lv_entry ([.ref (ad (0)), .int (iI (x)), .int (iI (at_)), .int (iI (k)), .ref ao]) (n := 6) (Nat.le_of_ble_eq_true rfl)
  rw [lg_entry_eq]
  generalize (lg_sl ([.ref (ad (0)), .int (iI (x)), .int (iI (at_)), .int (iI (k)), .ref ao]) ++ List.replicate (6 - (lg_sl ([.ref (ad (0)), .int (iI (x)), .int (iI (at_)), .int (iI (k)), .ref ao])).length) Slot.unset).toArray = ls at hl ⊢
  have hl : lv_has ls 6 [(0, .ref (ad (0))), (1, .int (iI (x))), (2, .int (iI (at_))), (3, .int (iI (k))), (4, .ref ao)] := hl
  refine lv_aload hx hb d_LW_stop_0 (lv_at hl 4 rfl) ?_
  refine z_iconst hx hb (z := 0) d_LW_stop_2 ?_
  refine lv_aload_n hx hb d_LW_stop_3 rfl (lv_at hl 0 rfl) ?_
  refine lv_iload_n hx hb d_LW_stop_4 rfl (lv_at hl 1 rfl) ?_
  refine lv_iload_n hx hb d_LW_stop_5 rfl (lv_at hl 2 rfl) ?_
  refine lv_iload_n hx hb d_LW_stop_6 rfl (lv_at hl 3 rfl) ?_
  obtain ⟨m9, meth9, c9, hn9, hm9, hc9, -, -, ht9, -⟩ := Cond.codeWith_spec (hts _ List.mem_cons_self)
  cases B.named.symm.trans hn9
  cases B.method.symm.trans hm9
  cases (Stand.of_body B).code.symm.trans hc9
  have htab := z_tab ht9
  have hcat := hT.at htx
  refine z_tryV (X := z_ISE) (As := [.int (iI (x)), .int (iI (at_)), .int (iI (k))]) (rest := [.int (iI (0)), .ref ao]) ⟨hx, hb, hml, hown, hgx⟩ (t_stop_I l hfl np x at_ k hx0 hw hv hnp hn q n hxq hqn hwf h1 h2) (cwV 3 hgx (gx_V (fun _ h => h) (gx_gt (List.mem_append_right _ (List.mem_append_right _ (List.mem_append_right _ (List.mem_append_right _ (List.mem_append_right _ (List.mem_append_right _ (List.mem_append_right _ (List.mem_append_right _ (List.mem_append_right _ (List.mem_append_right _ (List.mem_append_right _ (List.mem_append_left _ (List.mem_of_getElem? (i := 30) rfl)))))))))))))) (gx_gt (List.mem_append_right _ (List.mem_append_right _ (List.mem_append_right _ (List.mem_append_right _ (List.mem_append_right _ (List.mem_append_right _ (List.mem_append_right _ (List.mem_append_right _ (List.mem_append_right _ (List.mem_append_right _ (List.mem_append_right _ (List.mem_append_left _ (List.mem_of_getElem? (i := 31) rfl)))))))))))))) (gx_gt (List.mem_append_right _ (List.mem_append_right _ (List.mem_append_right _ (List.mem_append_right _ (List.mem_append_right _ (List.mem_append_right _ (List.mem_append_right _ (List.mem_append_right _ (List.mem_append_right _ (List.mem_append_right _ (List.mem_append_right _ (List.mem_append_left _ (List.mem_of_getElem? (i := 32) rfl)))))))))))))) (gx_gt (List.mem_append_right _ (List.mem_append_left _ (List.mem_of_getElem? (i := 2) rfl)))) (gx_gt (List.mem_append_right _ (List.mem_append_right _ (List.mem_append_right _ (List.mem_append_right _ (List.mem_append_right _ (List.mem_append_right _ (List.mem_append_right _ (List.mem_append_right _ (List.mem_append_right _ (List.mem_append_right _ (List.mem_append_right _ (List.mem_append_left _ (List.mem_of_getElem? (i := 33) rfl))))))))))))))) rfl rfl rfl (by decide +kernel) ⟨Nat.le_of_ble_eq_true rfl, Nat.le_of_ble_eq_true rfl⟩) ⟨rt_blind, (va_recv hK hP (ci := 0) (q0 := 0) rfl (wl_atE (by decide) rfl)), fun U hU hW => ⟨rfl, ⟨by rw [hU]; exact hP, va_K.moved hW.alike hK⟩, hT.kept hW (fun q hq => by rw [hU])⟩⟩ rfl hl.1 rfl (Nat.le_of_ble_eq_true rfl) d_LW_stop_7 ⟨Nat.le_of_ble_eq_true rfl, Nat.le_of_ble_eq_true rfl⟩ [({ startPc := 0, endPc := 12, handlerPc := 15, catchType := 19 }, z_NSE), ({ startPc := 0, endPc := 12, handlerPc := 19, catchType := 21 }, z_IAE)] { startPc := 0, endPc := 12, handlerPc := 23, catchType := 13 } [] htab (List.forall_mem_cons.mpr ⟨⟨by decide, by decide, (hcat (.classLink "PageLayoutLaw" 19 z_NSE) (lw_more (by simp [z_more]))), hT.2.2.1.2.1⟩, List.forall_mem_cons.mpr ⟨⟨by decide, by decide, (hcat (.classLink "PageLayoutLaw" 21 z_IAE) (lw_more (by simp [z_more]))), hT.2.2.1.2.2⟩, fun q hq => by cases hq⟩⟩) (by decide) (by decide) (hcat (.classLink "PageLayoutLaw" 13 z_ISE) (lw_more (by simp [z_more]))) (hcat (.castable z_ISE z_ISE) (lw_more (by simp [z_more]))) (fun H1 hz1 hk1 => ?_)
  have hPn := z_keep (w := []) hP (fun i j p q h1 h2 => by simp at h1) (fun q h1 _ => hk1 q h1)
  have hP2n := z_keep (w := []) hP2 (fun i j p q h1 h2 => by simp at h1) (fun q h1 _ => hk1 q h1)
  refine lv_astore (x := s.heap.size) (lv' := [(5, .ref s.heap.size), (0, .ref (ad (0))), (1, .int (iI (x))), (2, .int (iI (at_))), (3, .int (iI (k))), (4, .ref ao)]) hx hb d_LW_stop_23 hl (by decide) rfl (fun ls hl => ?_)
  refine z_iconst hx hb (z := 3) d_LW_stop_25 ?_
  have hSn : va_S (va_A (pg_w ad cs rp M ++ wo cJ ao f) s.heap.size) s.heap H1 [] := ⟨hz1, fun q h1 _ => hk1 q h1, fun _ h => by cases h⟩
  exact W.iret (v := iI 3) hx hb hr (fun t ht hW => ⟨⟨_, (), rfl, rfl, by rw [ht]; exact hPn, by rw [ht]; exact hP2n, hDs, hD2s⟩, hSn.F ht⟩) hSn.2.2 d_LW_stop_26
set_option maxHeartbeats 4000000 in
set_option maxRecDepth 100000 in
theorem w_sheet_0 (l : Launch) (hfl : l.flags = flags0) {D : va_G} {ad : Nat → Nat} {cs : pg_C} {rp : Option Nat} {M : Nat → Nat → Int} {cJ : ClassId} {ao : Nat} {f : Nat → Int64} (sz : Nat) (wd h sp : Int) (hx0 : zb wd) (hw : zb h) (hv : zb sp) (h1 : inn wd 1 30000 ∧ inn h 1 30000 ∧ inn sp 1 30000) : Met l y_LW_sheet (.codeWith y_LW_sheet b_LW_sheet 5 (some .int) h_LW_sheet :: gx) ({ frames := 7, cells := 1, slots := 6, locals := 110 } : Room) (va_Pc [.ref (ad (0)), .int (iI (wd)), .int (iI (h)), .int (iI (sp))] (lp_B D vwCl (pg_tys cs) (pg_w ad cs rp M) (wo cJ ao f) cJ sz)) (va_Qi (fun (r : Int32) (_ : Unit) => r = iI 0) (lp_E D vwCl (pg_w ad cs rp M) (wo cJ ao f) (pg_w ad cs rp (mset (mset (mset (q_fg M) 2 0 wd) 2 1 h) 2 2 sp)) (wo cJ ao (f)) sz) (va_A ((pg_w ad cs rp M) ++ (wo cJ ao f)) sz)) 1 6 (va_A ((pg_w ad cs rp M) ++ (wo cJ ao f)) sz) := by
  refine va_MetW (cc := b_LW_sheet) (maxL := 5) (ret := (some .int)) (hh := h_LW_sheet) (by decide) rfl ?_
  intro p e s m args below meth c s₁ B hml hv
  obtain ⟨rfl, ⟨⟨hsz, hP, hK, hD0⟩, hT⟩, hP2, hKJ, hdj, hD20⟩ := hv
  have hx := B.exec
  have hb := B.bytes
  have hr := B.returns
  have hts := atoms_spec (ws := (.codeWith y_LW_sheet b_LW_sheet 5 (some .int) h_LW_sheet :: gx)) B.pre
  have hgx : ∀ w ∈ gx, w.before _ s = true := fun w h => hts w (List.mem_cons_of_mem _ h)
  have hg : ∀ w ∈ gt, w.before _ s = true := fun w h => hgx w (gx_gt h)
  have htx : ∀ w ∈ tx, w.before _ s = true := fun w h => hgx w (List.mem_append_right _ h)
  have hown : s.vm.findClass R_LW = some m.cls := findClass_of_methodNamed B.named
  have hlocks := B.notSynchronized
  subst hsz
  have hA : ∀ q : Nat, s.heap.size ≤ q → va_A ((pg_w ad cs rp M) ++ (wo cJ ao f)) s.heap.size q := fun q h => Or.inr h
  have hD : va_D (va_A ((pg_w ad cs rp M) ++ (wo cJ ao f)) s.heap.size) (pg_w ad cs rp M) := lw_Dl hD0
  have hD2 : va_D (va_A ((pg_w ad cs rp M) ++ (wo cJ ao f)) s.heap.size) (wo cJ ao f) := lw_Dr hD20
  have hDs : va_D (va_A (pg_w ad cs rp M) s.heap.size) (pg_w ad cs rp M) := hD0.self
  have hD2s : va_D (va_A (wo cJ ao f) s.heap.size) (wo cJ ao f) := hD20.self
  have hS : va_S (va_A ((pg_w ad cs rp M) ++ (wo cJ ao f)) s.heap.size) s.heap s.heap [] := va_S.rf
  have hl := lv_entry ([.ref (ad (0)), .int (iI (wd)), .int (iI (h)), .int (iI (sp))]) (n := 5) (Nat.le_of_ble_eq_true rfl)
  rw [lg_entry_eq]
  generalize (lg_sl ([.ref (ad (0)), .int (iI (wd)), .int (iI (h)), .int (iI (sp))]) ++ List.replicate (5 - (lg_sl ([.ref (ad (0)), .int (iI (wd)), .int (iI (h)), .int (iI (sp))])).length) Slot.unset).toArray = ls at hl ⊢
  have hl : lv_has ls 5 [(0, .ref (ad (0))), (1, .int (iI (wd))), (2, .int (iI (h))), (3, .int (iI (sp)))] := hl
  refine lv_aload_n hx hb d_LW_sheet_0 rfl (lv_at hl 0 rfl) ?_
  refine lv_iload_n hx hb d_LW_sheet_1 rfl (lv_at hl 1 rfl) ?_
  refine lv_iload_n hx hb d_LW_sheet_2 rfl (lv_at hl 2 rfl) ?_
  refine lv_iload_n hx hb d_LW_sheet_3 rfl (lv_at hl 3 rfl) ?_
  refine lw_Vv (As := [.int (iI (wd)), .int (iI (h)), .int (iI (sp))]) (rest := []) (w' := pg_w ad cs rp (mset (mset (mset (q_fg M) 2 0 wd) 2 1 h) 2 2 sp)) ⟨hx, hb, hml, hown, hg⟩ (c_sheet l _ wd h sp hx0 hw hv h1) (cwV 3 hg (gt_V (List.mem_append_right _ (List.mem_append_right _ (List.mem_append_right _ (List.mem_append_right _ (List.mem_append_right _ (List.mem_append_right _ (List.mem_append_right _ (List.mem_append_right _ (List.mem_append_right _ (List.mem_append_right _ (List.mem_append_right _ (List.mem_append_right _ (List.mem_append_left _ (List.mem_of_getElem? (i := 1) rfl)))))))))))))) (List.mem_append_right _ (List.mem_append_right _ (List.mem_append_right _ (List.mem_append_right _ (List.mem_append_right _ (List.mem_append_right _ (List.mem_append_right _ (List.mem_append_right _ (List.mem_append_right _ (List.mem_append_right _ (List.mem_append_right _ (List.mem_append_right _ (List.mem_append_left _ (List.mem_of_getElem? (i := 2) rfl)))))))))))))) (List.mem_append_right _ (List.mem_append_right _ (List.mem_append_right _ (List.mem_append_right _ (List.mem_append_right _ (List.mem_append_right _ (List.mem_append_right _ (List.mem_append_right _ (List.mem_append_right _ (List.mem_append_right _ (List.mem_append_right _ (List.mem_append_right _ (List.mem_append_left _ (List.mem_of_getElem? (i := 3) rfl)))))))))))))) (List.mem_append_right _ (List.mem_append_left _ (List.mem_of_getElem? (i := 2) rfl))) (List.mem_append_right _ (List.mem_append_right _ (List.mem_append_right _ (List.mem_append_right _ (List.mem_append_right _ (List.mem_append_right _ (List.mem_append_right _ (List.mem_append_right _ (List.mem_append_right _ (List.mem_append_right _ (List.mem_append_right _ (List.mem_append_right _ (List.mem_append_left _ (List.mem_of_getElem? (i := 4) rfl))))))))))))))) rfl rfl rfl (by decide +kernel) ⟨Nat.le_of_ble_eq_true rfl, Nat.le_of_ble_eq_true rfl⟩) rw_blind (fun U hU hW => ⟨by rw [hU], by rw [hU]; exact hP, va_K.moved hW.alike hK, hD.weaken (fun _ _ _ _ => trivial)⟩) hD hS hA (va_recv hK hP (ci := 0) (q0 := 0) rfl (wl_atE (by decide) rfl)) rfl hl.1 rfl (Nat.le_of_ble_eq_true rfl) d_LW_sheet_4 ⟨Nat.zero_le _, Nat.zero_le _⟩ (fun H1 locs1 hPn hDn hDq hSn hk => ?_)
  have hP2n := z_keep hP2 hdj hk
  refine lv_goto (tgt := 14) hx hb d_LW_sheet_7 (by decide) ?_
  refine z_iconst hx hb (z := 0) d_LW_sheet_14 ?_
  refine W.widen (k := 1) (n := 6) (by decide) (by decide) ?_
  exact W.iret (v := iI 0) hx hb hr (fun t ht hW => ⟨⟨_, (), rfl, rfl, by rw [ht]; exact hPn, by rw [ht]; exact hP2n, hDq, lw_Do hD2s⟩, hSn.F ht⟩) hSn.2.2 d_LW_sheet_15
set_option maxHeartbeats 4000000 in
set_option maxRecDepth 100000 in
theorem w_sheet_A (l : Launch) (hfl : l.flags = flags0) {D : va_G} {ad : Nat → Nat} {cs : pg_C} {rp : Option Nat} {M : Nat → Nat → Int} {cJ : ClassId} {ao : Nat} {f : Nat → Int64} (sz : Nat) (wd h sp : Int) (hx0 : zb wd) (hw : zb h) (hv : zb sp) (h1 : ¬ (inn wd 1 30000 ∧ inn h 1 30000 ∧ inn sp 1 30000)) : Met l y_LW_sheet (.codeWith y_LW_sheet b_LW_sheet 5 (some .int) h_LW_sheet :: gx) ({ frames := 7, cells := 1, slots := 6, locals := 110 } : Room) (va_Pc [.ref (ad (0)), .int (iI (wd)), .int (iI (h)), .int (iI (sp))] (lp_B D vwCl (pg_tys cs) (pg_w ad cs rp M) (wo cJ ao f) cJ sz)) (va_Qi (fun (r : Int32) (_ : Unit) => r = iI 1) (lp_E D vwCl (pg_w ad cs rp M) (wo cJ ao f) (pg_w ad cs rp (M)) (wo cJ ao (f)) sz) (va_A ((pg_w ad cs rp M) ++ (wo cJ ao f)) sz)) 1 6 (va_A ((pg_w ad cs rp M) ++ (wo cJ ao f)) sz) := by
  refine va_MetW (cc := b_LW_sheet) (maxL := 5) (ret := (some .int)) (hh := h_LW_sheet) (by decide) rfl ?_
  intro p e s m args below meth c s₁ B hml hv
  obtain ⟨rfl, ⟨⟨hsz, hP, hK, hD0⟩, hT⟩, hP2, hKJ, hdj, hD20⟩ := hv
  have hx := B.exec
  have hb := B.bytes
  have hr := B.returns
  have hts := atoms_spec (ws := (.codeWith y_LW_sheet b_LW_sheet 5 (some .int) h_LW_sheet :: gx)) B.pre
  have hgx : ∀ w ∈ gx, w.before _ s = true := fun w h => hts w (List.mem_cons_of_mem _ h)
  have hg : ∀ w ∈ gt, w.before _ s = true := fun w h => hgx w (gx_gt h)
  have htx : ∀ w ∈ tx, w.before _ s = true := fun w h => hgx w (List.mem_append_right _ h)
  have hown : s.vm.findClass R_LW = some m.cls := findClass_of_methodNamed B.named
  have hlocks := B.notSynchronized
  subst hsz
  have hA : ∀ q : Nat, s.heap.size ≤ q → va_A ((pg_w ad cs rp M) ++ (wo cJ ao f)) s.heap.size q := fun q h => Or.inr h
  have hD : va_D (va_A ((pg_w ad cs rp M) ++ (wo cJ ao f)) s.heap.size) (pg_w ad cs rp M) := lw_Dl hD0
  have hD2 : va_D (va_A ((pg_w ad cs rp M) ++ (wo cJ ao f)) s.heap.size) (wo cJ ao f) := lw_Dr hD20
  have hDs : va_D (va_A (pg_w ad cs rp M) s.heap.size) (pg_w ad cs rp M) := hD0.self
  have hD2s : va_D (va_A (wo cJ ao f) s.heap.size) (wo cJ ao f) := hD20.self
  have hS : va_S (va_A ((pg_w ad cs rp M) ++ (wo cJ ao f)) s.heap.size) s.heap s.heap [] := va_S.rf
  have hl := lv_entry ([.ref (ad (0)), .int (iI (wd)), .int (iI (h)), .int (iI (sp))]) (n := 5) (Nat.le_of_ble_eq_true rfl)
  rw [lg_entry_eq]
  generalize (lg_sl ([.ref (ad (0)), .int (iI (wd)), .int (iI (h)), .int (iI (sp))]) ++ List.replicate (5 - (lg_sl ([.ref (ad (0)), .int (iI (wd)), .int (iI (h)), .int (iI (sp))])).length) Slot.unset).toArray = ls at hl ⊢
  have hl : lv_has ls 5 [(0, .ref (ad (0))), (1, .int (iI (wd))), (2, .int (iI (h))), (3, .int (iI (sp)))] := hl
  refine lv_aload_n hx hb d_LW_sheet_0 rfl (lv_at hl 0 rfl) ?_
  refine lv_iload_n hx hb d_LW_sheet_1 rfl (lv_at hl 1 rfl) ?_
  refine lv_iload_n hx hb d_LW_sheet_2 rfl (lv_at hl 2 rfl) ?_
  refine lv_iload_n hx hb d_LW_sheet_3 rfl (lv_at hl 3 rfl) ?_
  obtain ⟨m9, meth9, c9, hn9, hm9, hc9, -, -, ht9, -⟩ := Cond.codeWith_spec (hts _ List.mem_cons_self)
  cases B.named.symm.trans hn9
  cases B.method.symm.trans hm9
  cases (Stand.of_body B).code.symm.trans hc9
  have htab := z_tab ht9
  have hcat := hT.at htx
  refine z_tryV (X := z_IAE) (As := [.int (iI (wd)), .int (iI (h)), .int (iI (sp))]) (rest := []) ⟨hx, hb, hml, hown, hgx⟩ (t_sheet_A l hfl wd h sp hx0 hw hv h1) (cwV 3 hgx (gx_V (fun _ h => h) (gx_gt (List.mem_append_right _ (List.mem_append_right _ (List.mem_append_right _ (List.mem_append_right _ (List.mem_append_right _ (List.mem_append_right _ (List.mem_append_right _ (List.mem_append_right _ (List.mem_append_right _ (List.mem_append_right _ (List.mem_append_right _ (List.mem_append_right _ (List.mem_append_left _ (List.mem_of_getElem? (i := 1) rfl))))))))))))))) (gx_gt (List.mem_append_right _ (List.mem_append_right _ (List.mem_append_right _ (List.mem_append_right _ (List.mem_append_right _ (List.mem_append_right _ (List.mem_append_right _ (List.mem_append_right _ (List.mem_append_right _ (List.mem_append_right _ (List.mem_append_right _ (List.mem_append_right _ (List.mem_append_left _ (List.mem_of_getElem? (i := 2) rfl))))))))))))))) (gx_gt (List.mem_append_right _ (List.mem_append_right _ (List.mem_append_right _ (List.mem_append_right _ (List.mem_append_right _ (List.mem_append_right _ (List.mem_append_right _ (List.mem_append_right _ (List.mem_append_right _ (List.mem_append_right _ (List.mem_append_right _ (List.mem_append_right _ (List.mem_append_left _ (List.mem_of_getElem? (i := 3) rfl))))))))))))))) (gx_gt (List.mem_append_right _ (List.mem_append_left _ (List.mem_of_getElem? (i := 2) rfl)))) (gx_gt (List.mem_append_right _ (List.mem_append_right _ (List.mem_append_right _ (List.mem_append_right _ (List.mem_append_right _ (List.mem_append_right _ (List.mem_append_right _ (List.mem_append_right _ (List.mem_append_right _ (List.mem_append_right _ (List.mem_append_right _ (List.mem_append_right _ (List.mem_append_left _ (List.mem_of_getElem? (i := 4) rfl)))))))))))))))) rfl rfl rfl (by decide +kernel) ⟨Nat.le_of_ble_eq_true rfl, Nat.le_of_ble_eq_true rfl⟩) ⟨rt_blind, (va_recv hK hP (ci := 0) (q0 := 0) rfl (wl_atE (by decide) rfl)), fun U hU hW => ⟨rfl, ⟨by rw [hU]; exact hP, va_K.moved hW.alike hK⟩, hT.kept hW (fun q hq => by rw [hU])⟩⟩ rfl hl.1 rfl (Nat.le_of_ble_eq_true rfl) d_LW_sheet_4 ⟨Nat.le_of_ble_eq_true rfl, Nat.le_of_ble_eq_true rfl⟩ [] { startPc := 0, endPc := 7, handlerPc := 10, catchType := 21 } [] htab (fun q hq => by cases hq) (by decide) (by decide) (hcat (.classLink "PageLayoutLaw" 21 z_IAE) (lw_more (by simp [z_more]))) (hcat (.castable z_IAE z_IAE) (lw_more (by simp [z_more]))) (fun H1 hz1 hk1 => ?_)
  have hPn := z_keep (w := []) hP (fun i j p q h1 h2 => by simp at h1) (fun q h1 _ => hk1 q h1)
  have hP2n := z_keep (w := []) hP2 (fun i j p q h1 h2 => by simp at h1) (fun q h1 _ => hk1 q h1)
  refine lv_astore (x := s.heap.size) (lv' := [(4, .ref s.heap.size), (0, .ref (ad (0))), (1, .int (iI (wd))), (2, .int (iI (h))), (3, .int (iI (sp)))]) hx hb d_LW_sheet_10 hl (by decide) rfl (fun ls hl => ?_)
  refine z_iconst hx hb (z := 1) d_LW_sheet_12 ?_
  have hSn : va_S (va_A (pg_w ad cs rp M ++ wo cJ ao f) s.heap.size) s.heap H1 [] := ⟨hz1, fun q h1 _ => hk1 q h1, fun _ h => by cases h⟩
  exact W.iret (v := iI 1) hx hb hr (fun t ht hW => ⟨⟨_, (), rfl, rfl, by rw [ht]; exact hPn, by rw [ht]; exact hP2n, hDs, hD2s⟩, hSn.F ht⟩) hSn.2.2 d_LW_sheet_13
set_option maxHeartbeats 4000000 in
set_option maxRecDepth 100000 in
theorem w_line_0 (l : Launch) (hfl : l.flags = flags0) {D : va_G} {ad : Nat → Nat} {cs : pg_C} {rp : Option Nat} {M : Nat → Nat → Int} {cJ : ClassId} {ao : Nat} {f : Nat → Int64} (sz : Nat) (x wh : Int) (hx0 : zb x) (hw : zb wh) (nl : Nat) (hn : M 3 2 = ((nl : Nat) : Int)) (hn6 : nl ≤ 630) (h0 : inn x 0 (((nl : Nat) : Int) - 1)) (h1 : inn wh 0 9) : Met l y_LW_line (.codeWith y_LW_line b_LW_line 5 (some .int) h_LW_line :: gx) ({ frames := 7, cells := 1, slots := 6, locals := 110 } : Room) (va_Pc [.ref (ad (0)), .int (iI (x)), .int (iI (wh)), .ref ao] (lp_B D vwCl (pg_tys cs) (pg_w ad cs rp M) (wo cJ ao f) cJ sz)) (va_Qi (fun (r : Int32) (_ : Unit) => r = iI 0) (lp_E D vwCl (pg_w ad cs rp M) (wo cJ ao f) (pg_w ad cs rp (M)) (wo cJ ao (fun _ => (iI (M (13 + wh.toNat) x.toNat)).toInt64)) sz) (va_A ((pg_w ad cs rp M) ++ (wo cJ ao f)) sz)) 1 6 (va_A ((pg_w ad cs rp M) ++ (wo cJ ao f)) sz) := by
  refine va_MetW (cc := b_LW_line) (maxL := 5) (ret := (some .int)) (hh := h_LW_line) (by decide) rfl ?_
  intro p e s m args below meth c s₁ B hml hv
  obtain ⟨rfl, ⟨⟨hsz, hP, hK, hD0⟩, hT⟩, hP2, hKJ, hdj, hD20⟩ := hv
  have hx := B.exec
  have hb := B.bytes
  have hr := B.returns
  have hts := atoms_spec (ws := (.codeWith y_LW_line b_LW_line 5 (some .int) h_LW_line :: gx)) B.pre
  have hgx : ∀ w ∈ gx, w.before _ s = true := fun w h => hts w (List.mem_cons_of_mem _ h)
  have hg : ∀ w ∈ gt, w.before _ s = true := fun w h => hgx w (gx_gt h)
  have htx : ∀ w ∈ tx, w.before _ s = true := fun w h => hgx w (List.mem_append_right _ h)
  have hown : s.vm.findClass R_LW = some m.cls := findClass_of_methodNamed B.named
  have hlocks := B.notSynchronized
  subst hsz
  have hA : ∀ q : Nat, s.heap.size ≤ q → va_A ((pg_w ad cs rp M) ++ (wo cJ ao f)) s.heap.size q := fun q h => Or.inr h
  have hD : va_D (va_A ((pg_w ad cs rp M) ++ (wo cJ ao f)) s.heap.size) (pg_w ad cs rp M) := lw_Dl hD0
  have hD2 : va_D (va_A ((pg_w ad cs rp M) ++ (wo cJ ao f)) s.heap.size) (wo cJ ao f) := lw_Dr hD20
  have hDs : va_D (va_A (pg_w ad cs rp M) s.heap.size) (pg_w ad cs rp M) := hD0.self
  have hD2s : va_D (va_A (wo cJ ao f) s.heap.size) (wo cJ ao f) := hD20.self
  have hS : va_S (va_A ((pg_w ad cs rp M) ++ (wo cJ ao f)) s.heap.size) s.heap s.heap [] := va_S.rf
  have hl := lv_entry ([.ref (ad (0)), .int (iI (x)), .int (iI (wh)), .ref ao]) (n := 5) (Nat.le_of_ble_eq_true rfl)
  rw [lg_entry_eq]
  generalize (lg_sl ([.ref (ad (0)), .int (iI (x)), .int (iI (wh)), .ref ao]) ++ List.replicate (5 - (lg_sl ([.ref (ad (0)), .int (iI (x)), .int (iI (wh)), .ref ao])).length) Slot.unset).toArray = ls at hl ⊢
  have hl : lv_has ls 5 [(0, .ref (ad (0))), (1, .int (iI (x))), (2, .int (iI (wh))), (3, .ref ao)] := hl
  refine lv_aload_n hx hb d_LW_line_0 rfl (lv_at hl 3 rfl) ?_
  refine z_iconst hx hb (z := 0) d_LW_line_1 ?_
  refine lv_aload_n hx hb d_LW_line_2 rfl (lv_at hl 0 rfl) ?_
  refine lv_iload_n hx hb d_LW_line_3 rfl (lv_at hl 1 rfl) ?_
  refine lv_iload_n hx hb d_LW_line_4 rfl (lv_at hl 2 rfl) ?_
  refine ro_V (As := [.int (iI (x)), .int (iI (wh))]) (rest := [.int (iI (0)), .ref ao]) (z := M (13 + wh.toNat) x.toNat) ⟨hx, hb, hml, hown, hg⟩ (c_line l x wh hx0 hw nl hn hn6 h0 h1) (cwV 2 hg (gt_V (List.mem_append_right _ (List.mem_append_right _ (List.mem_append_right _ (List.mem_append_right _ (List.mem_append_right _ (List.mem_append_right _ (List.mem_append_right _ (List.mem_append_right _ (List.mem_append_right _ (List.mem_append_right _ (List.mem_append_right _ (List.mem_append_right _ (List.mem_append_left _ (List.mem_of_getElem? (i := 7) rfl)))))))))))))) (List.mem_append_right _ (List.mem_append_right _ (List.mem_append_right _ (List.mem_append_right _ (List.mem_append_right _ (List.mem_append_right _ (List.mem_append_right _ (List.mem_append_right _ (List.mem_append_right _ (List.mem_append_right _ (List.mem_append_right _ (List.mem_append_right _ (List.mem_append_left _ (List.mem_of_getElem? (i := 8) rfl)))))))))))))) (List.mem_append_right _ (List.mem_append_right _ (List.mem_append_right _ (List.mem_append_right _ (List.mem_append_right _ (List.mem_append_right _ (List.mem_append_right _ (List.mem_append_right _ (List.mem_append_right _ (List.mem_append_right _ (List.mem_append_right _ (List.mem_append_right _ (List.mem_append_left _ (List.mem_of_getElem? (i := 9) rfl)))))))))))))) (List.mem_append_right _ (List.mem_append_left _ (List.mem_of_getElem? (i := 2) rfl))) (List.mem_append_right _ (List.mem_append_right _ (List.mem_append_right _ (List.mem_append_right _ (List.mem_append_right _ (List.mem_append_right _ (List.mem_append_right _ (List.mem_append_right _ (List.mem_append_right _ (List.mem_append_right _ (List.mem_append_right _ (List.mem_append_right _ (List.mem_append_left _ (List.mem_of_getElem? (i := 10) rfl))))))))))))))) rfl rfl rfl (by decide +kernel) ⟨Nat.le_of_ble_eq_true rfl, Nat.le_of_ble_eq_true rfl⟩) hK hP (va_recv hK hP (ci := 0) (q0 := 0) rfl (wl_atE (by decide) rfl)) rfl hl.1 rfl (Nat.le_of_ble_eq_true rfl) d_LW_line_5 ⟨Nat.zero_le _, Nat.zero_le _⟩ ?_
  have hPn := hP
  have hDn := hD
  have hDq := hDs
  have hP2n := hP2
  have hSn := hS
  refine lv_i2l hx hb d_LW_line_8 rfl ?_
  refine lw_last (v := (iI (M (13 + wh.toNat) x.toNat)).toInt64) hx hb hKJ hPn hP2n hDn hD2 (pg_dj hdj) hSn d_LW_line_9 (fun H2 locs2 hPn hP2n hSn => ?_)
  refine lv_goto (tgt := 21) hx hb d_LW_line_10 (by decide) ?_
  refine z_iconst hx hb (z := 0) d_LW_line_21 ?_
  refine W.widen (k := 1) (n := 6) (by decide) (by decide) ?_
  exact W.iret (v := iI 0) hx hb hr (fun t ht hW => ⟨⟨_, (), rfl, rfl, by rw [ht]; exact hPn, by rw [ht]; exact hP2n, hDq, lw_Do hD2s⟩, hSn.F ht⟩) hSn.2.2 d_LW_line_22
set_option maxHeartbeats 4000000 in
set_option maxRecDepth 100000 in
theorem w_line_N (l : Launch) (hfl : l.flags = flags0) {D : va_G} {ad : Nat → Nat} {cs : pg_C} {rp : Option Nat} {M : Nat → Nat → Int} {cJ : ClassId} {ao : Nat} {f : Nat → Int64} (sz : Nat) (x wh : Int) (hx0 : zb x) (hw : zb wh) (nl : Nat) (hn : M 3 2 = ((nl : Nat) : Int)) (hn6 : nl ≤ 630) (h0 : ¬ inn x 0 (((nl : Nat) : Int) - 1)) : Met l y_LW_line (.codeWith y_LW_line b_LW_line 5 (some .int) h_LW_line :: gx) ({ frames := 7, cells := 1, slots := 6, locals := 110 } : Room) (va_Pc [.ref (ad (0)), .int (iI (x)), .int (iI (wh)), .ref ao] (lp_B D vwCl (pg_tys cs) (pg_w ad cs rp M) (wo cJ ao f) cJ sz)) (va_Qi (fun (r : Int32) (_ : Unit) => r = iI 1) (lp_E D vwCl (pg_w ad cs rp M) (wo cJ ao f) (pg_w ad cs rp (M)) (wo cJ ao (f)) sz) (va_A ((pg_w ad cs rp M) ++ (wo cJ ao f)) sz)) 1 6 (va_A ((pg_w ad cs rp M) ++ (wo cJ ao f)) sz) := by
  refine va_MetW (cc := b_LW_line) (maxL := 5) (ret := (some .int)) (hh := h_LW_line) (by decide) rfl ?_
  intro p e s m args below meth c s₁ B hml hv
  obtain ⟨rfl, ⟨⟨hsz, hP, hK, hD0⟩, hT⟩, hP2, hKJ, hdj, hD20⟩ := hv
  have hx := B.exec
  have hb := B.bytes
  have hr := B.returns
  have hts := atoms_spec (ws := (.codeWith y_LW_line b_LW_line 5 (some .int) h_LW_line :: gx)) B.pre
  have hgx : ∀ w ∈ gx, w.before _ s = true := fun w h => hts w (List.mem_cons_of_mem _ h)
  have hg : ∀ w ∈ gt, w.before _ s = true := fun w h => hgx w (gx_gt h)
  have htx : ∀ w ∈ tx, w.before _ s = true := fun w h => hgx w (List.mem_append_right _ h)
  have hown : s.vm.findClass R_LW = some m.cls := findClass_of_methodNamed B.named
  have hlocks := B.notSynchronized
  subst hsz
  have hA : ∀ q : Nat, s.heap.size ≤ q → va_A ((pg_w ad cs rp M) ++ (wo cJ ao f)) s.heap.size q := fun q h => Or.inr h
  have hD : va_D (va_A ((pg_w ad cs rp M) ++ (wo cJ ao f)) s.heap.size) (pg_w ad cs rp M) := lw_Dl hD0
  have hD2 : va_D (va_A ((pg_w ad cs rp M) ++ (wo cJ ao f)) s.heap.size) (wo cJ ao f) := lw_Dr hD20
  have hDs : va_D (va_A (pg_w ad cs rp M) s.heap.size) (pg_w ad cs rp M) := hD0.self
  have hD2s : va_D (va_A (wo cJ ao f) s.heap.size) (wo cJ ao f) := hD20.self
  have hS : va_S (va_A ((pg_w ad cs rp M) ++ (wo cJ ao f)) s.heap.size) s.heap s.heap [] := va_S.rf
  have hl := lv_entry ([.ref (ad (0)), .int (iI (x)), .int (iI (wh)), .ref ao]) (n := 5) (Nat.le_of_ble_eq_true rfl)
  rw [lg_entry_eq]
  generalize (lg_sl ([.ref (ad (0)), .int (iI (x)), .int (iI (wh)), .ref ao]) ++ List.replicate (5 - (lg_sl ([.ref (ad (0)), .int (iI (x)), .int (iI (wh)), .ref ao])).length) Slot.unset).toArray = ls at hl ⊢
  have hl : lv_has ls 5 [(0, .ref (ad (0))), (1, .int (iI (x))), (2, .int (iI (wh))), (3, .ref ao)] := hl
  refine lv_aload_n hx hb d_LW_line_0 rfl (lv_at hl 3 rfl) ?_
  refine z_iconst hx hb (z := 0) d_LW_line_1 ?_
  refine lv_aload_n hx hb d_LW_line_2 rfl (lv_at hl 0 rfl) ?_
  refine lv_iload_n hx hb d_LW_line_3 rfl (lv_at hl 1 rfl) ?_
  refine lv_iload_n hx hb d_LW_line_4 rfl (lv_at hl 2 rfl) ?_
  obtain ⟨m9, meth9, c9, hn9, hm9, hc9, -, -, ht9, -⟩ := Cond.codeWith_spec (hts _ List.mem_cons_self)
  cases B.named.symm.trans hn9
  cases B.method.symm.trans hm9
  cases (Stand.of_body B).code.symm.trans hc9
  have htab := z_tab ht9
  have hcat := hT.at htx
  refine z_tryV (X := z_NSE) (As := [.int (iI (x)), .int (iI (wh))]) (rest := [.int (iI (0)), .ref ao]) ⟨hx, hb, hml, hown, hgx⟩ (t_line_N l hfl x wh hx0 hw nl hn hn6 h0) (cwV 2 hgx (gx_V (fun _ h => h) (gx_gt (List.mem_append_right _ (List.mem_append_right _ (List.mem_append_right _ (List.mem_append_right _ (List.mem_append_right _ (List.mem_append_right _ (List.mem_append_right _ (List.mem_append_right _ (List.mem_append_right _ (List.mem_append_right _ (List.mem_append_right _ (List.mem_append_right _ (List.mem_append_left _ (List.mem_of_getElem? (i := 7) rfl))))))))))))))) (gx_gt (List.mem_append_right _ (List.mem_append_right _ (List.mem_append_right _ (List.mem_append_right _ (List.mem_append_right _ (List.mem_append_right _ (List.mem_append_right _ (List.mem_append_right _ (List.mem_append_right _ (List.mem_append_right _ (List.mem_append_right _ (List.mem_append_right _ (List.mem_append_left _ (List.mem_of_getElem? (i := 8) rfl))))))))))))))) (gx_gt (List.mem_append_right _ (List.mem_append_right _ (List.mem_append_right _ (List.mem_append_right _ (List.mem_append_right _ (List.mem_append_right _ (List.mem_append_right _ (List.mem_append_right _ (List.mem_append_right _ (List.mem_append_right _ (List.mem_append_right _ (List.mem_append_right _ (List.mem_append_left _ (List.mem_of_getElem? (i := 9) rfl))))))))))))))) (gx_gt (List.mem_append_right _ (List.mem_append_left _ (List.mem_of_getElem? (i := 2) rfl)))) (gx_gt (List.mem_append_right _ (List.mem_append_right _ (List.mem_append_right _ (List.mem_append_right _ (List.mem_append_right _ (List.mem_append_right _ (List.mem_append_right _ (List.mem_append_right _ (List.mem_append_right _ (List.mem_append_right _ (List.mem_append_right _ (List.mem_append_right _ (List.mem_append_left _ (List.mem_of_getElem? (i := 10) rfl)))))))))))))))) rfl rfl rfl (by decide +kernel) ⟨Nat.le_of_ble_eq_true rfl, Nat.le_of_ble_eq_true rfl⟩) ⟨rt_blind, (va_recv hK hP (ci := 0) (q0 := 0) rfl (wl_atE (by decide) rfl)), fun U hU hW => ⟨rfl, ⟨by rw [hU]; exact hP, va_K.moved hW.alike hK⟩, hT.kept hW (fun q hq => by rw [hU])⟩⟩ rfl hl.1 rfl (Nat.le_of_ble_eq_true rfl) d_LW_line_5 ⟨Nat.le_of_ble_eq_true rfl, Nat.le_of_ble_eq_true rfl⟩ [] { startPc := 0, endPc := 10, handlerPc := 13, catchType := 19 } [{ startPc := 0, endPc := 10, handlerPc := 17, catchType := 21 }] htab (fun q hq => by cases hq) (by decide) (by decide) (hcat (.classLink "PageLayoutLaw" 19 z_NSE) (lw_more (by simp [z_more]))) (hcat (.castable z_NSE z_NSE) (lw_more (by simp [z_more]))) (fun H1 hz1 hk1 => ?_)
  have hPn := z_keep (w := []) hP (fun i j p q h1 h2 => by simp at h1) (fun q h1 _ => hk1 q h1)
  have hP2n := z_keep (w := []) hP2 (fun i j p q h1 h2 => by simp at h1) (fun q h1 _ => hk1 q h1)
  refine lv_astore (x := s.heap.size) (lv' := [(4, .ref s.heap.size), (0, .ref (ad (0))), (1, .int (iI (x))), (2, .int (iI (wh))), (3, .ref ao)]) hx hb d_LW_line_13 hl (by decide) rfl (fun ls hl => ?_)
  refine z_iconst hx hb (z := 1) d_LW_line_15 ?_
  have hSn : va_S (va_A (pg_w ad cs rp M ++ wo cJ ao f) s.heap.size) s.heap H1 [] := ⟨hz1, fun q h1 _ => hk1 q h1, fun _ h => by cases h⟩
  exact W.iret (v := iI 1) hx hb hr (fun t ht hW => ⟨⟨_, (), rfl, rfl, by rw [ht]; exact hPn, by rw [ht]; exact hP2n, hDs, hD2s⟩, hSn.F ht⟩) hSn.2.2 d_LW_line_16
set_option maxHeartbeats 4000000 in
set_option maxRecDepth 100000 in
theorem w_line_A (l : Launch) (hfl : l.flags = flags0) {D : va_G} {ad : Nat → Nat} {cs : pg_C} {rp : Option Nat} {M : Nat → Nat → Int} {cJ : ClassId} {ao : Nat} {f : Nat → Int64} (sz : Nat) (x wh : Int) (hx0 : zb x) (hw : zb wh) (nl : Nat) (hn : M 3 2 = ((nl : Nat) : Int)) (hn6 : nl ≤ 630) (h0 : inn x 0 (((nl : Nat) : Int) - 1)) (h1 : ¬ inn wh 0 9) : Met l y_LW_line (.codeWith y_LW_line b_LW_line 5 (some .int) h_LW_line :: gx) ({ frames := 7, cells := 1, slots := 6, locals := 110 } : Room) (va_Pc [.ref (ad (0)), .int (iI (x)), .int (iI (wh)), .ref ao] (lp_B D vwCl (pg_tys cs) (pg_w ad cs rp M) (wo cJ ao f) cJ sz)) (va_Qi (fun (r : Int32) (_ : Unit) => r = iI 2) (lp_E D vwCl (pg_w ad cs rp M) (wo cJ ao f) (pg_w ad cs rp (M)) (wo cJ ao (f)) sz) (va_A ((pg_w ad cs rp M) ++ (wo cJ ao f)) sz)) 1 6 (va_A ((pg_w ad cs rp M) ++ (wo cJ ao f)) sz) := by
  refine va_MetW (cc := b_LW_line) (maxL := 5) (ret := (some .int)) (hh := h_LW_line) (by decide) rfl ?_
  intro p e s m args below meth c s₁ B hml hv
  obtain ⟨rfl, ⟨⟨hsz, hP, hK, hD0⟩, hT⟩, hP2, hKJ, hdj, hD20⟩ := hv
  have hx := B.exec
  have hb := B.bytes
  have hr := B.returns
  have hts := atoms_spec (ws := (.codeWith y_LW_line b_LW_line 5 (some .int) h_LW_line :: gx)) B.pre
  have hgx : ∀ w ∈ gx, w.before _ s = true := fun w h => hts w (List.mem_cons_of_mem _ h)
  have hg : ∀ w ∈ gt, w.before _ s = true := fun w h => hgx w (gx_gt h)
  have htx : ∀ w ∈ tx, w.before _ s = true := fun w h => hgx w (List.mem_append_right _ h)
  have hown : s.vm.findClass R_LW = some m.cls := findClass_of_methodNamed B.named
  have hlocks := B.notSynchronized
  subst hsz
  have hA : ∀ q : Nat, s.heap.size ≤ q → va_A ((pg_w ad cs rp M) ++ (wo cJ ao f)) s.heap.size q := fun q h => Or.inr h
  have hD : va_D (va_A ((pg_w ad cs rp M) ++ (wo cJ ao f)) s.heap.size) (pg_w ad cs rp M) := lw_Dl hD0
  have hD2 : va_D (va_A ((pg_w ad cs rp M) ++ (wo cJ ao f)) s.heap.size) (wo cJ ao f) := lw_Dr hD20
  have hDs : va_D (va_A (pg_w ad cs rp M) s.heap.size) (pg_w ad cs rp M) := hD0.self
  have hD2s : va_D (va_A (wo cJ ao f) s.heap.size) (wo cJ ao f) := hD20.self
  have hS : va_S (va_A ((pg_w ad cs rp M) ++ (wo cJ ao f)) s.heap.size) s.heap s.heap [] := va_S.rf
  have hl := lv_entry ([.ref (ad (0)), .int (iI (x)), .int (iI (wh)), .ref ao]) (n := 5) (Nat.le_of_ble_eq_true rfl)
  rw [lg_entry_eq]
  generalize (lg_sl ([.ref (ad (0)), .int (iI (x)), .int (iI (wh)), .ref ao]) ++ List.replicate (5 - (lg_sl ([.ref (ad (0)), .int (iI (x)), .int (iI (wh)), .ref ao])).length) Slot.unset).toArray = ls at hl ⊢
  have hl : lv_has ls 5 [(0, .ref (ad (0))), (1, .int (iI (x))), (2, .int (iI (wh))), (3, .ref ao)] := hl
  refine lv_aload_n hx hb d_LW_line_0 rfl (lv_at hl 3 rfl) ?_
  refine z_iconst hx hb (z := 0) d_LW_line_1 ?_
  refine lv_aload_n hx hb d_LW_line_2 rfl (lv_at hl 0 rfl) ?_
  refine lv_iload_n hx hb d_LW_line_3 rfl (lv_at hl 1 rfl) ?_
  refine lv_iload_n hx hb d_LW_line_4 rfl (lv_at hl 2 rfl) ?_
  obtain ⟨m9, meth9, c9, hn9, hm9, hc9, -, -, ht9, -⟩ := Cond.codeWith_spec (hts _ List.mem_cons_self)
  cases B.named.symm.trans hn9
  cases B.method.symm.trans hm9
  cases (Stand.of_body B).code.symm.trans hc9
  have htab := z_tab ht9
  have hcat := hT.at htx
  refine z_tryV (X := z_IAE) (As := [.int (iI (x)), .int (iI (wh))]) (rest := [.int (iI (0)), .ref ao]) ⟨hx, hb, hml, hown, hgx⟩ (t_line_A l hfl x wh hx0 hw nl hn hn6 h0 h1) (cwV 2 hgx (gx_V (fun _ h => h) (gx_gt (List.mem_append_right _ (List.mem_append_right _ (List.mem_append_right _ (List.mem_append_right _ (List.mem_append_right _ (List.mem_append_right _ (List.mem_append_right _ (List.mem_append_right _ (List.mem_append_right _ (List.mem_append_right _ (List.mem_append_right _ (List.mem_append_right _ (List.mem_append_left _ (List.mem_of_getElem? (i := 7) rfl))))))))))))))) (gx_gt (List.mem_append_right _ (List.mem_append_right _ (List.mem_append_right _ (List.mem_append_right _ (List.mem_append_right _ (List.mem_append_right _ (List.mem_append_right _ (List.mem_append_right _ (List.mem_append_right _ (List.mem_append_right _ (List.mem_append_right _ (List.mem_append_right _ (List.mem_append_left _ (List.mem_of_getElem? (i := 8) rfl))))))))))))))) (gx_gt (List.mem_append_right _ (List.mem_append_right _ (List.mem_append_right _ (List.mem_append_right _ (List.mem_append_right _ (List.mem_append_right _ (List.mem_append_right _ (List.mem_append_right _ (List.mem_append_right _ (List.mem_append_right _ (List.mem_append_right _ (List.mem_append_right _ (List.mem_append_left _ (List.mem_of_getElem? (i := 9) rfl))))))))))))))) (gx_gt (List.mem_append_right _ (List.mem_append_left _ (List.mem_of_getElem? (i := 2) rfl)))) (gx_gt (List.mem_append_right _ (List.mem_append_right _ (List.mem_append_right _ (List.mem_append_right _ (List.mem_append_right _ (List.mem_append_right _ (List.mem_append_right _ (List.mem_append_right _ (List.mem_append_right _ (List.mem_append_right _ (List.mem_append_right _ (List.mem_append_right _ (List.mem_append_left _ (List.mem_of_getElem? (i := 10) rfl)))))))))))))))) rfl rfl rfl (by decide +kernel) ⟨Nat.le_of_ble_eq_true rfl, Nat.le_of_ble_eq_true rfl⟩) ⟨rt_blind, (va_recv hK hP (ci := 0) (q0 := 0) rfl (wl_atE (by decide) rfl)), fun U hU hW => ⟨rfl, ⟨by rw [hU]; exact hP, va_K.moved hW.alike hK⟩, hT.kept hW (fun q hq => by rw [hU])⟩⟩ rfl hl.1 rfl (Nat.le_of_ble_eq_true rfl) d_LW_line_5 ⟨Nat.le_of_ble_eq_true rfl, Nat.le_of_ble_eq_true rfl⟩ [({ startPc := 0, endPc := 10, handlerPc := 13, catchType := 19 }, z_NSE)] { startPc := 0, endPc := 10, handlerPc := 17, catchType := 21 } [] htab (List.forall_mem_cons.mpr ⟨⟨by decide, by decide, (hcat (.classLink "PageLayoutLaw" 19 z_NSE) (lw_more (by simp [z_more]))), hT.2.2.1.1⟩, fun q hq => by cases hq⟩) (by decide) (by decide) (hcat (.classLink "PageLayoutLaw" 21 z_IAE) (lw_more (by simp [z_more]))) (hcat (.castable z_IAE z_IAE) (lw_more (by simp [z_more]))) (fun H1 hz1 hk1 => ?_)
  have hPn := z_keep (w := []) hP (fun i j p q h1 h2 => by simp at h1) (fun q h1 _ => hk1 q h1)
  have hP2n := z_keep (w := []) hP2 (fun i j p q h1 h2 => by simp at h1) (fun q h1 _ => hk1 q h1)
  refine lv_astore (x := s.heap.size) (lv' := [(4, .ref s.heap.size), (0, .ref (ad (0))), (1, .int (iI (x))), (2, .int (iI (wh))), (3, .ref ao)]) hx hb d_LW_line_17 hl (by decide) rfl (fun ls hl => ?_)
  refine z_iconst hx hb (z := 2) d_LW_line_19 ?_
  have hSn : va_S (va_A (pg_w ad cs rp M ++ wo cJ ao f) s.heap.size) s.heap H1 [] := ⟨hz1, fun q h1 _ => hk1 q h1, fun _ h => by cases h⟩
  exact W.iret (v := iI 2) hx hb hr (fun t ht hW => ⟨⟨_, (), rfl, rfl, by rw [ht]; exact hPn, by rw [ht]; exact hP2n, hDs, hD2s⟩, hSn.F ht⟩) hSn.2.2 d_LW_line_20
set_option maxHeartbeats 4000000 in
set_option maxRecDepth 100000 in
theorem w_where_0 (l : Launch) (hfl : l.flags = flags0) {D : va_G} {ad : Nat → Nat} {cs : pg_C} {rp : Option Nat} {M : Nat → Nat → Int} {cJ : ClassId} {ao : Nat} {f : Nat → Int64} (sz : Nat) (x wh : Int) (hx0 : zb x) (hw : zb wh) (n : Nat) (hs : M 1 5 = ((n : Nat) : Int)) (hn6 : n ≤ 600) (h0 : M 0 4 = 1 ∧ inn x 0 (((n : Nat) : Int) - 1)) (h1 : inn wh 0 2) : Met l y_LW_where (.codeWith y_LW_where b_LW_where 5 (some .int) h_LW_where :: gx) ({ frames := 7, cells := 1, slots := 6, locals := 110 } : Room) (va_Pc [.ref (ad (0)), .int (iI (x)), .int (iI (wh)), .ref ao] (lp_B D vwCl (pg_tys cs) (pg_w ad cs rp M) (wo cJ ao f) cJ sz)) (va_Qi (fun (r : Int32) (_ : Unit) => r = iI 0) (lp_E D vwCl (pg_w ad cs rp M) (wo cJ ao f) (pg_w ad cs rp (M)) (wo cJ ao (fun _ => (iI (M (23 + wh.toNat) x.toNat)).toInt64)) sz) (va_A ((pg_w ad cs rp M) ++ (wo cJ ao f)) sz)) 1 6 (va_A ((pg_w ad cs rp M) ++ (wo cJ ao f)) sz) := by
  refine va_MetW (cc := b_LW_where) (maxL := 5) (ret := (some .int)) (hh := h_LW_where) (by decide) rfl ?_
  intro p e s m args below meth c s₁ B hml hv
  obtain ⟨rfl, ⟨⟨hsz, hP, hK, hD0⟩, hT⟩, hP2, hKJ, hdj, hD20⟩ := hv
  have hx := B.exec
  have hb := B.bytes
  have hr := B.returns
  have hts := atoms_spec (ws := (.codeWith y_LW_where b_LW_where 5 (some .int) h_LW_where :: gx)) B.pre
  have hgx : ∀ w ∈ gx, w.before _ s = true := fun w h => hts w (List.mem_cons_of_mem _ h)
  have hg : ∀ w ∈ gt, w.before _ s = true := fun w h => hgx w (gx_gt h)
  have htx : ∀ w ∈ tx, w.before _ s = true := fun w h => hgx w (List.mem_append_right _ h)
  have hown : s.vm.findClass R_LW = some m.cls := findClass_of_methodNamed B.named
  have hlocks := B.notSynchronized
  subst hsz
  have hA : ∀ q : Nat, s.heap.size ≤ q → va_A ((pg_w ad cs rp M) ++ (wo cJ ao f)) s.heap.size q := fun q h => Or.inr h
  have hD : va_D (va_A ((pg_w ad cs rp M) ++ (wo cJ ao f)) s.heap.size) (pg_w ad cs rp M) := lw_Dl hD0
  have hD2 : va_D (va_A ((pg_w ad cs rp M) ++ (wo cJ ao f)) s.heap.size) (wo cJ ao f) := lw_Dr hD20
  have hDs : va_D (va_A (pg_w ad cs rp M) s.heap.size) (pg_w ad cs rp M) := hD0.self
  have hD2s : va_D (va_A (wo cJ ao f) s.heap.size) (wo cJ ao f) := hD20.self
  have hS : va_S (va_A ((pg_w ad cs rp M) ++ (wo cJ ao f)) s.heap.size) s.heap s.heap [] := va_S.rf
  have hl := lv_entry ([.ref (ad (0)), .int (iI (x)), .int (iI (wh)), .ref ao]) (n := 5) (Nat.le_of_ble_eq_true rfl)
  rw [lg_entry_eq]
  generalize (lg_sl ([.ref (ad (0)), .int (iI (x)), .int (iI (wh)), .ref ao]) ++ List.replicate (5 - (lg_sl ([.ref (ad (0)), .int (iI (x)), .int (iI (wh)), .ref ao])).length) Slot.unset).toArray = ls at hl ⊢
  have hl : lv_has ls 5 [(0, .ref (ad (0))), (1, .int (iI (x))), (2, .int (iI (wh))), (3, .ref ao)] := hl
  refine lv_aload_n hx hb d_LW_where_0 rfl (lv_at hl 3 rfl) ?_
  refine z_iconst hx hb (z := 0) d_LW_where_1 ?_
  refine lv_aload_n hx hb d_LW_where_2 rfl (lv_at hl 0 rfl) ?_
  refine lv_iload_n hx hb d_LW_where_3 rfl (lv_at hl 1 rfl) ?_
  refine lv_iload_n hx hb d_LW_where_4 rfl (lv_at hl 2 rfl) ?_
  refine ro_V (As := [.int (iI (x)), .int (iI (wh))]) (rest := [.int (iI (0)), .ref ao]) (z := M (23 + wh.toNat) x.toNat) ⟨hx, hb, hml, hown, hg⟩ (c_where l x wh hx0 hw n hs hn6 h0 h1) (cwV 2 hg (gt_V (List.mem_append_right _ (List.mem_append_right _ (List.mem_append_right _ (List.mem_append_right _ (List.mem_append_right _ (List.mem_append_right _ (List.mem_append_right _ (List.mem_append_right _ (List.mem_append_right _ (List.mem_append_right _ (List.mem_append_right _ (List.mem_append_right _ (List.mem_append_left _ (List.mem_of_getElem? (i := 13) rfl)))))))))))))) (List.mem_append_right _ (List.mem_append_right _ (List.mem_append_right _ (List.mem_append_right _ (List.mem_append_right _ (List.mem_append_right _ (List.mem_append_right _ (List.mem_append_right _ (List.mem_append_right _ (List.mem_append_right _ (List.mem_append_right _ (List.mem_append_right _ (List.mem_append_left _ (List.mem_of_getElem? (i := 14) rfl)))))))))))))) (List.mem_append_right _ (List.mem_append_right _ (List.mem_append_right _ (List.mem_append_right _ (List.mem_append_right _ (List.mem_append_right _ (List.mem_append_right _ (List.mem_append_right _ (List.mem_append_right _ (List.mem_append_right _ (List.mem_append_right _ (List.mem_append_right _ (List.mem_append_left _ (List.mem_of_getElem? (i := 15) rfl)))))))))))))) (List.mem_append_right _ (List.mem_append_left _ (List.mem_of_getElem? (i := 2) rfl))) (List.mem_append_right _ (List.mem_append_right _ (List.mem_append_right _ (List.mem_append_right _ (List.mem_append_right _ (List.mem_append_right _ (List.mem_append_right _ (List.mem_append_right _ (List.mem_append_right _ (List.mem_append_right _ (List.mem_append_right _ (List.mem_append_right _ (List.mem_append_left _ (List.mem_of_getElem? (i := 16) rfl))))))))))))))) rfl rfl rfl (by decide +kernel) ⟨Nat.le_of_ble_eq_true rfl, Nat.le_of_ble_eq_true rfl⟩) hK hP (va_recv hK hP (ci := 0) (q0 := 0) rfl (wl_atE (by decide) rfl)) rfl hl.1 rfl (Nat.le_of_ble_eq_true rfl) d_LW_where_5 ⟨Nat.zero_le _, Nat.zero_le _⟩ ?_
  have hPn := hP
  have hDn := hD
  have hDq := hDs
  have hP2n := hP2
  have hSn := hS
  refine lv_i2l hx hb d_LW_where_8 rfl ?_
  refine lw_last (v := (iI (M (23 + wh.toNat) x.toNat)).toInt64) hx hb hKJ hPn hP2n hDn hD2 (pg_dj hdj) hSn d_LW_where_9 (fun H2 locs2 hPn hP2n hSn => ?_)
  refine lv_goto (tgt := 21) hx hb d_LW_where_10 (by decide) ?_
  refine z_iconst hx hb (z := 0) d_LW_where_21 ?_
  refine W.widen (k := 1) (n := 6) (by decide) (by decide) ?_
  exact W.iret (v := iI 0) hx hb hr (fun t ht hW => ⟨⟨_, (), rfl, rfl, by rw [ht]; exact hPn, by rw [ht]; exact hP2n, hDq, lw_Do hD2s⟩, hSn.F ht⟩) hSn.2.2 d_LW_where_22
set_option maxHeartbeats 4000000 in
set_option maxRecDepth 100000 in
theorem w_where_N (l : Launch) (hfl : l.flags = flags0) {D : va_G} {ad : Nat → Nat} {cs : pg_C} {rp : Option Nat} {M : Nat → Nat → Int} {cJ : ClassId} {ao : Nat} {f : Nat → Int64} (sz : Nat) (x wh : Int) (hx0 : zb x) (hw : zb wh) (n : Nat) (hs : M 1 5 = ((n : Nat) : Int)) (hn6 : n ≤ 600) (hla : M 0 4 = 0 ∨ M 0 4 = 1) (h0 : ¬ (M 0 4 = 1 ∧ inn x 0 (((n : Nat) : Int) - 1))) : Met l y_LW_where (.codeWith y_LW_where b_LW_where 5 (some .int) h_LW_where :: gx) ({ frames := 7, cells := 1, slots := 6, locals := 110 } : Room) (va_Pc [.ref (ad (0)), .int (iI (x)), .int (iI (wh)), .ref ao] (lp_B D vwCl (pg_tys cs) (pg_w ad cs rp M) (wo cJ ao f) cJ sz)) (va_Qi (fun (r : Int32) (_ : Unit) => r = iI 1) (lp_E D vwCl (pg_w ad cs rp M) (wo cJ ao f) (pg_w ad cs rp (M)) (wo cJ ao (f)) sz) (va_A ((pg_w ad cs rp M) ++ (wo cJ ao f)) sz)) 1 6 (va_A ((pg_w ad cs rp M) ++ (wo cJ ao f)) sz) := by
  refine va_MetW (cc := b_LW_where) (maxL := 5) (ret := (some .int)) (hh := h_LW_where) (by decide) rfl ?_
  intro p e s m args below meth c s₁ B hml hv
  obtain ⟨rfl, ⟨⟨hsz, hP, hK, hD0⟩, hT⟩, hP2, hKJ, hdj, hD20⟩ := hv
  have hx := B.exec
  have hb := B.bytes
  have hr := B.returns
  have hts := atoms_spec (ws := (.codeWith y_LW_where b_LW_where 5 (some .int) h_LW_where :: gx)) B.pre
  have hgx : ∀ w ∈ gx, w.before _ s = true := fun w h => hts w (List.mem_cons_of_mem _ h)
  have hg : ∀ w ∈ gt, w.before _ s = true := fun w h => hgx w (gx_gt h)
  have htx : ∀ w ∈ tx, w.before _ s = true := fun w h => hgx w (List.mem_append_right _ h)
  have hown : s.vm.findClass R_LW = some m.cls := findClass_of_methodNamed B.named
  have hlocks := B.notSynchronized
  subst hsz
  have hA : ∀ q : Nat, s.heap.size ≤ q → va_A ((pg_w ad cs rp M) ++ (wo cJ ao f)) s.heap.size q := fun q h => Or.inr h
  have hD : va_D (va_A ((pg_w ad cs rp M) ++ (wo cJ ao f)) s.heap.size) (pg_w ad cs rp M) := lw_Dl hD0
  have hD2 : va_D (va_A ((pg_w ad cs rp M) ++ (wo cJ ao f)) s.heap.size) (wo cJ ao f) := lw_Dr hD20
  have hDs : va_D (va_A (pg_w ad cs rp M) s.heap.size) (pg_w ad cs rp M) := hD0.self
  have hD2s : va_D (va_A (wo cJ ao f) s.heap.size) (wo cJ ao f) := hD20.self
  have hS : va_S (va_A ((pg_w ad cs rp M) ++ (wo cJ ao f)) s.heap.size) s.heap s.heap [] := va_S.rf
  have hl := lv_entry ([.ref (ad (0)), .int (iI (x)), .int (iI (wh)), .ref ao]) (n := 5) (Nat.le_of_ble_eq_true rfl)
  rw [lg_entry_eq]
  generalize (lg_sl ([.ref (ad (0)), .int (iI (x)), .int (iI (wh)), .ref ao]) ++ List.replicate (5 - (lg_sl ([.ref (ad (0)), .int (iI (x)), .int (iI (wh)), .ref ao])).length) Slot.unset).toArray = ls at hl ⊢
  have hl : lv_has ls 5 [(0, .ref (ad (0))), (1, .int (iI (x))), (2, .int (iI (wh))), (3, .ref ao)] := hl
  refine lv_aload_n hx hb d_LW_where_0 rfl (lv_at hl 3 rfl) ?_
  refine z_iconst hx hb (z := 0) d_LW_where_1 ?_
  refine lv_aload_n hx hb d_LW_where_2 rfl (lv_at hl 0 rfl) ?_
  refine lv_iload_n hx hb d_LW_where_3 rfl (lv_at hl 1 rfl) ?_
  refine lv_iload_n hx hb d_LW_where_4 rfl (lv_at hl 2 rfl) ?_
  obtain ⟨m9, meth9, c9, hn9, hm9, hc9, -, -, ht9, -⟩ := Cond.codeWith_spec (hts _ List.mem_cons_self)
  cases B.named.symm.trans hn9
  cases B.method.symm.trans hm9
  cases (Stand.of_body B).code.symm.trans hc9
  have htab := z_tab ht9
  have hcat := hT.at htx
  refine z_tryV (X := z_NSE) (As := [.int (iI (x)), .int (iI (wh))]) (rest := [.int (iI (0)), .ref ao]) ⟨hx, hb, hml, hown, hgx⟩ (t_where_N l hfl x wh hx0 hw n hs hn6 hla h0) (cwV 2 hgx (gx_V (fun _ h => h) (gx_gt (List.mem_append_right _ (List.mem_append_right _ (List.mem_append_right _ (List.mem_append_right _ (List.mem_append_right _ (List.mem_append_right _ (List.mem_append_right _ (List.mem_append_right _ (List.mem_append_right _ (List.mem_append_right _ (List.mem_append_right _ (List.mem_append_right _ (List.mem_append_left _ (List.mem_of_getElem? (i := 13) rfl))))))))))))))) (gx_gt (List.mem_append_right _ (List.mem_append_right _ (List.mem_append_right _ (List.mem_append_right _ (List.mem_append_right _ (List.mem_append_right _ (List.mem_append_right _ (List.mem_append_right _ (List.mem_append_right _ (List.mem_append_right _ (List.mem_append_right _ (List.mem_append_right _ (List.mem_append_left _ (List.mem_of_getElem? (i := 14) rfl))))))))))))))) (gx_gt (List.mem_append_right _ (List.mem_append_right _ (List.mem_append_right _ (List.mem_append_right _ (List.mem_append_right _ (List.mem_append_right _ (List.mem_append_right _ (List.mem_append_right _ (List.mem_append_right _ (List.mem_append_right _ (List.mem_append_right _ (List.mem_append_right _ (List.mem_append_left _ (List.mem_of_getElem? (i := 15) rfl))))))))))))))) (gx_gt (List.mem_append_right _ (List.mem_append_left _ (List.mem_of_getElem? (i := 2) rfl)))) (gx_gt (List.mem_append_right _ (List.mem_append_right _ (List.mem_append_right _ (List.mem_append_right _ (List.mem_append_right _ (List.mem_append_right _ (List.mem_append_right _ (List.mem_append_right _ (List.mem_append_right _ (List.mem_append_right _ (List.mem_append_right _ (List.mem_append_right _ (List.mem_append_left _ (List.mem_of_getElem? (i := 16) rfl)))))))))))))))) rfl rfl rfl (by decide +kernel) ⟨Nat.le_of_ble_eq_true rfl, Nat.le_of_ble_eq_true rfl⟩) ⟨rt_blind, (va_recv hK hP (ci := 0) (q0 := 0) rfl (wl_atE (by decide) rfl)), fun U hU hW => ⟨rfl, ⟨by rw [hU]; exact hP, va_K.moved hW.alike hK⟩, hT.kept hW (fun q hq => by rw [hU])⟩⟩ rfl hl.1 rfl (Nat.le_of_ble_eq_true rfl) d_LW_where_5 ⟨Nat.le_of_ble_eq_true rfl, Nat.le_of_ble_eq_true rfl⟩ [] { startPc := 0, endPc := 10, handlerPc := 13, catchType := 19 } [{ startPc := 0, endPc := 10, handlerPc := 17, catchType := 21 }] htab (fun q hq => by cases hq) (by decide) (by decide) (hcat (.classLink "PageLayoutLaw" 19 z_NSE) (lw_more (by simp [z_more]))) (hcat (.castable z_NSE z_NSE) (lw_more (by simp [z_more]))) (fun H1 hz1 hk1 => ?_)
  have hPn := z_keep (w := []) hP (fun i j p q h1 h2 => by simp at h1) (fun q h1 _ => hk1 q h1)
  have hP2n := z_keep (w := []) hP2 (fun i j p q h1 h2 => by simp at h1) (fun q h1 _ => hk1 q h1)
  refine lv_astore (x := s.heap.size) (lv' := [(4, .ref s.heap.size), (0, .ref (ad (0))), (1, .int (iI (x))), (2, .int (iI (wh))), (3, .ref ao)]) hx hb d_LW_where_13 hl (by decide) rfl (fun ls hl => ?_)
  refine z_iconst hx hb (z := 1) d_LW_where_15 ?_
  have hSn : va_S (va_A (pg_w ad cs rp M ++ wo cJ ao f) s.heap.size) s.heap H1 [] := ⟨hz1, fun q h1 _ => hk1 q h1, fun _ h => by cases h⟩
  exact W.iret (v := iI 1) hx hb hr (fun t ht hW => ⟨⟨_, (), rfl, rfl, by rw [ht]; exact hPn, by rw [ht]; exact hP2n, hDs, hD2s⟩, hSn.F ht⟩) hSn.2.2 d_LW_where_16
set_option maxHeartbeats 4000000 in
set_option maxRecDepth 100000 in
theorem w_where_A (l : Launch) (hfl : l.flags = flags0) {D : va_G} {ad : Nat → Nat} {cs : pg_C} {rp : Option Nat} {M : Nat → Nat → Int} {cJ : ClassId} {ao : Nat} {f : Nat → Int64} (sz : Nat) (x wh : Int) (hx0 : zb x) (hw : zb wh) (n : Nat) (hs : M 1 5 = ((n : Nat) : Int)) (hn6 : n ≤ 600) (hla : M 0 4 = 0 ∨ M 0 4 = 1) (h0 : M 0 4 = 1 ∧ inn x 0 (((n : Nat) : Int) - 1)) (h1 : ¬ inn wh 0 2) : Met l y_LW_where (.codeWith y_LW_where b_LW_where 5 (some .int) h_LW_where :: gx) ({ frames := 7, cells := 1, slots := 6, locals := 110 } : Room) (va_Pc [.ref (ad (0)), .int (iI (x)), .int (iI (wh)), .ref ao] (lp_B D vwCl (pg_tys cs) (pg_w ad cs rp M) (wo cJ ao f) cJ sz)) (va_Qi (fun (r : Int32) (_ : Unit) => r = iI 2) (lp_E D vwCl (pg_w ad cs rp M) (wo cJ ao f) (pg_w ad cs rp (M)) (wo cJ ao (f)) sz) (va_A ((pg_w ad cs rp M) ++ (wo cJ ao f)) sz)) 1 6 (va_A ((pg_w ad cs rp M) ++ (wo cJ ao f)) sz) := by
  refine va_MetW (cc := b_LW_where) (maxL := 5) (ret := (some .int)) (hh := h_LW_where) (by decide) rfl ?_
  intro p e s m args below meth c s₁ B hml hv
  obtain ⟨rfl, ⟨⟨hsz, hP, hK, hD0⟩, hT⟩, hP2, hKJ, hdj, hD20⟩ := hv
  have hx := B.exec
  have hb := B.bytes
  have hr := B.returns
  have hts := atoms_spec (ws := (.codeWith y_LW_where b_LW_where 5 (some .int) h_LW_where :: gx)) B.pre
  have hgx : ∀ w ∈ gx, w.before _ s = true := fun w h => hts w (List.mem_cons_of_mem _ h)
  have hg : ∀ w ∈ gt, w.before _ s = true := fun w h => hgx w (gx_gt h)
  have htx : ∀ w ∈ tx, w.before _ s = true := fun w h => hgx w (List.mem_append_right _ h)
  have hown : s.vm.findClass R_LW = some m.cls := findClass_of_methodNamed B.named
  have hlocks := B.notSynchronized
  subst hsz
  have hA : ∀ q : Nat, s.heap.size ≤ q → va_A ((pg_w ad cs rp M) ++ (wo cJ ao f)) s.heap.size q := fun q h => Or.inr h
  have hD : va_D (va_A ((pg_w ad cs rp M) ++ (wo cJ ao f)) s.heap.size) (pg_w ad cs rp M) := lw_Dl hD0
  have hD2 : va_D (va_A ((pg_w ad cs rp M) ++ (wo cJ ao f)) s.heap.size) (wo cJ ao f) := lw_Dr hD20
  have hDs : va_D (va_A (pg_w ad cs rp M) s.heap.size) (pg_w ad cs rp M) := hD0.self
  have hD2s : va_D (va_A (wo cJ ao f) s.heap.size) (wo cJ ao f) := hD20.self
  have hS : va_S (va_A ((pg_w ad cs rp M) ++ (wo cJ ao f)) s.heap.size) s.heap s.heap [] := va_S.rf
  have hl := lv_entry ([.ref (ad (0)), .int (iI (x)), .int (iI (wh)), .ref ao]) (n := 5) (Nat.le_of_ble_eq_true rfl)
  rw [lg_entry_eq]
  generalize (lg_sl ([.ref (ad (0)), .int (iI (x)), .int (iI (wh)), .ref ao]) ++ List.replicate (5 - (lg_sl ([.ref (ad (0)), .int (iI (x)), .int (iI (wh)), .ref ao])).length) Slot.unset).toArray = ls at hl ⊢
  have hl : lv_has ls 5 [(0, .ref (ad (0))), (1, .int (iI (x))), (2, .int (iI (wh))), (3, .ref ao)] := hl
  refine lv_aload_n hx hb d_LW_where_0 rfl (lv_at hl 3 rfl) ?_
  refine z_iconst hx hb (z := 0) d_LW_where_1 ?_
  refine lv_aload_n hx hb d_LW_where_2 rfl (lv_at hl 0 rfl) ?_
  refine lv_iload_n hx hb d_LW_where_3 rfl (lv_at hl 1 rfl) ?_
  refine lv_iload_n hx hb d_LW_where_4 rfl (lv_at hl 2 rfl) ?_
  obtain ⟨m9, meth9, c9, hn9, hm9, hc9, -, -, ht9, -⟩ := Cond.codeWith_spec (hts _ List.mem_cons_self)
  cases B.named.symm.trans hn9
  cases B.method.symm.trans hm9
  cases (Stand.of_body B).code.symm.trans hc9
  have htab := z_tab ht9
  have hcat := hT.at htx
  refine z_tryV (X := z_IAE) (As := [.int (iI (x)), .int (iI (wh))]) (rest := [.int (iI (0)), .ref ao]) ⟨hx, hb, hml, hown, hgx⟩ (t_where_A l hfl x wh hx0 hw n hs hn6 hla h0 h1) (cwV 2 hgx (gx_V (fun _ h => h) (gx_gt (List.mem_append_right _ (List.mem_append_right _ (List.mem_append_right _ (List.mem_append_right _ (List.mem_append_right _ (List.mem_append_right _ (List.mem_append_right _ (List.mem_append_right _ (List.mem_append_right _ (List.mem_append_right _ (List.mem_append_right _ (List.mem_append_right _ (List.mem_append_left _ (List.mem_of_getElem? (i := 13) rfl))))))))))))))) (gx_gt (List.mem_append_right _ (List.mem_append_right _ (List.mem_append_right _ (List.mem_append_right _ (List.mem_append_right _ (List.mem_append_right _ (List.mem_append_right _ (List.mem_append_right _ (List.mem_append_right _ (List.mem_append_right _ (List.mem_append_right _ (List.mem_append_right _ (List.mem_append_left _ (List.mem_of_getElem? (i := 14) rfl))))))))))))))) (gx_gt (List.mem_append_right _ (List.mem_append_right _ (List.mem_append_right _ (List.mem_append_right _ (List.mem_append_right _ (List.mem_append_right _ (List.mem_append_right _ (List.mem_append_right _ (List.mem_append_right _ (List.mem_append_right _ (List.mem_append_right _ (List.mem_append_right _ (List.mem_append_left _ (List.mem_of_getElem? (i := 15) rfl))))))))))))))) (gx_gt (List.mem_append_right _ (List.mem_append_left _ (List.mem_of_getElem? (i := 2) rfl)))) (gx_gt (List.mem_append_right _ (List.mem_append_right _ (List.mem_append_right _ (List.mem_append_right _ (List.mem_append_right _ (List.mem_append_right _ (List.mem_append_right _ (List.mem_append_right _ (List.mem_append_right _ (List.mem_append_right _ (List.mem_append_right _ (List.mem_append_right _ (List.mem_append_left _ (List.mem_of_getElem? (i := 16) rfl)))))))))))))))) rfl rfl rfl (by decide +kernel) ⟨Nat.le_of_ble_eq_true rfl, Nat.le_of_ble_eq_true rfl⟩) ⟨rt_blind, (va_recv hK hP (ci := 0) (q0 := 0) rfl (wl_atE (by decide) rfl)), fun U hU hW => ⟨rfl, ⟨by rw [hU]; exact hP, va_K.moved hW.alike hK⟩, hT.kept hW (fun q hq => by rw [hU])⟩⟩ rfl hl.1 rfl (Nat.le_of_ble_eq_true rfl) d_LW_where_5 ⟨Nat.le_of_ble_eq_true rfl, Nat.le_of_ble_eq_true rfl⟩ [({ startPc := 0, endPc := 10, handlerPc := 13, catchType := 19 }, z_NSE)] { startPc := 0, endPc := 10, handlerPc := 17, catchType := 21 } [] htab (List.forall_mem_cons.mpr ⟨⟨by decide, by decide, (hcat (.classLink "PageLayoutLaw" 19 z_NSE) (lw_more (by simp [z_more]))), hT.2.2.1.1⟩, fun q hq => by cases hq⟩) (by decide) (by decide) (hcat (.classLink "PageLayoutLaw" 21 z_IAE) (lw_more (by simp [z_more]))) (hcat (.castable z_IAE z_IAE) (lw_more (by simp [z_more]))) (fun H1 hz1 hk1 => ?_)
  have hPn := z_keep (w := []) hP (fun i j p q h1 h2 => by simp at h1) (fun q h1 _ => hk1 q h1)
  have hP2n := z_keep (w := []) hP2 (fun i j p q h1 h2 => by simp at h1) (fun q h1 _ => hk1 q h1)
  refine lv_astore (x := s.heap.size) (lv' := [(4, .ref s.heap.size), (0, .ref (ad (0))), (1, .int (iI (x))), (2, .int (iI (wh))), (3, .ref ao)]) hx hb d_LW_where_17 hl (by decide) rfl (fun ls hl => ?_)
  refine z_iconst hx hb (z := 2) d_LW_where_19 ?_
  have hSn : va_S (va_A (pg_w ad cs rp M ++ wo cJ ao f) s.heap.size) s.heap H1 [] := ⟨hz1, fun q h1 _ => hk1 q h1, fun _ h => by cases h⟩
  exact W.iret (v := iI 2) hx hb hr (fun t ht hW => ⟨⟨_, (), rfl, rfl, by rw [ht]; exact hPn, by rw [ht]; exact hP2n, hDs, hD2s⟩, hSn.F ht⟩) hSn.2.2 d_LW_where_20
set_option maxHeartbeats 4000000 in
set_option maxRecDepth 100000 in
theorem w_page_0 (l : Launch) (hfl : l.flags = flags0) {D : va_G} {ad : Nat → Nat} {cs : pg_C} {rp : Option Nat} {M : Nat → Nat → Int} {cJ : ClassId} {ao : Nat} {f : Nat → Int64} (sz : Nat) (x wh : Int) (hx0 : zb x) (hw : zb wh) (np : Nat) (hn : M 5 1 = ((np : Nat) : Int)) (hn6 : np ≤ 630) (h0 : inn x 0 (((np : Nat) : Int) - 1)) (h1 : inn wh 0 2) : Met l y_LW_page (.codeWith y_LW_page b_LW_page 5 (some .int) h_LW_page :: gx) ({ frames := 7, cells := 1, slots := 6, locals := 110 } : Room) (va_Pc [.ref (ad (0)), .int (iI (x)), .int (iI (wh)), .ref ao] (lp_B D vwCl (pg_tys cs) (pg_w ad cs rp M) (wo cJ ao f) cJ sz)) (va_Qi (fun (r : Int32) (_ : Unit) => r = iI 0) (lp_E D vwCl (pg_w ad cs rp M) (wo cJ ao f) (pg_w ad cs rp (M)) (wo cJ ao (fun _ => (iI (M (26 + wh.toNat) x.toNat)).toInt64)) sz) (va_A ((pg_w ad cs rp M) ++ (wo cJ ao f)) sz)) 1 6 (va_A ((pg_w ad cs rp M) ++ (wo cJ ao f)) sz) := by
  refine va_MetW (cc := b_LW_page) (maxL := 5) (ret := (some .int)) (hh := h_LW_page) (by decide) rfl ?_
  intro p e s m args below meth c s₁ B hml hv
  obtain ⟨rfl, ⟨⟨hsz, hP, hK, hD0⟩, hT⟩, hP2, hKJ, hdj, hD20⟩ := hv
  have hx := B.exec
  have hb := B.bytes
  have hr := B.returns
  have hts := atoms_spec (ws := (.codeWith y_LW_page b_LW_page 5 (some .int) h_LW_page :: gx)) B.pre
  have hgx : ∀ w ∈ gx, w.before _ s = true := fun w h => hts w (List.mem_cons_of_mem _ h)
  have hg : ∀ w ∈ gt, w.before _ s = true := fun w h => hgx w (gx_gt h)
  have htx : ∀ w ∈ tx, w.before _ s = true := fun w h => hgx w (List.mem_append_right _ h)
  have hown : s.vm.findClass R_LW = some m.cls := findClass_of_methodNamed B.named
  have hlocks := B.notSynchronized
  subst hsz
  have hA : ∀ q : Nat, s.heap.size ≤ q → va_A ((pg_w ad cs rp M) ++ (wo cJ ao f)) s.heap.size q := fun q h => Or.inr h
  have hD : va_D (va_A ((pg_w ad cs rp M) ++ (wo cJ ao f)) s.heap.size) (pg_w ad cs rp M) := lw_Dl hD0
  have hD2 : va_D (va_A ((pg_w ad cs rp M) ++ (wo cJ ao f)) s.heap.size) (wo cJ ao f) := lw_Dr hD20
  have hDs : va_D (va_A (pg_w ad cs rp M) s.heap.size) (pg_w ad cs rp M) := hD0.self
  have hD2s : va_D (va_A (wo cJ ao f) s.heap.size) (wo cJ ao f) := hD20.self
  have hS : va_S (va_A ((pg_w ad cs rp M) ++ (wo cJ ao f)) s.heap.size) s.heap s.heap [] := va_S.rf
  have hl := lv_entry ([.ref (ad (0)), .int (iI (x)), .int (iI (wh)), .ref ao]) (n := 5) (Nat.le_of_ble_eq_true rfl)
  rw [lg_entry_eq]
  generalize (lg_sl ([.ref (ad (0)), .int (iI (x)), .int (iI (wh)), .ref ao]) ++ List.replicate (5 - (lg_sl ([.ref (ad (0)), .int (iI (x)), .int (iI (wh)), .ref ao])).length) Slot.unset).toArray = ls at hl ⊢
  have hl : lv_has ls 5 [(0, .ref (ad (0))), (1, .int (iI (x))), (2, .int (iI (wh))), (3, .ref ao)] := hl
  refine lv_aload_n hx hb d_LW_page_0 rfl (lv_at hl 3 rfl) ?_
  refine z_iconst hx hb (z := 0) d_LW_page_1 ?_
  refine lv_aload_n hx hb d_LW_page_2 rfl (lv_at hl 0 rfl) ?_
  refine lv_iload_n hx hb d_LW_page_3 rfl (lv_at hl 1 rfl) ?_
  refine lv_iload_n hx hb d_LW_page_4 rfl (lv_at hl 2 rfl) ?_
  refine ro_V (As := [.int (iI (x)), .int (iI (wh))]) (rest := [.int (iI (0)), .ref ao]) (z := M (26 + wh.toNat) x.toNat) ⟨hx, hb, hml, hown, hg⟩ (c_page l x wh hx0 hw np hn hn6 h0 h1) (cwV 2 hg (gt_V (List.mem_append_right _ (List.mem_append_right _ (List.mem_append_right _ (List.mem_append_right _ (List.mem_append_right _ (List.mem_append_right _ (List.mem_append_right _ (List.mem_append_right _ (List.mem_append_right _ (List.mem_append_right _ (List.mem_append_right _ (List.mem_append_right _ (List.mem_append_left _ (List.mem_of_getElem? (i := 19) rfl)))))))))))))) (List.mem_append_right _ (List.mem_append_right _ (List.mem_append_right _ (List.mem_append_right _ (List.mem_append_right _ (List.mem_append_right _ (List.mem_append_right _ (List.mem_append_right _ (List.mem_append_right _ (List.mem_append_right _ (List.mem_append_right _ (List.mem_append_right _ (List.mem_append_left _ (List.mem_of_getElem? (i := 20) rfl)))))))))))))) (List.mem_append_right _ (List.mem_append_right _ (List.mem_append_right _ (List.mem_append_right _ (List.mem_append_right _ (List.mem_append_right _ (List.mem_append_right _ (List.mem_append_right _ (List.mem_append_right _ (List.mem_append_right _ (List.mem_append_right _ (List.mem_append_right _ (List.mem_append_left _ (List.mem_of_getElem? (i := 21) rfl)))))))))))))) (List.mem_append_right _ (List.mem_append_left _ (List.mem_of_getElem? (i := 2) rfl))) (List.mem_append_right _ (List.mem_append_right _ (List.mem_append_right _ (List.mem_append_right _ (List.mem_append_right _ (List.mem_append_right _ (List.mem_append_right _ (List.mem_append_right _ (List.mem_append_right _ (List.mem_append_right _ (List.mem_append_right _ (List.mem_append_right _ (List.mem_append_left _ (List.mem_of_getElem? (i := 22) rfl))))))))))))))) rfl rfl rfl (by decide +kernel) ⟨Nat.le_of_ble_eq_true rfl, Nat.le_of_ble_eq_true rfl⟩) hK hP (va_recv hK hP (ci := 0) (q0 := 0) rfl (wl_atE (by decide) rfl)) rfl hl.1 rfl (Nat.le_of_ble_eq_true rfl) d_LW_page_5 ⟨Nat.zero_le _, Nat.zero_le _⟩ ?_
  have hPn := hP
  have hDn := hD
  have hDq := hDs
  have hP2n := hP2
  have hSn := hS
  refine lv_i2l hx hb d_LW_page_8 rfl ?_
  refine lw_last (v := (iI (M (26 + wh.toNat) x.toNat)).toInt64) hx hb hKJ hPn hP2n hDn hD2 (pg_dj hdj) hSn d_LW_page_9 (fun H2 locs2 hPn hP2n hSn => ?_)
  refine lv_goto (tgt := 21) hx hb d_LW_page_10 (by decide) ?_
  refine z_iconst hx hb (z := 0) d_LW_page_21 ?_
  refine W.widen (k := 1) (n := 6) (by decide) (by decide) ?_
  exact W.iret (v := iI 0) hx hb hr (fun t ht hW => ⟨⟨_, (), rfl, rfl, by rw [ht]; exact hPn, by rw [ht]; exact hP2n, hDq, lw_Do hD2s⟩, hSn.F ht⟩) hSn.2.2 d_LW_page_22
set_option maxHeartbeats 4000000 in
set_option maxRecDepth 100000 in
theorem w_page_N (l : Launch) (hfl : l.flags = flags0) {D : va_G} {ad : Nat → Nat} {cs : pg_C} {rp : Option Nat} {M : Nat → Nat → Int} {cJ : ClassId} {ao : Nat} {f : Nat → Int64} (sz : Nat) (x wh : Int) (hx0 : zb x) (hw : zb wh) (np : Nat) (hn : M 5 1 = ((np : Nat) : Int)) (hn6 : np ≤ 630) (h0 : ¬ inn x 0 (((np : Nat) : Int) - 1)) : Met l y_LW_page (.codeWith y_LW_page b_LW_page 5 (some .int) h_LW_page :: gx) ({ frames := 7, cells := 1, slots := 6, locals := 110 } : Room) (va_Pc [.ref (ad (0)), .int (iI (x)), .int (iI (wh)), .ref ao] (lp_B D vwCl (pg_tys cs) (pg_w ad cs rp M) (wo cJ ao f) cJ sz)) (va_Qi (fun (r : Int32) (_ : Unit) => r = iI 1) (lp_E D vwCl (pg_w ad cs rp M) (wo cJ ao f) (pg_w ad cs rp (M)) (wo cJ ao (f)) sz) (va_A ((pg_w ad cs rp M) ++ (wo cJ ao f)) sz)) 1 6 (va_A ((pg_w ad cs rp M) ++ (wo cJ ao f)) sz) := by
  refine va_MetW (cc := b_LW_page) (maxL := 5) (ret := (some .int)) (hh := h_LW_page) (by decide) rfl ?_
  intro p e s m args below meth c s₁ B hml hv
  obtain ⟨rfl, ⟨⟨hsz, hP, hK, hD0⟩, hT⟩, hP2, hKJ, hdj, hD20⟩ := hv
  have hx := B.exec
  have hb := B.bytes
  have hr := B.returns
  have hts := atoms_spec (ws := (.codeWith y_LW_page b_LW_page 5 (some .int) h_LW_page :: gx)) B.pre
  have hgx : ∀ w ∈ gx, w.before _ s = true := fun w h => hts w (List.mem_cons_of_mem _ h)
  have hg : ∀ w ∈ gt, w.before _ s = true := fun w h => hgx w (gx_gt h)
  have htx : ∀ w ∈ tx, w.before _ s = true := fun w h => hgx w (List.mem_append_right _ h)
  have hown : s.vm.findClass R_LW = some m.cls := findClass_of_methodNamed B.named
  have hlocks := B.notSynchronized
  subst hsz
  have hA : ∀ q : Nat, s.heap.size ≤ q → va_A ((pg_w ad cs rp M) ++ (wo cJ ao f)) s.heap.size q := fun q h => Or.inr h
  have hD : va_D (va_A ((pg_w ad cs rp M) ++ (wo cJ ao f)) s.heap.size) (pg_w ad cs rp M) := lw_Dl hD0
  have hD2 : va_D (va_A ((pg_w ad cs rp M) ++ (wo cJ ao f)) s.heap.size) (wo cJ ao f) := lw_Dr hD20
  have hDs : va_D (va_A (pg_w ad cs rp M) s.heap.size) (pg_w ad cs rp M) := hD0.self
  have hD2s : va_D (va_A (wo cJ ao f) s.heap.size) (wo cJ ao f) := hD20.self
  have hS : va_S (va_A ((pg_w ad cs rp M) ++ (wo cJ ao f)) s.heap.size) s.heap s.heap [] := va_S.rf
  have hl := lv_entry ([.ref (ad (0)), .int (iI (x)), .int (iI (wh)), .ref ao]) (n := 5) (Nat.le_of_ble_eq_true rfl)
  rw [lg_entry_eq]
  generalize (lg_sl ([.ref (ad (0)), .int (iI (x)), .int (iI (wh)), .ref ao]) ++ List.replicate (5 - (lg_sl ([.ref (ad (0)), .int (iI (x)), .int (iI (wh)), .ref ao])).length) Slot.unset).toArray = ls at hl ⊢
  have hl : lv_has ls 5 [(0, .ref (ad (0))), (1, .int (iI (x))), (2, .int (iI (wh))), (3, .ref ao)] := hl
  refine lv_aload_n hx hb d_LW_page_0 rfl (lv_at hl 3 rfl) ?_
  refine z_iconst hx hb (z := 0) d_LW_page_1 ?_
  refine lv_aload_n hx hb d_LW_page_2 rfl (lv_at hl 0 rfl) ?_
  refine lv_iload_n hx hb d_LW_page_3 rfl (lv_at hl 1 rfl) ?_
  refine lv_iload_n hx hb d_LW_page_4 rfl (lv_at hl 2 rfl) ?_
  obtain ⟨m9, meth9, c9, hn9, hm9, hc9, -, -, ht9, -⟩ := Cond.codeWith_spec (hts _ List.mem_cons_self)
  cases B.named.symm.trans hn9
  cases B.method.symm.trans hm9
  cases (Stand.of_body B).code.symm.trans hc9
  have htab := z_tab ht9
  have hcat := hT.at htx
  refine z_tryV (X := z_NSE) (As := [.int (iI (x)), .int (iI (wh))]) (rest := [.int (iI (0)), .ref ao]) ⟨hx, hb, hml, hown, hgx⟩ (t_page_N l hfl x wh hx0 hw np hn hn6 h0) (cwV 2 hgx (gx_V (fun _ h => h) (gx_gt (List.mem_append_right _ (List.mem_append_right _ (List.mem_append_right _ (List.mem_append_right _ (List.mem_append_right _ (List.mem_append_right _ (List.mem_append_right _ (List.mem_append_right _ (List.mem_append_right _ (List.mem_append_right _ (List.mem_append_right _ (List.mem_append_right _ (List.mem_append_left _ (List.mem_of_getElem? (i := 19) rfl))))))))))))))) (gx_gt (List.mem_append_right _ (List.mem_append_right _ (List.mem_append_right _ (List.mem_append_right _ (List.mem_append_right _ (List.mem_append_right _ (List.mem_append_right _ (List.mem_append_right _ (List.mem_append_right _ (List.mem_append_right _ (List.mem_append_right _ (List.mem_append_right _ (List.mem_append_left _ (List.mem_of_getElem? (i := 20) rfl))))))))))))))) (gx_gt (List.mem_append_right _ (List.mem_append_right _ (List.mem_append_right _ (List.mem_append_right _ (List.mem_append_right _ (List.mem_append_right _ (List.mem_append_right _ (List.mem_append_right _ (List.mem_append_right _ (List.mem_append_right _ (List.mem_append_right _ (List.mem_append_right _ (List.mem_append_left _ (List.mem_of_getElem? (i := 21) rfl))))))))))))))) (gx_gt (List.mem_append_right _ (List.mem_append_left _ (List.mem_of_getElem? (i := 2) rfl)))) (gx_gt (List.mem_append_right _ (List.mem_append_right _ (List.mem_append_right _ (List.mem_append_right _ (List.mem_append_right _ (List.mem_append_right _ (List.mem_append_right _ (List.mem_append_right _ (List.mem_append_right _ (List.mem_append_right _ (List.mem_append_right _ (List.mem_append_right _ (List.mem_append_left _ (List.mem_of_getElem? (i := 22) rfl)))))))))))))))) rfl rfl rfl (by decide +kernel) ⟨Nat.le_of_ble_eq_true rfl, Nat.le_of_ble_eq_true rfl⟩) ⟨rt_blind, (va_recv hK hP (ci := 0) (q0 := 0) rfl (wl_atE (by decide) rfl)), fun U hU hW => ⟨rfl, ⟨by rw [hU]; exact hP, va_K.moved hW.alike hK⟩, hT.kept hW (fun q hq => by rw [hU])⟩⟩ rfl hl.1 rfl (Nat.le_of_ble_eq_true rfl) d_LW_page_5 ⟨Nat.le_of_ble_eq_true rfl, Nat.le_of_ble_eq_true rfl⟩ [] { startPc := 0, endPc := 10, handlerPc := 13, catchType := 19 } [{ startPc := 0, endPc := 10, handlerPc := 17, catchType := 21 }] htab (fun q hq => by cases hq) (by decide) (by decide) (hcat (.classLink "PageLayoutLaw" 19 z_NSE) (lw_more (by simp [z_more]))) (hcat (.castable z_NSE z_NSE) (lw_more (by simp [z_more]))) (fun H1 hz1 hk1 => ?_)
  have hPn := z_keep (w := []) hP (fun i j p q h1 h2 => by simp at h1) (fun q h1 _ => hk1 q h1)
  have hP2n := z_keep (w := []) hP2 (fun i j p q h1 h2 => by simp at h1) (fun q h1 _ => hk1 q h1)
  refine lv_astore (x := s.heap.size) (lv' := [(4, .ref s.heap.size), (0, .ref (ad (0))), (1, .int (iI (x))), (2, .int (iI (wh))), (3, .ref ao)]) hx hb d_LW_page_13 hl (by decide) rfl (fun ls hl => ?_)
  refine z_iconst hx hb (z := 1) d_LW_page_15 ?_
  have hSn : va_S (va_A (pg_w ad cs rp M ++ wo cJ ao f) s.heap.size) s.heap H1 [] := ⟨hz1, fun q h1 _ => hk1 q h1, fun _ h => by cases h⟩
  exact W.iret (v := iI 1) hx hb hr (fun t ht hW => ⟨⟨_, (), rfl, rfl, by rw [ht]; exact hPn, by rw [ht]; exact hP2n, hDs, hD2s⟩, hSn.F ht⟩) hSn.2.2 d_LW_page_16
set_option maxHeartbeats 4000000 in
set_option maxRecDepth 100000 in
theorem w_page_A (l : Launch) (hfl : l.flags = flags0) {D : va_G} {ad : Nat → Nat} {cs : pg_C} {rp : Option Nat} {M : Nat → Nat → Int} {cJ : ClassId} {ao : Nat} {f : Nat → Int64} (sz : Nat) (x wh : Int) (hx0 : zb x) (hw : zb wh) (np : Nat) (hn : M 5 1 = ((np : Nat) : Int)) (hn6 : np ≤ 630) (h0 : inn x 0 (((np : Nat) : Int) - 1)) (h1 : ¬ inn wh 0 2) : Met l y_LW_page (.codeWith y_LW_page b_LW_page 5 (some .int) h_LW_page :: gx) ({ frames := 7, cells := 1, slots := 6, locals := 110 } : Room) (va_Pc [.ref (ad (0)), .int (iI (x)), .int (iI (wh)), .ref ao] (lp_B D vwCl (pg_tys cs) (pg_w ad cs rp M) (wo cJ ao f) cJ sz)) (va_Qi (fun (r : Int32) (_ : Unit) => r = iI 2) (lp_E D vwCl (pg_w ad cs rp M) (wo cJ ao f) (pg_w ad cs rp (M)) (wo cJ ao (f)) sz) (va_A ((pg_w ad cs rp M) ++ (wo cJ ao f)) sz)) 1 6 (va_A ((pg_w ad cs rp M) ++ (wo cJ ao f)) sz) := by
  refine va_MetW (cc := b_LW_page) (maxL := 5) (ret := (some .int)) (hh := h_LW_page) (by decide) rfl ?_
  intro p e s m args below meth c s₁ B hml hv
  obtain ⟨rfl, ⟨⟨hsz, hP, hK, hD0⟩, hT⟩, hP2, hKJ, hdj, hD20⟩ := hv
  have hx := B.exec
  have hb := B.bytes
  have hr := B.returns
  have hts := atoms_spec (ws := (.codeWith y_LW_page b_LW_page 5 (some .int) h_LW_page :: gx)) B.pre
  have hgx : ∀ w ∈ gx, w.before _ s = true := fun w h => hts w (List.mem_cons_of_mem _ h)
  have hg : ∀ w ∈ gt, w.before _ s = true := fun w h => hgx w (gx_gt h)
  have htx : ∀ w ∈ tx, w.before _ s = true := fun w h => hgx w (List.mem_append_right _ h)
  have hown : s.vm.findClass R_LW = some m.cls := findClass_of_methodNamed B.named
  have hlocks := B.notSynchronized
  subst hsz
  have hA : ∀ q : Nat, s.heap.size ≤ q → va_A ((pg_w ad cs rp M) ++ (wo cJ ao f)) s.heap.size q := fun q h => Or.inr h
  have hD : va_D (va_A ((pg_w ad cs rp M) ++ (wo cJ ao f)) s.heap.size) (pg_w ad cs rp M) := lw_Dl hD0
  have hD2 : va_D (va_A ((pg_w ad cs rp M) ++ (wo cJ ao f)) s.heap.size) (wo cJ ao f) := lw_Dr hD20
  have hDs : va_D (va_A (pg_w ad cs rp M) s.heap.size) (pg_w ad cs rp M) := hD0.self
  have hD2s : va_D (va_A (wo cJ ao f) s.heap.size) (wo cJ ao f) := hD20.self
  have hS : va_S (va_A ((pg_w ad cs rp M) ++ (wo cJ ao f)) s.heap.size) s.heap s.heap [] := va_S.rf
  have hl := lv_entry ([.ref (ad (0)), .int (iI (x)), .int (iI (wh)), .ref ao]) (n := 5) (Nat.le_of_ble_eq_true rfl)
  rw [lg_entry_eq]
  generalize (lg_sl ([.ref (ad (0)), .int (iI (x)), .int (iI (wh)), .ref ao]) ++ List.replicate (5 - (lg_sl ([.ref (ad (0)), .int (iI (x)), .int (iI (wh)), .ref ao])).length) Slot.unset).toArray = ls at hl ⊢
  have hl : lv_has ls 5 [(0, .ref (ad (0))), (1, .int (iI (x))), (2, .int (iI (wh))), (3, .ref ao)] := hl
  refine lv_aload_n hx hb d_LW_page_0 rfl (lv_at hl 3 rfl) ?_
  refine z_iconst hx hb (z := 0) d_LW_page_1 ?_
  refine lv_aload_n hx hb d_LW_page_2 rfl (lv_at hl 0 rfl) ?_
  refine lv_iload_n hx hb d_LW_page_3 rfl (lv_at hl 1 rfl) ?_
  refine lv_iload_n hx hb d_LW_page_4 rfl (lv_at hl 2 rfl) ?_
  obtain ⟨m9, meth9, c9, hn9, hm9, hc9, -, -, ht9, -⟩ := Cond.codeWith_spec (hts _ List.mem_cons_self)
  cases B.named.symm.trans hn9
  cases B.method.symm.trans hm9
  cases (Stand.of_body B).code.symm.trans hc9
  have htab := z_tab ht9
  have hcat := hT.at htx
  refine z_tryV (X := z_IAE) (As := [.int (iI (x)), .int (iI (wh))]) (rest := [.int (iI (0)), .ref ao]) ⟨hx, hb, hml, hown, hgx⟩ (t_page_A l hfl x wh hx0 hw np hn hn6 h0 h1) (cwV 2 hgx (gx_V (fun _ h => h) (gx_gt (List.mem_append_right _ (List.mem_append_right _ (List.mem_append_right _ (List.mem_append_right _ (List.mem_append_right _ (List.mem_append_right _ (List.mem_append_right _ (List.mem_append_right _ (List.mem_append_right _ (List.mem_append_right _ (List.mem_append_right _ (List.mem_append_right _ (List.mem_append_left _ (List.mem_of_getElem? (i := 19) rfl))))))))))))))) (gx_gt (List.mem_append_right _ (List.mem_append_right _ (List.mem_append_right _ (List.mem_append_right _ (List.mem_append_right _ (List.mem_append_right _ (List.mem_append_right _ (List.mem_append_right _ (List.mem_append_right _ (List.mem_append_right _ (List.mem_append_right _ (List.mem_append_right _ (List.mem_append_left _ (List.mem_of_getElem? (i := 20) rfl))))))))))))))) (gx_gt (List.mem_append_right _ (List.mem_append_right _ (List.mem_append_right _ (List.mem_append_right _ (List.mem_append_right _ (List.mem_append_right _ (List.mem_append_right _ (List.mem_append_right _ (List.mem_append_right _ (List.mem_append_right _ (List.mem_append_right _ (List.mem_append_right _ (List.mem_append_left _ (List.mem_of_getElem? (i := 21) rfl))))))))))))))) (gx_gt (List.mem_append_right _ (List.mem_append_left _ (List.mem_of_getElem? (i := 2) rfl)))) (gx_gt (List.mem_append_right _ (List.mem_append_right _ (List.mem_append_right _ (List.mem_append_right _ (List.mem_append_right _ (List.mem_append_right _ (List.mem_append_right _ (List.mem_append_right _ (List.mem_append_right _ (List.mem_append_right _ (List.mem_append_right _ (List.mem_append_right _ (List.mem_append_left _ (List.mem_of_getElem? (i := 22) rfl)))))))))))))))) rfl rfl rfl (by decide +kernel) ⟨Nat.le_of_ble_eq_true rfl, Nat.le_of_ble_eq_true rfl⟩) ⟨rt_blind, (va_recv hK hP (ci := 0) (q0 := 0) rfl (wl_atE (by decide) rfl)), fun U hU hW => ⟨rfl, ⟨by rw [hU]; exact hP, va_K.moved hW.alike hK⟩, hT.kept hW (fun q hq => by rw [hU])⟩⟩ rfl hl.1 rfl (Nat.le_of_ble_eq_true rfl) d_LW_page_5 ⟨Nat.le_of_ble_eq_true rfl, Nat.le_of_ble_eq_true rfl⟩ [({ startPc := 0, endPc := 10, handlerPc := 13, catchType := 19 }, z_NSE)] { startPc := 0, endPc := 10, handlerPc := 17, catchType := 21 } [] htab (List.forall_mem_cons.mpr ⟨⟨by decide, by decide, (hcat (.classLink "PageLayoutLaw" 19 z_NSE) (lw_more (by simp [z_more]))), hT.2.2.1.1⟩, fun q hq => by cases hq⟩) (by decide) (by decide) (hcat (.classLink "PageLayoutLaw" 21 z_IAE) (lw_more (by simp [z_more]))) (hcat (.castable z_IAE z_IAE) (lw_more (by simp [z_more]))) (fun H1 hz1 hk1 => ?_)
  have hPn := z_keep (w := []) hP (fun i j p q h1 h2 => by simp at h1) (fun q h1 _ => hk1 q h1)
  have hP2n := z_keep (w := []) hP2 (fun i j p q h1 h2 => by simp at h1) (fun q h1 _ => hk1 q h1)
  refine lv_astore (x := s.heap.size) (lv' := [(4, .ref s.heap.size), (0, .ref (ad (0))), (1, .int (iI (x))), (2, .int (iI (wh))), (3, .ref ao)]) hx hb d_LW_page_17 hl (by decide) rfl (fun ls hl => ?_)
  refine z_iconst hx hb (z := 2) d_LW_page_19 ?_
  have hSn : va_S (va_A (pg_w ad cs rp M ++ wo cJ ao f) s.heap.size) s.heap H1 [] := ⟨hz1, fun q h1 _ => hk1 q h1, fun _ h => by cases h⟩
  exact W.iret (v := iI 2) hx hb hr (fun t ht hW => ⟨⟨_, (), rfl, rfl, by rw [ht]; exact hPn, by rw [ht]; exact hP2n, hDs, hD2s⟩, hSn.F ht⟩) hSn.2.2 d_LW_page_20
set_option maxHeartbeats 4000000 in
set_option maxRecDepth 100000 in
theorem w_hit_0 (l : Launch) (hfl : l.flags = flags0) {D : va_G} {ad : Nat → Nat} {cs : pg_C} {rp : Option Nat} {M : Nat → Nat → Int} {cJ : ClassId} {ao : Nat} {f : Nat → Int64} (sz : Nat) (x xx yy : Int) (hx0 : zb x) (hxx : zb xx) (hyy : zb yy) (np : Nat) (hn : M 5 1 = ((np : Nat) : Int)) (hn6 : np ≤ 630) (h0 : inn x 0 (((np : Nat) : Int) - 1)) (g a k : Nat) (hg0 : x = ((g : Nat) : Int)) (ha : M 26 g = ((a : Nat) : Int)) (hk : M 27 g = ((k : Nat) : Int)) (hk1 : 1 ≤ k) (hak : a + k ≤ 630) (hz : ∀ j, zb (M 20 j)) (hL : wfl M) (ht : wfT M) (hpf : ∀ j, 0 ≤ M 24 j ∧ M 24 j ≤ 100000000) (hpw : ∀ j, 0 ≤ M 25 j ∧ M 25 j ≤ 100000000) : Met l y_LW_hit (.codeWith y_LW_hit b_LW_hit 6 (some .int) h_LW_hit :: gx) ({ frames := 7, cells := 1, slots := 6, locals := 110 } : Room) (va_Pc [.ref (ad (0)), .int (iI (x)), .int (iI (xx)), .int (iI (yy)), .ref ao] (lp_B D vwCl (pg_tys cs) (pg_w ad cs rp M) (wo cJ ao f) cJ sz)) (va_Qi (fun (r : Int32) (_ : Unit) => r = iI 0) (lp_E D vwCl (pg_w ad cs rp M) (wo cJ ao f) (pg_w ad cs rp (M)) (wo cJ ao (fun _ => (iI (((p_ah (M 7) (M 24) (M 25) xx (lk M (p_lat (M 20) yy a (a + k - 1))) (lf M (p_lat (M 20) yy a (a + k - 1))) : Nat) : Int))).toInt64)) sz) (va_A ((pg_w ad cs rp M) ++ (wo cJ ao f)) sz)) 1 6 (va_A ((pg_w ad cs rp M) ++ (wo cJ ao f)) sz) := by
  refine va_MetW (cc := b_LW_hit) (maxL := 6) (ret := (some .int)) (hh := h_LW_hit) (by decide) rfl ?_
  intro p e s m args below meth c s₁ B hml hv
  obtain ⟨rfl, ⟨⟨hsz, hP, hK, hD0⟩, hT⟩, hP2, hKJ, hdj, hD20⟩ := hv
  have hx := B.exec
  have hb := B.bytes
  have hr := B.returns
  have hts := atoms_spec (ws := (.codeWith y_LW_hit b_LW_hit 6 (some .int) h_LW_hit :: gx)) B.pre
  have hgx : ∀ w ∈ gx, w.before _ s = true := fun w h => hts w (List.mem_cons_of_mem _ h)
  have hg : ∀ w ∈ gt, w.before _ s = true := fun w h => hgx w (gx_gt h)
  have htx : ∀ w ∈ tx, w.before _ s = true := fun w h => hgx w (List.mem_append_right _ h)
  have hown : s.vm.findClass R_LW = some m.cls := findClass_of_methodNamed B.named
  have hlocks := B.notSynchronized
  subst hsz
  have hA : ∀ q : Nat, s.heap.size ≤ q → va_A ((pg_w ad cs rp M) ++ (wo cJ ao f)) s.heap.size q := fun q h => Or.inr h
  have hD : va_D (va_A ((pg_w ad cs rp M) ++ (wo cJ ao f)) s.heap.size) (pg_w ad cs rp M) := lw_Dl hD0
  have hD2 : va_D (va_A ((pg_w ad cs rp M) ++ (wo cJ ao f)) s.heap.size) (wo cJ ao f) := lw_Dr hD20
  have hDs : va_D (va_A (pg_w ad cs rp M) s.heap.size) (pg_w ad cs rp M) := hD0.self
  have hD2s : va_D (va_A (wo cJ ao f) s.heap.size) (wo cJ ao f) := hD20.self
  have hS : va_S (va_A ((pg_w ad cs rp M) ++ (wo cJ ao f)) s.heap.size) s.heap s.heap [] := va_S.rf
  have hl := lv_entry ([.ref (ad (0)), .int (iI (x)), .int (iI (xx)), .int (iI (yy)), .ref ao]) (n := 6) (Nat.le_of_ble_eq_true rfl)
  rw [lg_entry_eq]
  generalize (lg_sl ([.ref (ad (0)), .int (iI (x)), .int (iI (xx)), .int (iI (yy)), .ref ao]) ++ List.replicate (6 - (lg_sl ([.ref (ad (0)), .int (iI (x)), .int (iI (xx)), .int (iI (yy)), .ref ao])).length) Slot.unset).toArray = ls at hl ⊢
  have hl : lv_has ls 6 [(0, .ref (ad (0))), (1, .int (iI (x))), (2, .int (iI (xx))), (3, .int (iI (yy))), (4, .ref ao)] := hl
  refine lv_aload hx hb d_LW_hit_0 (lv_at hl 4 rfl) ?_
  refine z_iconst hx hb (z := 0) d_LW_hit_2 ?_
  refine lv_aload_n hx hb d_LW_hit_3 rfl (lv_at hl 0 rfl) ?_
  refine lv_iload_n hx hb d_LW_hit_4 rfl (lv_at hl 1 rfl) ?_
  refine lv_iload_n hx hb d_LW_hit_5 rfl (lv_at hl 2 rfl) ?_
  refine lv_iload_n hx hb d_LW_hit_6 rfl (lv_at hl 3 rfl) ?_
  refine ro_V (As := [.int (iI (x)), .int (iI (xx)), .int (iI (yy))]) (rest := [.int (iI (0)), .ref ao]) (z := ((p_ah (M 7) (M 24) (M 25) xx (lk M (p_lat (M 20) yy a (a + k - 1))) (lf M (p_lat (M 20) yy a (a + k - 1))) : Nat) : Int)) ⟨hx, hb, hml, hown, hg⟩ (c_hit l x xx yy hx0 hxx hyy np hn hn6 h0 g a k hg0 ha hk hk1 hak hz hL ht hpf hpw) (cwV 3 hg (gt_V (List.mem_append_right _ (List.mem_append_right _ (List.mem_append_right _ (List.mem_append_right _ (List.mem_append_right _ (List.mem_append_right _ (List.mem_append_right _ (List.mem_append_right _ (List.mem_append_right _ (List.mem_append_right _ (List.mem_append_right _ (List.mem_append_right _ (List.mem_append_left _ (List.mem_of_getElem? (i := 25) rfl)))))))))))))) (List.mem_append_right _ (List.mem_append_right _ (List.mem_append_right _ (List.mem_append_right _ (List.mem_append_right _ (List.mem_append_right _ (List.mem_append_right _ (List.mem_append_right _ (List.mem_append_right _ (List.mem_append_right _ (List.mem_append_right _ (List.mem_append_right _ (List.mem_append_left _ (List.mem_of_getElem? (i := 26) rfl)))))))))))))) (List.mem_append_right _ (List.mem_append_right _ (List.mem_append_right _ (List.mem_append_right _ (List.mem_append_right _ (List.mem_append_right _ (List.mem_append_right _ (List.mem_append_right _ (List.mem_append_right _ (List.mem_append_right _ (List.mem_append_right _ (List.mem_append_right _ (List.mem_append_left _ (List.mem_of_getElem? (i := 27) rfl)))))))))))))) (List.mem_append_right _ (List.mem_append_left _ (List.mem_of_getElem? (i := 2) rfl))) (List.mem_append_right _ (List.mem_append_right _ (List.mem_append_right _ (List.mem_append_right _ (List.mem_append_right _ (List.mem_append_right _ (List.mem_append_right _ (List.mem_append_right _ (List.mem_append_right _ (List.mem_append_right _ (List.mem_append_right _ (List.mem_append_right _ (List.mem_append_left _ (List.mem_of_getElem? (i := 28) rfl))))))))))))))) rfl rfl rfl (by decide +kernel) ⟨Nat.le_of_ble_eq_true rfl, Nat.le_of_ble_eq_true rfl⟩) hK hP (va_recv hK hP (ci := 0) (q0 := 0) rfl (wl_atE (by decide) rfl)) rfl hl.1 rfl (Nat.le_of_ble_eq_true rfl) d_LW_hit_7 ⟨Nat.zero_le _, Nat.zero_le _⟩ ?_
  have hPn := hP
  have hDn := hD
  have hDq := hDs
  have hP2n := hP2
  have hSn := hS
  refine lv_i2l hx hb d_LW_hit_10 rfl ?_
  refine lw_last (v := (iI (((p_ah (M 7) (M 24) (M 25) xx (lk M (p_lat (M 20) yy a (a + k - 1))) (lf M (p_lat (M 20) yy a (a + k - 1))) : Nat) : Int))).toInt64) hx hb hKJ hPn hP2n hDn hD2 (pg_dj hdj) hSn d_LW_hit_11 (fun H2 locs2 hPn hP2n hSn => ?_)
  refine lv_goto (tgt := 19) hx hb d_LW_hit_12 (by decide) ?_
  refine z_iconst hx hb (z := 0) d_LW_hit_19 ?_
  refine W.widen (k := 1) (n := 6) (by decide) (by decide) ?_
  exact W.iret (v := iI 0) hx hb hr (fun t ht hW => ⟨⟨_, (), rfl, rfl, by rw [ht]; exact hPn, by rw [ht]; exact hP2n, hDq, lw_Do hD2s⟩, hSn.F ht⟩) hSn.2.2 d_LW_hit_20
set_option maxHeartbeats 4000000 in
set_option maxRecDepth 100000 in
theorem w_hit_N (l : Launch) (hfl : l.flags = flags0) {D : va_G} {ad : Nat → Nat} {cs : pg_C} {rp : Option Nat} {M : Nat → Nat → Int} {cJ : ClassId} {ao : Nat} {f : Nat → Int64} (sz : Nat) (x xx yy : Int) (hx0 : zb x) (np : Nat) (hn : M 5 1 = ((np : Nat) : Int)) (hn6 : np ≤ 630) (h0 : ¬ inn x 0 (((np : Nat) : Int) - 1)) : Met l y_LW_hit (.codeWith y_LW_hit b_LW_hit 6 (some .int) h_LW_hit :: gx) ({ frames := 7, cells := 1, slots := 6, locals := 110 } : Room) (va_Pc [.ref (ad (0)), .int (iI (x)), .int (iI (xx)), .int (iI (yy)), .ref ao] (lp_B D vwCl (pg_tys cs) (pg_w ad cs rp M) (wo cJ ao f) cJ sz)) (va_Qi (fun (r : Int32) (_ : Unit) => r = iI 1) (lp_E D vwCl (pg_w ad cs rp M) (wo cJ ao f) (pg_w ad cs rp (M)) (wo cJ ao (f)) sz) (va_A ((pg_w ad cs rp M) ++ (wo cJ ao f)) sz)) 1 6 (va_A ((pg_w ad cs rp M) ++ (wo cJ ao f)) sz) := by
  refine va_MetW (cc := b_LW_hit) (maxL := 6) (ret := (some .int)) (hh := h_LW_hit) (by decide) rfl ?_
  intro p e s m args below meth c s₁ B hml hv
  obtain ⟨rfl, ⟨⟨hsz, hP, hK, hD0⟩, hT⟩, hP2, hKJ, hdj, hD20⟩ := hv
  have hx := B.exec
  have hb := B.bytes
  have hr := B.returns
  have hts := atoms_spec (ws := (.codeWith y_LW_hit b_LW_hit 6 (some .int) h_LW_hit :: gx)) B.pre
  have hgx : ∀ w ∈ gx, w.before _ s = true := fun w h => hts w (List.mem_cons_of_mem _ h)
  have hg : ∀ w ∈ gt, w.before _ s = true := fun w h => hgx w (gx_gt h)
  have htx : ∀ w ∈ tx, w.before _ s = true := fun w h => hgx w (List.mem_append_right _ h)
  have hown : s.vm.findClass R_LW = some m.cls := findClass_of_methodNamed B.named
  have hlocks := B.notSynchronized
  subst hsz
  have hA : ∀ q : Nat, s.heap.size ≤ q → va_A ((pg_w ad cs rp M) ++ (wo cJ ao f)) s.heap.size q := fun q h => Or.inr h
  have hD : va_D (va_A ((pg_w ad cs rp M) ++ (wo cJ ao f)) s.heap.size) (pg_w ad cs rp M) := lw_Dl hD0
  have hD2 : va_D (va_A ((pg_w ad cs rp M) ++ (wo cJ ao f)) s.heap.size) (wo cJ ao f) := lw_Dr hD20
  have hDs : va_D (va_A (pg_w ad cs rp M) s.heap.size) (pg_w ad cs rp M) := hD0.self
  have hD2s : va_D (va_A (wo cJ ao f) s.heap.size) (wo cJ ao f) := hD20.self
  have hS : va_S (va_A ((pg_w ad cs rp M) ++ (wo cJ ao f)) s.heap.size) s.heap s.heap [] := va_S.rf
  have hl := lv_entry ([.ref (ad (0)), .int (iI (x)), .int (iI (xx)), .int (iI (yy)), .ref ao]) (n := 6) (Nat.le_of_ble_eq_true rfl)
  rw [lg_entry_eq]
  generalize (lg_sl ([.ref (ad (0)), .int (iI (x)), .int (iI (xx)), .int (iI (yy)), .ref ao]) ++ List.replicate (6 - (lg_sl ([.ref (ad (0)), .int (iI (x)), .int (iI (xx)), .int (iI (yy)), .ref ao])).length) Slot.unset).toArray = ls at hl ⊢
  have hl : lv_has ls 6 [(0, .ref (ad (0))), (1, .int (iI (x))), (2, .int (iI (xx))), (3, .int (iI (yy))), (4, .ref ao)] := hl
  refine lv_aload hx hb d_LW_hit_0 (lv_at hl 4 rfl) ?_
  refine z_iconst hx hb (z := 0) d_LW_hit_2 ?_
  refine lv_aload_n hx hb d_LW_hit_3 rfl (lv_at hl 0 rfl) ?_
  refine lv_iload_n hx hb d_LW_hit_4 rfl (lv_at hl 1 rfl) ?_
  refine lv_iload_n hx hb d_LW_hit_5 rfl (lv_at hl 2 rfl) ?_
  refine lv_iload_n hx hb d_LW_hit_6 rfl (lv_at hl 3 rfl) ?_
  obtain ⟨m9, meth9, c9, hn9, hm9, hc9, -, -, ht9, -⟩ := Cond.codeWith_spec (hts _ List.mem_cons_self)
  cases B.named.symm.trans hn9
  cases B.method.symm.trans hm9
  cases (Stand.of_body B).code.symm.trans hc9
  have htab := z_tab ht9
  have hcat := hT.at htx
  refine z_tryV (X := z_NSE) (As := [.int (iI (x)), .int (iI (xx)), .int (iI (yy))]) (rest := [.int (iI (0)), .ref ao]) ⟨hx, hb, hml, hown, hgx⟩ (t_hit_N l hfl x xx yy hx0 np hn hn6 h0) (cwV 3 hgx (gx_V (fun _ h => h) (gx_gt (List.mem_append_right _ (List.mem_append_right _ (List.mem_append_right _ (List.mem_append_right _ (List.mem_append_right _ (List.mem_append_right _ (List.mem_append_right _ (List.mem_append_right _ (List.mem_append_right _ (List.mem_append_right _ (List.mem_append_right _ (List.mem_append_right _ (List.mem_append_left _ (List.mem_of_getElem? (i := 25) rfl))))))))))))))) (gx_gt (List.mem_append_right _ (List.mem_append_right _ (List.mem_append_right _ (List.mem_append_right _ (List.mem_append_right _ (List.mem_append_right _ (List.mem_append_right _ (List.mem_append_right _ (List.mem_append_right _ (List.mem_append_right _ (List.mem_append_right _ (List.mem_append_right _ (List.mem_append_left _ (List.mem_of_getElem? (i := 26) rfl))))))))))))))) (gx_gt (List.mem_append_right _ (List.mem_append_right _ (List.mem_append_right _ (List.mem_append_right _ (List.mem_append_right _ (List.mem_append_right _ (List.mem_append_right _ (List.mem_append_right _ (List.mem_append_right _ (List.mem_append_right _ (List.mem_append_right _ (List.mem_append_right _ (List.mem_append_left _ (List.mem_of_getElem? (i := 27) rfl))))))))))))))) (gx_gt (List.mem_append_right _ (List.mem_append_left _ (List.mem_of_getElem? (i := 2) rfl)))) (gx_gt (List.mem_append_right _ (List.mem_append_right _ (List.mem_append_right _ (List.mem_append_right _ (List.mem_append_right _ (List.mem_append_right _ (List.mem_append_right _ (List.mem_append_right _ (List.mem_append_right _ (List.mem_append_right _ (List.mem_append_right _ (List.mem_append_right _ (List.mem_append_left _ (List.mem_of_getElem? (i := 28) rfl)))))))))))))))) rfl rfl rfl (by decide +kernel) ⟨Nat.le_of_ble_eq_true rfl, Nat.le_of_ble_eq_true rfl⟩) ⟨rt_blind, (va_recv hK hP (ci := 0) (q0 := 0) rfl (wl_atE (by decide) rfl)), fun U hU hW => ⟨rfl, ⟨by rw [hU]; exact hP, va_K.moved hW.alike hK⟩, hT.kept hW (fun q hq => by rw [hU])⟩⟩ rfl hl.1 rfl (Nat.le_of_ble_eq_true rfl) d_LW_hit_7 ⟨Nat.le_of_ble_eq_true rfl, Nat.le_of_ble_eq_true rfl⟩ [] { startPc := 0, endPc := 12, handlerPc := 15, catchType := 19 } [] htab (fun q hq => by cases hq) (by decide) (by decide) (hcat (.classLink "PageLayoutLaw" 19 z_NSE) (lw_more (by simp [z_more]))) (hcat (.castable z_NSE z_NSE) (lw_more (by simp [z_more]))) (fun H1 hz1 hk1 => ?_)
  have hPn := z_keep (w := []) hP (fun i j p q h1 h2 => by simp at h1) (fun q h1 _ => hk1 q h1)
  have hP2n := z_keep (w := []) hP2 (fun i j p q h1 h2 => by simp at h1) (fun q h1 _ => hk1 q h1)
  refine lv_astore (x := s.heap.size) (lv' := [(5, .ref s.heap.size), (0, .ref (ad (0))), (1, .int (iI (x))), (2, .int (iI (xx))), (3, .int (iI (yy))), (4, .ref ao)]) hx hb d_LW_hit_15 hl (by decide) rfl (fun ls hl => ?_)
  refine z_iconst hx hb (z := 1) d_LW_hit_17 ?_
  have hSn : va_S (va_A (pg_w ad cs rp M ++ wo cJ ao f) s.heap.size) s.heap H1 [] := ⟨hz1, fun q h1 _ => hk1 q h1, fun _ h => by cases h⟩
  exact W.iret (v := iI 1) hx hb hr (fun t ht hW => ⟨⟨_, (), rfl, rfl, by rw [ht]; exact hPn, by rw [ht]; exact hP2n, hDs, hD2s⟩, hSn.F ht⟩) hSn.2.2 d_LW_hit_18
