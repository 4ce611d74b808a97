set_option maxHeartbeats 4000000 in
set_option maxRecDepth 100000 in
theorem k_PA (l : Launch) {D : va_G} {cs : pg_C} (sz b  : Nat) : Met l y_PA_init (.code y_PA_init b_PA_init 1 none :: ga) ({ frames := 1, cells := 3, slots := 27, locals := 12 } : Room) (va_Pc [.ref b] (kz_B D vwCl (pg_tys cs) [(b, .inr (6, [.null, .null, .null, .int (iI 0), .int (iI 0), .int (iI 0)]))] sz cs)) (va_Qv (fun u : Nat × Nat × Nat => True) (k_E D vwCl [(b, .inr (6, [.null, .null, .null, .int (iI 0), .int (iI 0), .int (iI 0)]))] (fun u : Nat × Nat × Nat => wPA cs b u) sz) (va_A [(b, .inr (6, [.null, .null, .null, .int (iI 0), .int (iI 0), .int (iI 0)]))] sz)) 3 27 (va_A [(b, .inr (6, [.null, .null, .null, .int (iI 0), .int (iI 0), .int (iI 0)]))] sz) := by
  refine Met.ofW (cc := b_PA_init) (maxL := 1) (ret := none) (by decide) rfl ?_
  intro p e s m args below meth c s₁ B hml hv
  obtain ⟨rfl, ⟨hsz, hP, hK, hD0⟩, hZ⟩ := hv
  have hx := B.exec
  have hb := B.bytes
  have hr := B.returns
  have hts := atoms_spec (ws := (.code y_PA_init b_PA_init 1 none :: ga)) B.pre
  have hga : ∀ w ∈ ga, w.before _ s = true := fun w h => hts w (List.mem_cons_of_mem _ h)
  have hg : ∀ w ∈ gt, w.before _ s = true := fun w h => hga w (ga_gt h)
  have hown : s.vm.findClass R_PA = some m.cls := findClass_of_methodNamed B.named
  have hlocks := B.notSynchronized
  have hin : meth.name = "<init>" := (name_of_methodNamed B.named B.method).1
  subst hsz
  have hD := hD0.self (sz := s.heap.size)
  generalize hAe : va_A [(b, .inr (6, [.null, .null, .null, .int (iI 0), .int (iI 0), .int (iI 0)]))] s.heap.size = A at hD ⊢
  have hA : ∀ q : Nat, s.heap.size ≤ q → A q := fun q h => by rw [← hAe]; exact Or.inr h
  have hS : va_S A s.heap s.heap [] := va_S.rf
  have hl := lv_entry ([.ref b]) (n := 1) (Nat.le_of_ble_eq_true rfl)
  rw [lg_entry_eq]
  generalize (lg_sl ([.ref b]) ++ List.replicate (1 - (lg_sl ([.ref b])).length) Slot.unset).toArray = ls at hl ⊢
  have hl : lv_has ls 1 [(0, .ref b)] := hl
  refine lv_aload_n hx hb d_PA_init_0 rfl (lv_at hl 0 rfl) ?_
  refine W.objInit hx hb hown (hg _ (List.mem_append_right _ (List.mem_append_left _ (List.mem_of_getElem? (i := 36) rfl)))) (hg _ (List.mem_append_right _ (List.mem_append_left _ (List.mem_of_getElem? (i := 24) rfl)))) (hg _ (List.mem_append_right _ (List.mem_append_left _ (List.mem_of_getElem? (i := 25) rfl)))) rfl (by rw [hml]; exact hl.1) rfl d_PA_init_1 (Nat.le_of_ble_eq_true rfl) (Nat.le_of_ble_eq_true rfl) ?_
  refine W.eq (g2 := F0 m 4 ls []) rfl ?_
  refine lv_aload_n hx hb d_PA_init_4 rfl (lv_at hl 0 rfl) ?_
  refine z_bipush hx hb (z := 11) d_PA_init_5 (by decide) ?_
  refine n_newa (N' := 11) hx hb (hga _ List.mem_cons_self) hK 0 rfl hP hD hS hA (by decide) (Nat.le_of_ble_eq_true rfl) (Nat.le_of_ble_eq_true rfl) d_PA_init_7 (fun q7 H hP hD hS => ?_)
  have hP : va_P D vwCl ([(b, .inr (6, [.null, .null, .null, .int (iI 0), .int (iI 0), .int (iI 0)]))] ++ [(q7, e_ia cs 11)]) H := hP
  have hD : va_D A ([(b, .inr (6, [.null, .null, .null, .int (iI 0), .int (iI 0), .int (iI 0)]))] ++ [(q7, e_ia cs 11)]) := hD
  refine va_putF (ci := 6) (v := .ref q7) (ty := (.array .int)) (C := R_PA) (T := T_PA) (N := 6) hx hb hg in_PA ty_PA tk_PA nm_PA hown hK hP hD hS 0 rfl rfl 0 (by decide) (hg _ (List.mem_append_right _ (List.mem_append_left _ (List.mem_of_getElem? (i := 37) rfl)))) (fun _ h9 => h9) rfl hin rfl (by decide +kernel) rfl rfl (Nat.le_of_ble_eq_true rfl) d_PA_init_9 (fun H locs hP hD hS => ?_)
  have hP : va_P D vwCl ([(b, .inr (6, [.ref q7, .null, .null, .int (iI 0), .int (iI 0), .int (iI 0)]))] ++ [(q7, e_ia cs 11)]) H := hP
  have hD : va_D A ([(b, .inr (6, [.ref q7, .null, .null, .int (iI 0), .int (iI 0), .int (iI 0)]))] ++ [(q7, e_ia cs 11)]) := hD
  refine lv_aload_n hx hb d_PA_init_12 rfl (lv_at hl 0 rfl) ?_
  refine z_bipush hx hb (z := 8) d_PA_init_13 (by decide) ?_
  refine n_newa (N' := 8) hx hb (hga _ List.mem_cons_self) hK 0 rfl hP hD hS hA (by decide) (Nat.le_of_ble_eq_true rfl) (Nat.le_of_ble_eq_true rfl) d_PA_init_15 (fun q15 H hP hD hS => ?_)
  have hP : va_P D vwCl (([(b, .inr (6, [.ref q7, .null, .null, .int (iI 0), .int (iI 0), .int (iI 0)]))] ++ [(q7, e_ia cs 11)]) ++ [(q15, e_ia cs 8)]) H := hP
  have hD : va_D A (([(b, .inr (6, [.ref q7, .null, .null, .int (iI 0), .int (iI 0), .int (iI 0)]))] ++ [(q7, e_ia cs 11)]) ++ [(q15, e_ia cs 8)]) := hD
  refine va_putF (ci := 6) (v := .ref q15) (ty := (.array .int)) (C := R_PA) (T := T_PA) (N := 6) hx hb hg in_PA ty_PA tk_PA nm_PA hown hK hP hD hS 0 rfl rfl 1 (by decide) (hg _ (List.mem_append_right _ (List.mem_append_right _ (List.mem_append_left _ (List.mem_of_getElem? (i := 1) rfl))))) (fun _ h9 => h9) rfl hin rfl (by decide +kernel) rfl rfl (Nat.le_of_ble_eq_true rfl) d_PA_init_17 (fun H locs hP hD hS => ?_)
  have hP : va_P D vwCl (([(b, .inr (6, [.ref q7, .ref q15, .null, .int (iI 0), .int (iI 0), .int (iI 0)]))] ++ [(q7, e_ia cs 11)]) ++ [(q15, e_ia cs 8)]) H := hP
  have hD : va_D A (([(b, .inr (6, [.ref q7, .ref q15, .null, .int (iI 0), .int (iI 0), .int (iI 0)]))] ++ [(q7, e_ia cs 11)]) ++ [(q15, e_ia cs 8)]) := hD
  refine lv_aload_n hx hb d_PA_init_20 rfl (lv_at hl 0 rfl) ?_
  refine z_bipush hx hb (z := 8) d_PA_init_21 (by decide) ?_
  refine n_newa (N' := 8) hx hb (hga _ List.mem_cons_self) hK 0 rfl hP hD hS hA (by decide) (Nat.le_of_ble_eq_true rfl) (Nat.le_of_ble_eq_true rfl) d_PA_init_23 (fun q23 H hP hD hS => ?_)
  have hP : va_P D vwCl ((([(b, .inr (6, [.ref q7, .ref q15, .null, .int (iI 0), .int (iI 0), .int (iI 0)]))] ++ [(q7, e_ia cs 11)]) ++ [(q15, e_ia cs 8)]) ++ [(q23, e_ia cs 8)]) H := hP
  have hD : va_D A ((([(b, .inr (6, [.ref q7, .ref q15, .null, .int (iI 0), .int (iI 0), .int (iI 0)]))] ++ [(q7, e_ia cs 11)]) ++ [(q15, e_ia cs 8)]) ++ [(q23, e_ia cs 8)]) := hD
  refine va_putF (ci := 6) (v := .ref q23) (ty := (.array .int)) (C := R_PA) (T := T_PA) (N := 6) hx hb hg in_PA ty_PA tk_PA nm_PA hown hK hP hD hS 0 rfl rfl 2 (by decide) (hg _ (List.mem_append_right _ (List.mem_append_right _ (List.mem_append_left _ (List.mem_of_getElem? (i := 2) rfl))))) (fun _ h9 => h9) rfl hin rfl (by decide +kernel) rfl rfl (Nat.le_of_ble_eq_true rfl) d_PA_init_25 (fun H locs hP hD hS => ?_)
  have hP : va_P D vwCl ((([(b, .inr (6, [.ref q7, .ref q15, .ref q23, .int (iI 0), .int (iI 0), .int (iI 0)]))] ++ [(q7, e_ia cs 11)]) ++ [(q15, e_ia cs 8)]) ++ [(q23, e_ia cs 8)]) H := hP
  have hD : va_D A ((([(b, .inr (6, [.ref q7, .ref q15, .ref q23, .int (iI 0), .int (iI 0), .int (iI 0)]))] ++ [(q7, e_ia cs 11)]) ++ [(q15, e_ia cs 8)]) ++ [(q23, e_ia cs 8)]) := hD
  exact W.vret hx hb hr (fun t ht hW => ⟨⟨(q7, q15, q23), rfl, trivial, by rw [ht]; exact hP, by rw [hAe]; exact hD⟩, hS.F ht⟩) hS.2.2 d_PA_init_28
set_option maxHeartbeats 4000000 in
set_option maxRecDepth 100000 in
theorem k_SH (l : Launch) {D : va_G} {cs : pg_C} (sz b  : Nat) : Met l y_SH_init (.code y_SH_init b_SH_init 1 none :: ga) ({ frames := 1, cells := 0, slots := 0, locals := 12 } : Room) (va_Pc [.ref b] (kz_B D vwCl (pg_tys cs) [(b, .inr (2, [.int (iI 0), .int (iI 0), .int (iI 0)]))] sz cs)) (va_Qv (fun u : Unit => True) (k_E D vwCl [(b, .inr (2, [.int (iI 0), .int (iI 0), .int (iI 0)]))] (fun u : Unit => wSH b) sz) (va_A [(b, .inr (2, [.int (iI 0), .int (iI 0), .int (iI 0)]))] sz)) 0 0 (va_A [(b, .inr (2, [.int (iI 0), .int (iI 0), .int (iI 0)]))] sz) := by
  refine Met.ofW (cc := b_SH_init) (maxL := 1) (ret := none) (by decide) rfl ?_
  intro p e s m args below meth c s₁ B hml hv
  obtain ⟨rfl, ⟨hsz, hP, hK, hD0⟩, hZ⟩ := hv
  have hx := B.exec
  have hb := B.bytes
  have hr := B.returns
  have hts := atoms_spec (ws := (.code y_SH_init b_SH_init 1 none :: ga)) B.pre
  have hga : ∀ w ∈ ga, w.before _ s = true := fun w h => hts w (List.mem_cons_of_mem _ h)
  have hg : ∀ w ∈ gt, w.before _ s = true := fun w h => hga w (ga_gt h)
  have hown : s.vm.findClass R_SH = some m.cls := findClass_of_methodNamed B.named
  have hlocks := B.notSynchronized
  have hin : meth.name = "<init>" := (name_of_methodNamed B.named B.method).1
  subst hsz
  have hD := hD0.self (sz := s.heap.size)
  generalize hAe : va_A [(b, .inr (2, [.int (iI 0), .int (iI 0), .int (iI 0)]))] s.heap.size = A at hD ⊢
  have hA : ∀ q : Nat, s.heap.size ≤ q → A q := fun q h => by rw [← hAe]; exact Or.inr h
  have hS : va_S A s.heap s.heap [] := va_S.rf
  have hl := lv_entry ([.ref b]) (n := 1) (Nat.le_of_ble_eq_true rfl)
  rw [lg_entry_eq]
  generalize (lg_sl ([.ref b]) ++ List.replicate (1 - (lg_sl ([.ref b])).length) Slot.unset).toArray = ls at hl ⊢
  have hl : lv_has ls 1 [(0, .ref b)] := hl
  refine lv_aload_n hx hb d_SH_init_0 rfl (lv_at hl 0 rfl) ?_
  refine W.objInit hx hb hown (hg _ (List.mem_append_right _ (List.mem_append_right _ (List.mem_append_right _ (List.mem_append_left _ (List.mem_of_getElem? (i := 2) rfl)))))) (hg _ (List.mem_append_right _ (List.mem_append_left _ (List.mem_of_getElem? (i := 24) rfl)))) (hg _ (List.mem_append_right _ (List.mem_append_left _ (List.mem_of_getElem? (i := 25) rfl)))) rfl (by rw [hml]; exact hl.1) rfl d_SH_init_1 (Nat.le_of_ble_eq_true rfl) (Nat.le_of_ble_eq_true rfl) ?_
  refine W.eq (g2 := F0 m 4 ls []) rfl ?_
  refine lv_aload_n hx hb d_SH_init_4 rfl (lv_at hl 0 rfl) ?_
  refine z_sipush hx hb (z := 10000) d_SH_init_5 (by decide) ?_
  refine va_put (ci := 2) (v := .int (iI 10000)) (ty := .int) (C := R_SH) (T := T_SH) (N := 3) hx hb hg in_SH ty_SH tk_SH nm_SH hown hK hP hD hS 0 rfl rfl 0 (by decide) (hg _ (List.mem_append_right _ (List.mem_append_right _ (List.mem_append_right _ (List.mem_append_left _ (List.mem_of_getElem? (i := 3) rfl)))))) (fun _ h9 => h9) rfl (by decide +kernel) rfl rfl (Nat.le_of_ble_eq_true rfl) d_SH_init_8 (fun H locs hP hD hS => ?_)
  have hP : va_P D vwCl [(b, .inr (2, [.int (iI 10000), .int (iI 0), .int (iI 0)]))] H := hP
  have hD : va_D A [(b, .inr (2, [.int (iI 10000), .int (iI 0), .int (iI 0)]))] := hD
  refine lv_aload_n hx hb d_SH_init_11 rfl (lv_at hl 0 rfl) ?_
  refine z_sipush hx hb (z := 15000) d_SH_init_12 (by decide) ?_
  refine va_put (ci := 2) (v := .int (iI 15000)) (ty := .int) (C := R_SH) (T := T_SH) (N := 3) hx hb hg in_SH ty_SH tk_SH nm_SH hown hK hP hD hS 0 rfl rfl 1 (by decide) (hg _ (List.mem_append_right _ (List.mem_append_right _ (List.mem_append_right _ (List.mem_append_left _ (List.mem_of_getElem? (i := 6) rfl)))))) (fun _ h9 => h9) rfl (by decide +kernel) rfl rfl (Nat.le_of_ble_eq_true rfl) d_SH_init_15 (fun H locs hP hD hS => ?_)
  have hP : va_P D vwCl [(b, .inr (2, [.int (iI 10000), .int (iI 15000), .int (iI 0)]))] H := hP
  have hD : va_D A [(b, .inr (2, [.int (iI 10000), .int (iI 15000), .int (iI 0)]))] := hD
  refine lv_aload_n hx hb d_SH_init_18 rfl (lv_at hl 0 rfl) ?_
  refine z_sipush hx hb (z := 700) d_SH_init_19 (by decide) ?_
  refine va_put (ci := 2) (v := .int (iI 700)) (ty := .int) (C := R_SH) (T := T_SH) (N := 3) hx hb hg in_SH ty_SH tk_SH nm_SH hown hK hP hD hS 0 rfl rfl 2 (by decide) (hg _ (List.mem_append_right _ (List.mem_append_right _ (List.mem_append_right _ (List.mem_append_left _ (List.mem_of_getElem? (i := 9) rfl)))))) (fun _ h9 => h9) rfl (by decide +kernel) rfl rfl (Nat.le_of_ble_eq_true rfl) d_SH_init_22 (fun H locs hP hD hS => ?_)
  have hP : va_P D vwCl [(b, .inr (2, [.int (iI 10000), .int (iI 15000), .int (iI 700)]))] H := hP
  have hD : va_D A [(b, .inr (2, [.int (iI 10000), .int (iI 15000), .int (iI 700)]))] := hD
  exact W.vret hx hb hr (fun t ht hW => ⟨⟨(), rfl, trivial, by rw [ht]; exact hP, by rw [hAe]; exact hD⟩, hS.F ht⟩) hS.2.2 d_SH_init_25
set_option maxHeartbeats 4000000 in
set_option maxRecDepth 100000 in
theorem k_RU (l : Launch) {D : va_G} {cs : pg_C} (sz b t sh : Nat) : Met l y_RU_init (.code y_RU_init b_RU_init 3 none :: ga) ({ frames := 1, cells := 0, slots := 0, locals := 12 } : Room) (va_Pc [.ref b, .ref t, .ref sh] (kz_B D vwCl (pg_tys cs) [(b, .inr (4, [.null, .null, .null, .int (iI 0), .int (iI 0), .int (iI 0), .int (iI 0)]))] sz cs)) (va_Qv (fun u : Unit => True) (k_E D vwCl [(b, .inr (4, [.null, .null, .null, .int (iI 0), .int (iI 0), .int (iI 0), .int (iI 0)]))] (fun u : Unit => wRU b t sh) sz) (va_A [(b, .inr (4, [.null, .null, .null, .int (iI 0), .int (iI 0), .int (iI 0), .int (iI 0)]))] sz)) 0 0 (va_A [(b, .inr (4, [.null, .null, .null, .int (iI 0), .int (iI 0), .int (iI 0), .int (iI 0)]))] sz) := by
  refine Met.ofW (cc := b_RU_init) (maxL := 3) (ret := none) (by decide) rfl ?_
  intro p e s m args below meth c s₁ B hml hv
  obtain ⟨rfl, ⟨hsz, hP, hK, hD0⟩, hZ⟩ := hv
  have hx := B.exec
  have hb := B.bytes
  have hr := B.returns
  have hts := atoms_spec (ws := (.code y_RU_init b_RU_init 3 none :: ga)) B.pre
  have hga : ∀ w ∈ ga, w.before _ s = true := fun w h => hts w (List.mem_cons_of_mem _ h)
  have hg : ∀ w ∈ gt, w.before _ s = true := fun w h => hga w (ga_gt h)
  have hown : s.vm.findClass R_RU = some m.cls := findClass_of_methodNamed B.named
  have hlocks := B.notSynchronized
  have hin : meth.name = "<init>" := (name_of_methodNamed B.named B.method).1
  subst hsz
  have hD := hD0.self (sz := s.heap.size)
  generalize hAe : va_A [(b, .inr (4, [.null, .null, .null, .int (iI 0), .int (iI 0), .int (iI 0), .int (iI 0)]))] s.heap.size = A at hD ⊢
  have hA : ∀ q : Nat, s.heap.size ≤ q → A q := fun q h => by rw [← hAe]; exact Or.inr h
  have hS : va_S A s.heap s.heap [] := va_S.rf
  have hl := lv_entry ([.ref b, .ref t, .ref sh]) (n := 3) (Nat.le_of_ble_eq_true rfl)
  rw [lg_entry_eq]
  generalize (lg_sl ([.ref b, .ref t, .ref sh]) ++ List.replicate (3 - (lg_sl ([.ref b, .ref t, .ref sh])).length) Slot.unset).toArray = ls at hl ⊢
  have hl : lv_has ls 3 [(0, .ref b), (1, .ref t), (2, .ref sh)] := hl
  refine lv_aload_n hx hb d_RU_init_0 rfl (lv_at hl 0 rfl) ?_
  refine W.objInit hx hb hown (hg _ (List.mem_append_right _ (List.mem_append_right _ (List.mem_append_right _ (List.mem_append_left _ (List.mem_of_getElem? (i := 28) rfl)))))) (hg _ (List.mem_append_right _ (List.mem_append_left _ (List.mem_of_getElem? (i := 24) rfl)))) (hg _ (List.mem_append_right _ (List.mem_append_left _ (List.mem_of_getElem? (i := 25) rfl)))) rfl (by rw [hml]; exact hl.1) rfl d_RU_init_1 (Nat.le_of_ble_eq_true rfl) (Nat.le_of_ble_eq_true rfl) ?_
  refine W.eq (g2 := F0 m 4 ls []) rfl ?_
  refine lv_aload_n hx hb d_RU_init_4 rfl (lv_at hl 0 rfl) ?_
  refine lv_aload_n hx hb d_RU_init_5 rfl (lv_at hl 1 rfl) ?_
  refine va_putF (ci := 4) (v := .ref t) (ty := (.object "PageLayout$Text")) (C := R_RU) (T := T_RU) (N := 7) hx hb hg in_RU ty_RU tk_RU nm_RU hown hK hP hD hS 0 rfl rfl 0 (by decide) (hg _ (List.mem_append_right _ (List.mem_append_right _ (List.mem_append_right _ (List.mem_append_left _ (List.mem_of_getElem? (i := 29) rfl)))))) (fun _ h9 => h9) rfl hin rfl (by decide +kernel) rfl rfl (Nat.le_of_ble_eq_true rfl) d_RU_init_6 (fun H locs hP hD hS => ?_)
  have hP : va_P D vwCl [(b, .inr (4, [.ref t, .null, .null, .int (iI 0), .int (iI 0), .int (iI 0), .int (iI 0)]))] H := hP
  have hD : va_D A [(b, .inr (4, [.ref t, .null, .null, .int (iI 0), .int (iI 0), .int (iI 0), .int (iI 0)]))] := hD
  refine lv_aload_n hx hb d_RU_init_9 rfl (lv_at hl 0 rfl) ?_
  refine lv_aload_n hx hb d_RU_init_10 rfl (lv_at hl 2 rfl) ?_
  refine va_putF (ci := 4) (v := .ref sh) (ty := (.object "PageLayout$Sheet")) (C := R_RU) (T := T_RU) (N := 7) hx hb hg in_RU ty_RU tk_RU nm_RU hown hK hP hD hS 0 rfl rfl 1 (by decide) (hg _ (List.mem_append_right _ (List.mem_append_right _ (List.mem_append_right _ (List.mem_append_left _ (List.mem_of_getElem? (i := 30) rfl)))))) (fun _ h9 => h9) rfl hin rfl (by decide +kernel) rfl rfl (Nat.le_of_ble_eq_true rfl) d_RU_init_11 (fun H locs hP hD hS => ?_)
  have hP : va_P D vwCl [(b, .inr (4, [.ref t, .ref sh, .null, .int (iI 0), .int (iI 0), .int (iI 0), .int (iI 0)]))] H := hP
  have hD : va_D A [(b, .inr (4, [.ref t, .ref sh, .null, .int (iI 0), .int (iI 0), .int (iI 0), .int (iI 0)]))] := hD
  exact W.vret hx hb hr (fun t ht hW => ⟨⟨(), rfl, trivial, by rw [ht]; exact hP, by rw [hAe]; exact hD⟩, hS.F ht⟩) hS.2.2 d_RU_init_14
set_option maxHeartbeats 4000000 in
set_option maxRecDepth 100000 in
theorem k_LN (l : Launch) {D : va_G} {cs : pg_C} (sz b t sh : Nat) : Met l y_LN_init (.code y_LN_init b_LN_init 3 none :: ga) ({ frames := 2, cells := 16, slots := 8120, locals := 34 } : Room) (va_Pc [.ref b, .ref t, .ref sh] (kz_B D vwCl (pg_tys cs) [(b, .inr (3, [.null, .null, .int (iI 0), .null, .null, .null]))] sz cs)) (va_Qv (fun u : Nat × Nat × Nat => True) (k_E D vwCl [(b, .inr (3, [.null, .null, .int (iI 0), .null, .null, .null]))] (fun u : Nat × Nat × Nat => wLN cs b t sh u) sz) (va_A [(b, .inr (3, [.null, .null, .int (iI 0), .null, .null, .null]))] sz)) 16 8120 (va_A [(b, .inr (3, [.null, .null, .int (iI 0), .null, .null, .null]))] sz) := by
  refine Met.ofW (cc := b_LN_init) (maxL := 3) (ret := none) (by decide) rfl ?_
  intro p e s m args below meth c s₁ B hml hv
  obtain ⟨rfl, ⟨hsz, hP, hK, hD0⟩, hZ⟩ := hv
  have hx := B.exec
  have hb := B.bytes
  have hr := B.returns
  have hts := atoms_spec (ws := (.code y_LN_init b_LN_init 3 none :: ga)) B.pre
  have hga : ∀ w ∈ ga, w.before _ s = true := fun w h => hts w (List.mem_cons_of_mem _ h)
  have hg : ∀ w ∈ gt, w.before _ s = true := fun w h => hga w (ga_gt h)
  have hown : s.vm.findClass R_LN = some m.cls := findClass_of_methodNamed B.named
  have hlocks := B.notSynchronized
  have hin : meth.name = "<init>" := (name_of_methodNamed B.named B.method).1
  subst hsz
  have hD := hD0.self (sz := s.heap.size)
  generalize hAe : va_A [(b, .inr (3, [.null, .null, .int (iI 0), .null, .null, .null]))] s.heap.size = A at hD ⊢
  have hA : ∀ q : Nat, s.heap.size ≤ q → A q := fun q h => by rw [← hAe]; exact Or.inr h
  have hS : va_S A s.heap s.heap [] := va_S.rf
  have hl := lv_entry ([.ref b, .ref t, .ref sh]) (n := 3) (Nat.le_of_ble_eq_true rfl)
  rw [lg_entry_eq]
  generalize (lg_sl ([.ref b, .ref t, .ref sh]) ++ List.replicate (3 - (lg_sl ([.ref b, .ref t, .ref sh])).length) Slot.unset).toArray = ls at hl ⊢
  have hl : lv_has ls 3 [(0, .ref b), (1, .ref t), (2, .ref sh)] := hl
  refine lv_aload_n hx hb d_LN_init_0 rfl (lv_at hl 0 rfl) ?_
  refine W.objInit hx hb hown (hg _ (List.mem_append_right _ (List.mem_append_right _ (List.mem_append_right _ (List.mem_append_left _ (List.mem_of_getElem? (i := 21) rfl)))))) (hg _ (List.mem_append_right _ (List.mem_append_left _ (List.mem_of_getElem? (i := 24) rfl)))) (hg _ (List.mem_append_right _ (List.mem_append_left _ (List.mem_of_getElem? (i := 25) rfl)))) rfl (by rw [hml]; exact hl.1) rfl d_LN_init_1 (Nat.le_of_ble_eq_true rfl) (Nat.le_of_ble_eq_true rfl) ?_
  refine W.eq (g2 := F0 m 4 ls []) rfl ?_
  refine lv_aload_n hx hb d_LN_init_4 rfl (lv_at hl 0 rfl) ?_
  refine z_bipush hx hb (z := 10) d_LN_init_5 (by decide) ?_
  refine z_sipush hx hb (z := 630) d_LN_init_7 (by decide) ?_
  refine n_multi (N := 10) (M := 630) hx hb hown (hg _ (List.mem_append_right _ (List.mem_append_right _ (List.mem_append_right _ (List.mem_append_left _ (List.mem_of_getElem? (i := 22) rfl)))))) hZ hP hD hS hA (by decide) (by decide) (Nat.le_of_ble_eq_true rfl) (Nat.le_of_ble_eq_true rfl) d_LN_init_10 (fun q10 H locs hP hD hS => ?_)
  have hP : va_P D vwCl ([(b, .inr (3, [.null, .null, .int (iI 0), .null, .null, .null]))] ++ mu_w q10 cs.2.1 cs.1 10 630) H := hP
  have hD : va_D A ([(b, .inr (3, [.null, .null, .int (iI 0), .null, .null, .null]))] ++ mu_w q10 cs.2.1 cs.1 10 630) := hD
  refine va_putF (ci := 3) (v := .ref q10) (ty := (.array (.array .int))) (C := R_LN) (T := T_LN) (N := 6) hx hb hg in_LN ty_LN tk_LN nm_LN hown hK hP hD hS 0 rfl rfl 0 (by decide) (hg _ (List.mem_append_right _ (List.mem_append_right _ (List.mem_append_right _ (List.mem_append_right _ (List.mem_append_left _ (List.mem_of_getElem? (i := 3) rfl))))))) (fun _ h9 => h9) rfl hin rfl (by decide +kernel) rfl rfl (Nat.le_of_ble_eq_true rfl) d_LN_init_14 (fun H locs hP hD hS => ?_)
  have hP : va_P D vwCl ([(b, .inr (3, [.ref q10, .null, .int (iI 0), .null, .null, .null]))] ++ mu_w q10 cs.2.1 cs.1 10 630) H := hP
  have hD : va_D A ([(b, .inr (3, [.ref q10, .null, .int (iI 0), .null, .null, .null]))] ++ mu_w q10 cs.2.1 cs.1 10 630) := hD
  refine lv_aload_n hx hb d_LN_init_17 rfl (lv_at hl 0 rfl) ?_
  refine z_iconst hx hb (z := 3) d_LN_init_18 ?_
  refine z_sipush hx hb (z := 600) d_LN_init_19 (by decide) ?_
  refine n_multi (N := 3) (M := 600) hx hb hown (hg _ (List.mem_append_right _ (List.mem_append_right _ (List.mem_append_right _ (List.mem_append_left _ (List.mem_of_getElem? (i := 22) rfl)))))) hZ hP hD hS hA (by decide) (by decide) (Nat.le_of_ble_eq_true rfl) (Nat.le_of_ble_eq_true rfl) d_LN_init_22 (fun q22 H locs hP hD hS => ?_)
  have hP : va_P D vwCl (([(b, .inr (3, [.ref q10, .null, .int (iI 0), .null, .null, .null]))] ++ mu_w q10 cs.2.1 cs.1 10 630) ++ mu_w q22 cs.2.1 cs.1 3 600) H := hP
  have hD : va_D A (([(b, .inr (3, [.ref q10, .null, .int (iI 0), .null, .null, .null]))] ++ mu_w q10 cs.2.1 cs.1 10 630) ++ mu_w q22 cs.2.1 cs.1 3 600) := hD
  refine va_putF (ci := 3) (v := .ref q22) (ty := (.array (.array .int))) (C := R_LN) (T := T_LN) (N := 6) hx hb hg in_LN ty_LN tk_LN nm_LN hown hK hP hD hS 0 rfl rfl 1 (by decide) (hg _ (List.mem_append_right _ (List.mem_append_right _ (List.mem_append_right _ (List.mem_append_right _ (List.mem_append_left _ (List.mem_of_getElem? (i := 6) rfl))))))) (fun _ h9 => h9) rfl hin rfl (by decide +kernel) rfl rfl (Nat.le_of_ble_eq_true rfl) d_LN_init_26 (fun H locs hP hD hS => ?_)
  have hP : va_P D vwCl (([(b, .inr (3, [.ref q10, .ref q22, .int (iI 0), .null, .null, .null]))] ++ mu_w q10 cs.2.1 cs.1 10 630) ++ mu_w q22 cs.2.1 cs.1 3 600) H := hP
  have hD : va_D A (([(b, .inr (3, [.ref q10, .ref q22, .int (iI 0), .null, .null, .null]))] ++ mu_w q10 cs.2.1 cs.1 10 630) ++ mu_w q22 cs.2.1 cs.1 3 600) := hD
  refine lv_aload_n hx hb d_LN_init_29 rfl (lv_at hl 0 rfl) ?_
  refine lv_aload_n hx hb d_LN_init_30 rfl (lv_at hl 1 rfl) ?_
  refine va_putF (ci := 3) (v := .ref t) (ty := (.object "PageLayout$Text")) (C := R_LN) (T := T_LN) (N := 6) hx hb hg in_LN ty_LN tk_LN nm_LN hown hK hP hD hS 0 rfl rfl 3 (by decide) (hg _ (List.mem_append_right _ (List.mem_append_right _ (List.mem_append_right _ (List.mem_append_right _ (List.mem_append_left _ (List.mem_of_getElem? (i := 11) rfl))))))) (fun _ h9 => h9) rfl hin rfl (by decide +kernel) rfl rfl (Nat.le_of_ble_eq_true rfl) d_LN_init_31 (fun H locs hP hD hS => ?_)
  have hP : va_P D vwCl (([(b, .inr (3, [.ref q10, .ref q22, .int (iI 0), .ref t, .null, .null]))] ++ mu_w q10 cs.2.1 cs.1 10 630) ++ mu_w q22 cs.2.1 cs.1 3 600) H := hP
  have hD : va_D A (([(b, .inr (3, [.ref q10, .ref q22, .int (iI 0), .ref t, .null, .null]))] ++ mu_w q10 cs.2.1 cs.1 10 630) ++ mu_w q22 cs.2.1 cs.1 3 600) := hD
  refine lv_aload_n hx hb d_LN_init_34 rfl (lv_at hl 0 rfl) ?_
  refine lv_aload_n hx hb d_LN_init_35 rfl (lv_at hl 2 rfl) ?_
  refine va_putF (ci := 3) (v := .ref sh) (ty := (.object "PageLayout$Sheet")) (C := R_LN) (T := T_LN) (N := 6) hx hb hg in_LN ty_LN tk_LN nm_LN hown hK hP hD hS 0 rfl rfl 4 (by decide) (hg _ (List.mem_append_right _ (List.mem_append_right _ (List.mem_append_right _ (List.mem_append_right _ (List.mem_append_left _ (List.mem_of_getElem? (i := 12) rfl))))))) (fun _ h9 => h9) rfl hin rfl (by decide +kernel) rfl rfl (Nat.le_of_ble_eq_true rfl) d_LN_init_36 (fun H locs hP hD hS => ?_)
  have hP : va_P D vwCl (([(b, .inr (3, [.ref q10, .ref q22, .int (iI 0), .ref t, .ref sh, .null]))] ++ mu_w q10 cs.2.1 cs.1 10 630) ++ mu_w q22 cs.2.1 cs.1 3 600) H := hP
  have hD : va_D A (([(b, .inr (3, [.ref q10, .ref q22, .int (iI 0), .ref t, .ref sh, .null]))] ++ mu_w q10 cs.2.1 cs.1 10 630) ++ mu_w q22 cs.2.1 cs.1 3 600) := hD
  refine lv_aload_n hx hb d_LN_init_39 rfl (lv_at hl 0 rfl) ?_
  refine va_new (ci := 4) (fs := [.null, .null, .null, .int (iI 0), .int (iI 0), .int (iI 0), .int (iI 0)]) (C := R_RU) (T := T_RU) (N := 7) hx hb hg in_RU ty_RU tk_RU hown (hg _ (List.mem_append_right _ (List.mem_append_right _ (List.mem_append_right _ (List.mem_append_left _ (List.mem_of_getElem? (i := 23) rfl)))))) (hg _ (List.mem_append_right _ (List.mem_append_right _ (List.mem_append_right _ (List.mem_append_left _ (List.mem_of_getElem? (i := 24) rfl)))))) (hg _ (List.mem_append_right _ (List.mem_append_left _ (List.mem_of_getElem? (i := 7) rfl)))) hK hP hD hS hA rfl (fun j hj => by rcases (show j = 0 ∨ j = 1 ∨ j = 2 ∨ j = 3 ∨ j = 4 ∨ j = 5 ∨ j = 6 by omega) with rfl | rfl | rfl | rfl | rfl | rfl | rfl <;> rfl) (Nat.le_of_ble_eq_true rfl) (Nat.le_of_ble_eq_true rfl) d_LN_init_40 (fun q40 H hP hD hS => ?_)
  have hP : va_P D vwCl ((([(b, .inr (3, [.ref q10, .ref q22, .int (iI 0), .ref t, .ref sh, .null]))] ++ mu_w q10 cs.2.1 cs.1 10 630) ++ mu_w q22 cs.2.1 cs.1 3 600) ++ [(q40, .inr (4, [.null, .null, .null, .int (iI 0), .int (iI 0), .int (iI 0), .int (iI 0)]))]) H := hP
  have hD : va_D A ((([(b, .inr (3, [.ref q10, .ref q22, .int (iI 0), .ref t, .ref sh, .null]))] ++ mu_w q10 cs.2.1 cs.1 10 630) ++ mu_w q22 cs.2.1 cs.1 3 600) ++ [(q40, .inr (4, [.null, .null, .null, .int (iI 0), .int (iI 0), .int (iI 0), .int (iI 0)]))]) := hD
  refine lv_dup hx hb d_LN_init_43 rfl ?_
  refine lv_aload_n hx hb d_LN_init_44 rfl (lv_at hl 1 rfl) ?_
  refine lv_aload_n hx hb d_LN_init_45 rfl (lv_at hl 2 rfl) ?_
  refine k_callI (As := [.ref t, .ref sh]) (rest := [.ref q40, .ref b]) (w1 := (([(b, .inr (3, [.ref q10, .ref q22, .int (iI 0), .ref t, .ref sh, .null]))] ++ mu_w q10 cs.2.1 cs.1 10 630) ++ mu_w q22 cs.2.1 cs.1 3 600)) ⟨hx, hb, hml, hown, hga⟩ (k_RU l _ q40 t sh) (cwI 2 hga (ga_I (List.mem_append_right _ (List.mem_append_right _ (List.mem_append_right _ (List.mem_append_left _ (List.mem_of_getElem? (i := 27) rfl)))))) rfl rfl rfl (hg _ (List.mem_append_right _ (List.mem_append_left _ (List.mem_of_getElem? (i := 7) rfl)))) (hg _ (List.mem_append_right _ (List.mem_append_right _ (List.mem_append_right _ (List.mem_append_left _ (List.mem_of_getElem? (i := 25) rfl)))))) (hg _ (List.mem_append_right _ (List.mem_append_right _ (List.mem_append_right _ (List.mem_append_left _ (List.mem_of_getElem? (i := 26) rfl)))))) rfl (by decide +kernel) ⟨Nat.le_of_ble_eq_true rfl, Nat.le_of_ble_eq_true rfl⟩) hK hZ hP hD hS hA rfl hl.1 rfl (Nat.le_of_ble_eq_true rfl) d_LN_init_46 ⟨Nat.le_of_ble_eq_true rfl, Nat.le_of_ble_eq_true rfl⟩ (fun u46 H locs hpo hP hD hS => ?_)
  have hP : va_P D vwCl ((([(b, .inr (3, [.ref q10, .ref q22, .int (iI 0), .ref t, .ref sh, .null]))] ++ mu_w q10 cs.2.1 cs.1 10 630) ++ mu_w q22 cs.2.1 cs.1 3 600) ++ wRU q40 t sh) H := hP
  have hD : va_D A ((([(b, .inr (3, [.ref q10, .ref q22, .int (iI 0), .ref t, .ref sh, .null]))] ++ mu_w q10 cs.2.1 cs.1 10 630) ++ mu_w q22 cs.2.1 cs.1 3 600) ++ wRU q40 t sh) := hD
  refine va_putF (ci := 3) (v := .ref q40) (ty := (.object "PageLayout$Ruler")) (C := R_LN) (T := T_LN) (N := 6) hx hb hg in_LN ty_LN tk_LN nm_LN hown hK hP hD hS 0 rfl rfl 5 (by decide) (hg _ (List.mem_append_right _ (List.mem_append_right _ (List.mem_append_right _ (List.mem_append_right _ (List.mem_append_left _ (List.mem_of_getElem? (i := 13) rfl))))))) (fun _ h9 => h9) rfl hin rfl (by decide +kernel) rfl rfl (Nat.le_of_ble_eq_true rfl) d_LN_init_49 (fun H locs hP hD hS => ?_)
  have hP : va_P D vwCl ((([(b, .inr (3, [.ref q10, .ref q22, .int (iI 0), .ref t, .ref sh, .ref q40]))] ++ mu_w q10 cs.2.1 cs.1 10 630) ++ mu_w q22 cs.2.1 cs.1 3 600) ++ wRU q40 t sh) H := hP
  have hD : va_D A ((([(b, .inr (3, [.ref q10, .ref q22, .int (iI 0), .ref t, .ref sh, .ref q40]))] ++ mu_w q10 cs.2.1 cs.1 10 630) ++ mu_w q22 cs.2.1 cs.1 3 600) ++ wRU q40 t sh) := hD
  exact W.vret hx hb hr (fun t ht hW => ⟨⟨(q10, q22, q40), rfl, trivial, by rw [ht]; exact hP, by rw [hAe]; exact hD⟩, hS.F ht⟩) hS.2.2 d_LN_init_52
set_option maxHeartbeats 4000000 in
set_option maxRecDepth 100000 in
theorem k_PG (l : Launch) {D : va_G} {cs : pg_C} (sz b t sh ln : Nat) : Met l y_PG_init (.code y_PG_init b_PG_init 4 none :: ga) ({ frames := 1, cells := 4, slots := 1893, locals := 12 } : Room) (va_Pc [.ref b, .ref t, .ref sh, .ref ln] (kz_B D vwCl (pg_tys cs) [(b, .inr (5, [.null, .int (iI 0), .null, .null, .null]))] sz cs)) (va_Qv (fun u : Nat => True) (k_E D vwCl [(b, .inr (5, [.null, .int (iI 0), .null, .null, .null]))] (fun u : Nat => wPG cs b t sh ln u) sz) (va_A [(b, .inr (5, [.null, .int (iI 0), .null, .null, .null]))] sz)) 4 1893 (va_A [(b, .inr (5, [.null, .int (iI 0), .null, .null, .null]))] sz) := by
  refine Met.ofW (cc := b_PG_init) (maxL := 4) (ret := none) (by decide) rfl ?_
  intro p e s m args below meth c s₁ B hml hv
  obtain ⟨rfl, ⟨hsz, hP, hK, hD0⟩, hZ⟩ := hv
  have hx := B.exec
  have hb := B.bytes
  have hr := B.returns
  have hts := atoms_spec (ws := (.code y_PG_init b_PG_init 4 none :: ga)) B.pre
  have hga : ∀ w ∈ ga, w.before _ s = true := fun w h => hts w (List.mem_cons_of_mem _ h)
  have hg : ∀ w ∈ gt, w.before _ s = true := fun w h => hga w (ga_gt h)
  have hown : s.vm.findClass R_PG = some m.cls := findClass_of_methodNamed B.named
  have hlocks := B.notSynchronized
  have hin : meth.name = "<init>" := (name_of_methodNamed B.named B.method).1
  subst hsz
  have hD := hD0.self (sz := s.heap.size)
  generalize hAe : va_A [(b, .inr (5, [.null, .int (iI 0), .null, .null, .null]))] s.heap.size = A at hD ⊢
  have hA : ∀ q : Nat, s.heap.size ≤ q → A q := fun q h => by rw [← hAe]; exact Or.inr h
  have hS : va_S A s.heap s.heap [] := va_S.rf
  have hl := lv_entry ([.ref b, .ref t, .ref sh, .ref ln]) (n := 4) (Nat.le_of_ble_eq_true rfl)
  rw [lg_entry_eq]
  generalize (lg_sl ([.ref b, .ref t, .ref sh, .ref ln]) ++ List.replicate (4 - (lg_sl ([.ref b, .ref t, .ref sh, .ref ln])).length) Slot.unset).toArray = ls at hl ⊢
  have hl : lv_has ls 4 [(0, .ref b), (1, .ref t), (2, .ref sh), (3, .ref ln)] := hl
  refine lv_aload_n hx hb d_PG_init_0 rfl (lv_at hl 0 rfl) ?_
  refine W.objInit hx hb hown (hg _ (List.mem_append_right _ (List.mem_append_right _ (List.mem_append_right _ (List.mem_append_right _ (List.mem_append_left _ (List.mem_of_getElem? (i := 25) rfl))))))) (hg _ (List.mem_append_right _ (List.mem_append_left _ (List.mem_of_getElem? (i := 24) rfl)))) (hg _ (List.mem_append_right _ (List.mem_append_left _ (List.mem_of_getElem? (i := 25) rfl)))) rfl (by rw [hml]; exact hl.1) rfl d_PG_init_1 (Nat.le_of_ble_eq_true rfl) (Nat.le_of_ble_eq_true rfl) ?_
  refine W.eq (g2 := F0 m 4 ls []) rfl ?_
  refine lv_aload_n hx hb d_PG_init_4 rfl (lv_at hl 0 rfl) ?_
  refine z_iconst hx hb (z := 3) d_PG_init_5 ?_
  refine z_sipush hx hb (z := 630) d_PG_init_6 (by decide) ?_
  refine n_multi (N := 3) (M := 630) hx hb hown (hg _ (List.mem_append_right _ (List.mem_append_right _ (List.mem_append_right _ (List.mem_append_right _ (List.mem_append_left _ (List.mem_of_getElem? (i := 26) rfl))))))) hZ hP hD hS hA (by decide) (by decide) (Nat.le_of_ble_eq_true rfl) (Nat.le_of_ble_eq_true rfl) d_PG_init_9 (fun q9 H locs hP hD hS => ?_)
  have hP : va_P D vwCl ([(b, .inr (5, [.null, .int (iI 0), .null, .null, .null]))] ++ mu_w q9 cs.2.1 cs.1 3 630) H := hP
  have hD : va_D A ([(b, .inr (5, [.null, .int (iI 0), .null, .null, .null]))] ++ mu_w q9 cs.2.1 cs.1 3 630) := hD
  refine va_putF (ci := 5) (v := .ref q9) (ty := (.array (.array .int))) (C := R_PG) (T := T_PG) (N := 5) hx hb hg in_PG ty_PG tk_PG nm_PG hown hK hP hD hS 0 rfl rfl 0 (by decide) (hg _ (List.mem_append_right _ (List.mem_append_right _ (List.mem_append_right _ (List.mem_append_right _ (List.mem_append_left _ (List.mem_of_getElem? (i := 27) rfl))))))) (fun _ h9 => h9) rfl hin rfl (by decide +kernel) rfl rfl (Nat.le_of_ble_eq_true rfl) d_PG_init_13 (fun H locs hP hD hS => ?_)
  have hP : va_P D vwCl ([(b, .inr (5, [.ref q9, .int (iI 0), .null, .null, .null]))] ++ mu_w q9 cs.2.1 cs.1 3 630) H := hP
  have hD : va_D A ([(b, .inr (5, [.ref q9, .int (iI 0), .null, .null, .null]))] ++ mu_w q9 cs.2.1 cs.1 3 630) := hD
  refine lv_aload_n hx hb d_PG_init_16 rfl (lv_at hl 0 rfl) ?_
  refine lv_aload_n hx hb d_PG_init_17 rfl (lv_at hl 1 rfl) ?_
  refine va_putF (ci := 5) (v := .ref t) (ty := (.object "PageLayout$Text")) (C := R_PG) (T := T_PG) (N := 5) hx hb hg in_PG ty_PG tk_PG nm_PG hown hK hP hD hS 0 rfl rfl 2 (by decide) (hg _ (List.mem_append_right _ (List.mem_append_right _ (List.mem_append_right _ (List.mem_append_right _ (List.mem_append_left _ (List.mem_of_getElem? (i := 31) rfl))))))) (fun _ h9 => h9) rfl hin rfl (by decide +kernel) rfl rfl (Nat.le_of_ble_eq_true rfl) d_PG_init_18 (fun H locs hP hD hS => ?_)
  have hP : va_P D vwCl ([(b, .inr (5, [.ref q9, .int (iI 0), .ref t, .null, .null]))] ++ mu_w q9 cs.2.1 cs.1 3 630) H := hP
  have hD : va_D A ([(b, .inr (5, [.ref q9, .int (iI 0), .ref t, .null, .null]))] ++ mu_w q9 cs.2.1 cs.1 3 630) := hD
  refine lv_aload_n hx hb d_PG_init_21 rfl (lv_at hl 0 rfl) ?_
  refine lv_aload_n hx hb d_PG_init_22 rfl (lv_at hl 2 rfl) ?_
  refine va_putF (ci := 5) (v := .ref sh) (ty := (.object "PageLayout$Sheet")) (C := R_PG) (T := T_PG) (N := 5) hx hb hg in_PG ty_PG tk_PG nm_PG hown hK hP hD hS 0 rfl rfl 3 (by decide) (hg _ (List.mem_append_right _ (List.mem_append_right _ (List.mem_append_right _ (List.mem_append_right _ (List.mem_append_left _ (List.mem_of_getElem? (i := 32) rfl))))))) (fun _ h9 => h9) rfl hin rfl (by decide +kernel) rfl rfl (Nat.le_of_ble_eq_true rfl) d_PG_init_23 (fun H locs hP hD hS => ?_)
  have hP : va_P D vwCl ([(b, .inr (5, [.ref q9, .int (iI 0), .ref t, .ref sh, .null]))] ++ mu_w q9 cs.2.1 cs.1 3 630) H := hP
  have hD : va_D A ([(b, .inr (5, [.ref q9, .int (iI 0), .ref t, .ref sh, .null]))] ++ mu_w q9 cs.2.1 cs.1 3 630) := hD
  refine lv_aload_n hx hb d_PG_init_26 rfl (lv_at hl 0 rfl) ?_
  refine lv_aload_n hx hb d_PG_init_27 rfl (lv_at hl 3 rfl) ?_
  refine va_putF (ci := 5) (v := .ref ln) (ty := (.object "PageLayout$Lines")) (C := R_PG) (T := T_PG) (N := 5) hx hb hg in_PG ty_PG tk_PG nm_PG hown hK hP hD hS 0 rfl rfl 4 (by decide) (hg _ (List.mem_append_right _ (List.mem_append_right _ (List.mem_append_right _ (List.mem_append_right _ (List.mem_append_left _ (List.mem_of_getElem? (i := 33) rfl))))))) (fun _ h9 => h9) rfl hin rfl (by decide +kernel) rfl rfl (Nat.le_of_ble_eq_true rfl) d_PG_init_28 (fun H locs hP hD hS => ?_)
  have hP : va_P D vwCl ([(b, .inr (5, [.ref q9, .int (iI 0), .ref t, .ref sh, .ref ln]))] ++ mu_w q9 cs.2.1 cs.1 3 630) H := hP
  have hD : va_D A ([(b, .inr (5, [.ref q9, .int (iI 0), .ref t, .ref sh, .ref ln]))] ++ mu_w q9 cs.2.1 cs.1 3 630) := hD
  exact W.vret hx hb hr (fun t ht hW => ⟨⟨q9, rfl, trivial, by rw [ht]; exact hP, by rw [hAe]; exact hD⟩, hS.F ht⟩) hS.2.2 d_PG_init_31
