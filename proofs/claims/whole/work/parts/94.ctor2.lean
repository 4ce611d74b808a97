def wPL (cs : pg_C) (b : Nat) (u : (Nat → Nat) × Nat × Nat × (Nat × Nat × Nat) × Nat × Nat) : va_W := ((([(b, .inr (0, [.ref (u.1 0), .ref u.2.1, .ref u.2.2.1, .ref u.2.2.2.2.1, .int (iI 0)]))] ++ wTX u.1 cs 30) ++ wSH u.2.1) ++ wLN cs u.2.2.1 (u.1 0) u.2.1 u.2.2.2.1) ++ wPG cs u.2.2.2.2.1 (u.1 0) u.2.1 u.2.2.1 u.2.2.2.2.2
set_option maxHeartbeats 4000000 in
set_option maxRecDepth 100000 in
theorem lp_TX {p : Program} {l : Launch} {e : Env} {s : State} {m : MethodId} {args : Array Value} {below : List Frame} {meth : Method} {c : Code} {Q : State → Prop} {A : Nat → Prop} {H0 : Heap} {D : va_G} {cs : pg_C} {b : Nat} (hx : p.tables.exec = Jvm.exec) (hb : c.code = b_TX_init) (hml : c.maxLocals = 2) (hga : ∀ w ∈ ga, w.before args s = true) (hown : s.vm.findClass R_TX = some m.cls) (hK : va_K D vwCl (pg_tys cs) s) (hZ : z_A cs s) (hA : ∀ q : Nat, H0.size ≤ q → A q)
    (kk : ∀ (ad : Nat → Nat) (H : Heap) (locs : List Loc) (ls : Array Slot), ad 0 = b → va_P D vwCl (wTX ad cs 30) H → va_D A (wTX ad cs 30) → va_S A H0 H locs → W p l e ({ frames := 2, cells := 124, slots := 2820, locals := 32 } : Room) s m args below meth c H locs (4 + 4 * 30) (1830 + 33 * 30) Q (F0 m 67 ls [])) :
    ∀ (f i : Nat) (ad : Nat → Nat) (H : Heap) (locs : List Loc) (ls : Array Slot), i + f = 30 → ad 0 = b → va_P D vwCl (wTX ad cs i) H → va_D A (wTX ad cs i) → va_S A H0 H locs → lv_has ls 2 [(1, .int (iI ((i : Nat) : Int))), (0, .ref b)] → W p l e ({ frames := 2, cells := 124, slots := 2820, locals := 32 } : Room) s m args below meth c H locs (4 + 4 * i) (1830 + 33 * i) Q (F0 m 42 ls []) := by
  have hg : ∀ w ∈ gt, w.before args s = true := fun w h => hga w (ga_gt h)
  intro f
  induction f with
  | zero =>
    intro i ad H locs ls hi h0 hP hD hS hl
    have hi30 : i = 30 := by omega
    subst hi30
    refine lv_iload_n hx hb d_TX_init_42 rfl (lv_at hl 0 rfl) ?_
    refine z_bipush hx hb (z := 30) d_TX_init_43 (by decide) ?_
    refine z_icmp_ge hx hb (tgt := 67) d_TX_init_45 (by decide) ⟨by decide, by decide⟩ ⟨by decide, by decide⟩ (fun c_45 => ?_) (fun c_45 => ?_)
    · exact kk ad H locs ls h0 hP hD hS
    · exact absurd (by decide) c_45
  | succ f ih =>
    intro i ad H locs ls hi h0 hP hD hS hl
    subst h0
    refine lv_iload_n hx hb d_TX_init_42 rfl (lv_at hl 0 rfl) ?_
    refine z_bipush hx hb (z := 30) d_TX_init_43 (by decide) ?_
    refine z_icmp_ge hx hb (tgt := 67) d_TX_init_45 (by decide) ⟨by omega, by omega⟩ ⟨by decide, by decide⟩ (fun c_45 => ?_) (fun c_45 => ?_)
    · exfalso; omega
    · refine lv_aload_n hx hb d_TX_init_48 rfl (lv_at hl 1 rfl) ?_
      refine va_get (ci := 1) (C := R_TX) (T := T_TX) (N := 6) (v := .ref (ad 1)) hx hb hg in_TX hown hK hP 0 (wTX_at (by omega)) rfl 0 (by decide) (hg _ (List.mem_append_right _ (List.mem_append_right _ (List.mem_append_left _ (List.mem_of_getElem? (i := 16) rfl))))) (fun _ h9 => h9) rfl d_TX_init_49 ?_
      refine lv_iload_n hx hb d_TX_init_52 rfl (lv_at hl 0 rfl) ?_
      refine va_new (ci := 6) (fs := [.null, .null, .null, .int (iI 0), .int (iI 0), .int (iI 0)]) (C := R_PA) (T := T_PA) (N := 6) hx hb hg in_PA ty_PA tk_PA hown (hg _ (List.mem_append_right _ (List.mem_append_left _ (List.mem_of_getElem? (i := 32) rfl)))) (hg _ (List.mem_append_right _ (List.mem_append_left _ (List.mem_of_getElem? (i := 33) rfl)))) (hg _ (List.mem_append_right _ (List.mem_append_left _ (List.mem_of_getElem? (i := 4) rfl)))) hK hP hD hS hA rfl (fun j hj => by rcases (show j = 0 ∨ j = 1 ∨ j = 2 ∨ j = 3 ∨ j = 4 ∨ j = 5 by omega) with rfl | rfl | rfl | rfl | rfl | rfl <;> rfl) (by show 4 + 4 * i + 1 ≤ 124; omega) (by show 1830 + 33 * i + 6 ≤ 2820; omega) d_TX_init_53 (fun q H hP hD hS => ?_)
      refine lv_dup hx hb d_TX_init_56 rfl ?_
      refine k_callN (As := []) (rest := [.ref q, .int (iI ((i : Nat) : Int)), .ref (ad 1)]) (w1 := wTX ad cs i) ⟨hx, hb, hml, hown, hga⟩ (k_PA l _ q) ⟨va_cnB 0 hga (ga_I (List.mem_append_right _ (List.mem_append_left _ (List.mem_of_getElem? (i := 35) rfl)))) rfl rfl rfl hZ.2.1 (hg _ (List.mem_append_right _ (List.mem_append_left _ (List.mem_of_getElem? (i := 4) rfl)))) (by decide +kernel) ⟨Nat.le_of_ble_eq_true rfl, Nat.le_of_ble_eq_true rfl⟩, rfl, hg _ (List.mem_append_right _ (List.mem_append_left _ (List.mem_of_getElem? (i := 34) rfl)))⟩ hK hZ hP hD hS hA rfl hl.1 rfl (Nat.le_of_ble_eq_true rfl) d_TX_init_57 ⟨by show 4 + 4 * i + 1 + 3 ≤ 124; omega, by show 1830 + 33 * i + 6 + 27 ≤ 2820; omega⟩ (fun u H locs hpo hP hD hS => ?_)
      refine va_astq hx hb hK hP hD hS 1 2 (5 + 4 * i) 6 (r := (R_PA, T_PA, 6)) (z_left (wTX_at (by omega))) rfl (by have h9 := z_right (w1 := wTX ad cs i) (w2 := wPA cs q u) (k := 0) rfl; rw [wTX_len] at h9; exact h9) rfl (iI_in (n := 30) (j := i) (by omega) (by decide)) d_TX_init_60 (fun H locs hP hD hS => ?_)
      have hiN : (iI ((i : Nat) : Int)).toNatClampNeg = i := by rw [iI_N (zb_nat (by omega))]; omega
      rw [hiN, wTX_s] at hP hD
      refine z_iinc (v := ((i + 1 : Nat) : Int)) (lv' := [(1, .int (iI ((i + 1 : Nat) : Int))), (0, .ref (ad 0))]) hx hb d_TX_init_61 hl (k := 0) rfl (by omega) (by decide) rfl (fun ls hl => ?_)
      refine lv_goto (tgt := 42) hx hb d_TX_init_64 (by decide) ?_
      rw [show 4 + 4 * i + 1 + 3 = 4 + 4 * (i + 1) by omega, show 1830 + 33 * i + 6 + 27 = 1830 + 33 * (i + 1) by omega]
      exact ih (i + 1) (tx_ad ad i q u) H locs ls (by omega) (tx_ad_lt (by omega)) hP hD hS hl
set_option maxHeartbeats 4000000 in
set_option maxRecDepth 100000 in
theorem k_TX (l : Launch) {D : va_G} {cs : pg_C} (sz b  : Nat) : Met l y_TX_init (.code y_TX_init b_TX_init 2 none :: ga) ({ frames := 2, cells := 124, slots := 2820, locals := 32 } : Room) (va_Pc [.ref b] (kz_B D vwCl (pg_tys cs) [(b, .inr (1, [.null, .null, .null, .null, .int (iI 0), .int (iI 0)]))] sz cs)) (va_Qv (fun u : Nat → Nat => u 0 = b) (k_E D vwCl [(b, .inr (1, [.null, .null, .null, .null, .int (iI 0), .int (iI 0)]))] (fun u : Nat → Nat => wTX u cs 30) sz) (va_A [(b, .inr (1, [.null, .null, .null, .null, .int (iI 0), .int (iI 0)]))] sz)) 124 2820 (va_A [(b, .inr (1, [.null, .null, .null, .null, .int (iI 0), .int (iI 0)]))] sz) := by
  refine Met.ofW (cc := b_TX_init) (maxL := 2) (ret := none) (by decide) rfl ?_
  intro p e s m args below meth c s₁ B hml hv
  obtain ⟨rfl, ⟨hsz, hP, hK, hD0⟩, hZ⟩ := hv
  have hx := B.exec
  have hb := B.bytes
  have hr := B.returns
  have hts := atoms_spec (ws := (.code y_TX_init b_TX_init 2 none :: ga)) B.pre
  have hga : ∀ w ∈ ga, w.before _ s = true := fun w h => hts w (List.mem_cons_of_mem _ h)
  have hg : ∀ w ∈ gt, w.before _ s = true := fun w h => hga w (ga_gt h)
  have hown : s.vm.findClass R_TX = some m.cls := findClass_of_methodNamed B.named
  have hlocks := B.notSynchronized
  have hin : meth.name = "<init>" := (name_of_methodNamed B.named B.method).1
  subst hsz
  have hD := hD0.self (sz := s.heap.size)
  generalize hAe : va_A [(b, .inr (1, [.null, .null, .null, .null, .int (iI 0), .int (iI 0)]))] s.heap.size = A at hD ⊢
  have hA : ∀ q : Nat, s.heap.size ≤ q → A q := fun q h => by rw [← hAe]; exact Or.inr h
  have hS : va_S A s.heap s.heap [] := va_S.rf
  have hl := lv_entry ([.ref b]) (n := 2) (Nat.le_of_ble_eq_true rfl)
  rw [lg_entry_eq]
  generalize (lg_sl ([.ref b]) ++ List.replicate (2 - (lg_sl ([.ref b])).length) Slot.unset).toArray = ls at hl ⊢
  have hl : lv_has ls 2 [(0, .ref b)] := hl
  refine lv_aload_n hx hb d_TX_init_0 rfl (lv_at hl 0 rfl) ?_
  refine W.objInit hx hb hown (hg _ (List.mem_append_right _ (List.mem_append_left _ (List.mem_of_getElem? (i := 31) rfl)))) (hg _ (List.mem_append_right _ (List.mem_append_left _ (List.mem_of_getElem? (i := 24) rfl)))) (hg _ (List.mem_append_right _ (List.mem_append_left _ (List.mem_of_getElem? (i := 25) rfl)))) rfl (by rw [hml]; exact hl.1) rfl d_TX_init_1 (Nat.le_of_ble_eq_true rfl) (Nat.le_of_ble_eq_true rfl) ?_
  refine W.eq (g2 := F0 m 4 ls []) rfl ?_
  refine lv_aload_n hx hb d_TX_init_4 rfl (lv_at hl 0 rfl) ?_
  refine z_bipush hx hb (z := 30) d_TX_init_5 (by decide) ?_
  refine n_newq (N' := 30) (E := "PageLayout$Paragraph") hx hb hown (hg _ (List.mem_append_right _ (List.mem_append_left _ (List.mem_of_getElem? (i := 32) rfl)))) hZ.1.1 hK 2 rfl hP hD hS hA (by decide) (Nat.le_of_ble_eq_true rfl) (Nat.le_of_ble_eq_true rfl) d_TX_init_7 (fun q7 H hP hD hS => ?_)
  have hP : va_P D vwCl ([(b, .inr (1, [.null, .null, .null, .null, .int (iI 0), .int (iI 0)]))] ++ [(q7, .inl (cs.2.2, 30, .inr (.inr (.inr (.inr (fun _ => none))))))]) H := hP
  have hD : va_D A ([(b, .inr (1, [.null, .null, .null, .null, .int (iI 0), .int (iI 0)]))] ++ [(q7, .inl (cs.2.2, 30, .inr (.inr (.inr (.inr (fun _ => none))))))]) := hD
  refine va_putF (ci := 1) (v := .ref q7) (ty := (.array (.object "PageLayout$Paragraph"))) (C := R_TX) (T := T_TX) (N := 6) hx hb hg in_TX ty_TX tk_TX nm_TX hown hK hP hD hS 0 rfl rfl 0 (by decide) (hg _ (List.mem_append_right _ (List.mem_append_right _ (List.mem_append_left _ (List.mem_of_getElem? (i := 16) rfl))))) (fun _ h9 => h9) rfl hin rfl (by decide +kernel) rfl rfl (Nat.le_of_ble_eq_true rfl) d_TX_init_10 (fun H locs hP hD hS => ?_)
  have hP : va_P D vwCl ([(b, .inr (1, [.ref q7, .null, .null, .null, .int (iI 0), .int (iI 0)]))] ++ [(q7, .inl (cs.2.2, 30, .inr (.inr (.inr (.inr (fun _ => none))))))]) H := hP
  have hD : va_D A ([(b, .inr (1, [.ref q7, .null, .null, .null, .int (iI 0), .int (iI 0)]))] ++ [(q7, .inl (cs.2.2, 30, .inr (.inr (.inr (.inr (fun _ => none))))))]) := hD
  refine lv_aload_n hx hb d_TX_init_13 rfl (lv_at hl 0 rfl) ?_
  refine z_sipush hx hb (z := 600) d_TX_init_14 (by decide) ?_
  refine n_newa (N' := 600) hx hb (hga _ List.mem_cons_self) hK 0 rfl hP hD hS hA (by decide) (Nat.le_of_ble_eq_true rfl) (Nat.le_of_ble_eq_true rfl) d_TX_init_17 (fun q17 H hP hD hS => ?_)
  have hP : va_P D vwCl (([(b, .inr (1, [.ref q7, .null, .null, .null, .int (iI 0), .int (iI 0)]))] ++ [(q7, .inl (cs.2.2, 30, .inr (.inr (.inr (.inr (fun _ => none))))))]) ++ [(q17, e_ia cs 600)]) H := hP
  have hD : va_D A (([(b, .inr (1, [.ref q7, .null, .null, .null, .int (iI 0), .int (iI 0)]))] ++ [(q7, .inl (cs.2.2, 30, .inr (.inr (.inr (.inr (fun _ => none))))))]) ++ [(q17, e_ia cs 600)]) := hD
  refine va_putF (ci := 1) (v := .ref q17) (ty := (.array .int)) (C := R_TX) (T := T_TX) (N := 6) hx hb hg in_TX ty_TX tk_TX nm_TX hown hK hP hD hS 0 rfl rfl 1 (by decide) (hg _ (List.mem_append_right _ (List.mem_append_right _ (List.mem_append_left _ (List.mem_of_getElem? (i := 20) rfl))))) (fun _ h9 => h9) rfl hin rfl (by decide +kernel) rfl rfl (Nat.le_of_ble_eq_true rfl) d_TX_init_19 (fun H locs hP hD hS => ?_)
  have hP : va_P D vwCl (([(b, .inr (1, [.ref q7, .ref q17, .null, .null, .int (iI 0), .int (iI 0)]))] ++ [(q7, .inl (cs.2.2, 30, .inr (.inr (.inr (.inr (fun _ => none))))))]) ++ [(q17, e_ia cs 600)]) H := hP
  have hD : va_D A (([(b, .inr (1, [.ref q7, .ref q17, .null, .null, .int (iI 0), .int (iI 0)]))] ++ [(q7, .inl (cs.2.2, 30, .inr (.inr (.inr (.inr (fun _ => none))))))]) ++ [(q17, e_ia cs 600)]) := hD
  refine lv_aload_n hx hb d_TX_init_22 rfl (lv_at hl 0 rfl) ?_
  refine z_sipush hx hb (z := 600) d_TX_init_23 (by decide) ?_
  refine n_newa (N' := 600) hx hb (hga _ List.mem_cons_self) hK 0 rfl hP hD hS hA (by decide) (Nat.le_of_ble_eq_true rfl) (Nat.le_of_ble_eq_true rfl) d_TX_init_26 (fun q26 H hP hD hS => ?_)
  have hP : va_P D vwCl ((([(b, .inr (1, [.ref q7, .ref q17, .null, .null, .int (iI 0), .int (iI 0)]))] ++ [(q7, .inl (cs.2.2, 30, .inr (.inr (.inr (.inr (fun _ => none))))))]) ++ [(q17, e_ia cs 600)]) ++ [(q26, e_ia cs 600)]) H := hP
  have hD : va_D A ((([(b, .inr (1, [.ref q7, .ref q17, .null, .null, .int (iI 0), .int (iI 0)]))] ++ [(q7, .inl (cs.2.2, 30, .inr (.inr (.inr (.inr (fun _ => none))))))]) ++ [(q17, e_ia cs 600)]) ++ [(q26, e_ia cs 600)]) := hD
  refine va_putF (ci := 1) (v := .ref q26) (ty := (.array .int)) (C := R_TX) (T := T_TX) (N := 6) hx hb hg in_TX ty_TX tk_TX nm_TX hown hK hP hD hS 0 rfl rfl 2 (by decide) (hg _ (List.mem_append_right _ (List.mem_append_right _ (List.mem_append_left _ (List.mem_of_getElem? (i := 23) rfl))))) (fun _ h9 => h9) rfl hin rfl (by decide +kernel) rfl rfl (Nat.le_of_ble_eq_true rfl) d_TX_init_28 (fun H locs hP hD hS => ?_)
  have hP : va_P D vwCl ((([(b, .inr (1, [.ref q7, .ref q17, .ref q26, .null, .int (iI 0), .int (iI 0)]))] ++ [(q7, .inl (cs.2.2, 30, .inr (.inr (.inr (.inr (fun _ => none))))))]) ++ [(q17, e_ia cs 600)]) ++ [(q26, e_ia cs 600)]) H := hP
  have hD : va_D A ((([(b, .inr (1, [.ref q7, .ref q17, .ref q26, .null, .int (iI 0), .int (iI 0)]))] ++ [(q7, .inl (cs.2.2, 30, .inr (.inr (.inr (.inr (fun _ => none))))))]) ++ [(q17, e_ia cs 600)]) ++ [(q26, e_ia cs 600)]) := hD
  refine lv_aload_n hx hb d_TX_init_31 rfl (lv_at hl 0 rfl) ?_
  refine z_sipush hx hb (z := 600) d_TX_init_32 (by decide) ?_
  refine n_newa (N' := 600) hx hb (hga _ List.mem_cons_self) hK 0 rfl hP hD hS hA (by decide) (Nat.le_of_ble_eq_true rfl) (Nat.le_of_ble_eq_true rfl) d_TX_init_35 (fun q35 H hP hD hS => ?_)
  have hP : va_P D vwCl (((([(b, .inr (1, [.ref q7, .ref q17, .ref q26, .null, .int (iI 0), .int (iI 0)]))] ++ [(q7, .inl (cs.2.2, 30, .inr (.inr (.inr (.inr (fun _ => none))))))]) ++ [(q17, e_ia cs 600)]) ++ [(q26, e_ia cs 600)]) ++ [(q35, e_ia cs 600)]) H := hP
  have hD : va_D A (((([(b, .inr (1, [.ref q7, .ref q17, .ref q26, .null, .int (iI 0), .int (iI 0)]))] ++ [(q7, .inl (cs.2.2, 30, .inr (.inr (.inr (.inr (fun _ => none))))))]) ++ [(q17, e_ia cs 600)]) ++ [(q26, e_ia cs 600)]) ++ [(q35, e_ia cs 600)]) := hD
  refine va_putF (ci := 1) (v := .ref q35) (ty := (.array .int)) (C := R_TX) (T := T_TX) (N := 6) hx hb hg in_TX ty_TX tk_TX nm_TX hown hK hP hD hS 0 rfl rfl 3 (by decide) (hg _ (List.mem_append_right _ (List.mem_append_right _ (List.mem_append_left _ (List.mem_of_getElem? (i := 25) rfl))))) (fun _ h9 => h9) rfl hin rfl (by decide +kernel) rfl rfl (Nat.le_of_ble_eq_true rfl) d_TX_init_37 (fun H locs hP hD hS => ?_)
  have hP : va_P D vwCl (((([(b, .inr (1, [.ref q7, .ref q17, .ref q26, .ref q35, .int (iI 0), .int (iI 0)]))] ++ [(q7, .inl (cs.2.2, 30, .inr (.inr (.inr (.inr (fun _ => none))))))]) ++ [(q17, e_ia cs 600)]) ++ [(q26, e_ia cs 600)]) ++ [(q35, e_ia cs 600)]) H := hP
  have hD : va_D A (((([(b, .inr (1, [.ref q7, .ref q17, .ref q26, .ref q35, .int (iI 0), .int (iI 0)]))] ++ [(q7, .inl (cs.2.2, 30, .inr (.inr (.inr (.inr (fun _ => none))))))]) ++ [(q17, e_ia cs 600)]) ++ [(q26, e_ia cs 600)]) ++ [(q35, e_ia cs 600)]) := hD
  refine z_iconst hx hb (z := 0) d_TX_init_40 ?_
  refine lv_istore_n (lv' := [(1, .int (iI 0)), (0, .ref b)]) hx hb d_TX_init_41 rfl hl (by decide) rfl (fun ls hl => ?_)
  obtain ⟨ad, had⟩ : ∃ ad : Nat → Nat, ad = (fun k => match k with | 0 => b | 1 => q7 | 2 => q17 | 3 => q26 | _ => q35) := ⟨_, rfl⟩
  have hP : va_P D vwCl (wTX ad cs 0) H := by rw [had]; exact hP
  have hD : va_D A (wTX ad cs 0) := by rw [had]; exact hD
  have h0 : ad 0 = b := congrFun had 0
  refine lp_TX hx hb hml hga hown hK hZ hA (fun ad H locs ls h0 hP hD hS => ?_) 30 0 ad H locs ls rfl h0 hP hD hS hl
  exact W.vret hx hb hr (fun t ht hW => ⟨⟨ad, rfl, h0, by rw [ht]; exact hP, by rw [hAe]; exact hD⟩, hS.F ht⟩) hS.2.2 d_TX_init_67
set_option maxHeartbeats 4000000 in
set_option maxRecDepth 100000 in
theorem k_PL (l : Launch) {D : va_G} {cs : pg_C} (sz b  : Nat) : Met l y_PL_init (.code y_PL_init b_PL_init 1 none :: ga) ({ frames := 3, cells := 148, slots := 12853, locals := 56 } : Room) (va_Pc [.ref b] (kz_B D vwCl (pg_tys cs) [(b, .inr (0, [.null, .null, .null, .null, .int (iI 0)]))] sz cs)) (va_Qv (fun u : (Nat → Nat) × Nat × Nat × (Nat × Nat × Nat) × Nat × Nat => True) (k_E D vwCl [(b, .inr (0, [.null, .null, .null, .null, .int (iI 0)]))] (fun u : (Nat → Nat) × Nat × Nat × (Nat × Nat × Nat) × Nat × Nat => wPL cs b u) sz) (va_A [(b, .inr (0, [.null, .null, .null, .null, .int (iI 0)]))] sz)) 148 12853 (va_A [(b, .inr (0, [.null, .null, .null, .null, .int (iI 0)]))] sz) := by
  refine Met.ofW (cc := b_PL_init) (maxL := 1) (ret := none) (by decide) rfl ?_
  intro p e s m args below meth c s₁ B hml hv
  obtain ⟨rfl, ⟨hsz, hP, hK, hD0⟩, hZ⟩ := hv
  have hx := B.exec
  have hb := B.bytes
  have hr := B.returns
  have hts := atoms_spec (ws := (.code y_PL_init b_PL_init 1 none :: ga)) B.pre
  have hga : ∀ w ∈ ga, w.before _ s = true := fun w h => hts w (List.mem_cons_of_mem _ h)
  have hg : ∀ w ∈ gt, w.before _ s = true := fun w h => hga w (ga_gt h)
  have hown : s.vm.findClass R_PL = some m.cls := findClass_of_methodNamed B.named
  have hlocks := B.notSynchronized
  have hin : meth.name = "<init>" := (name_of_methodNamed B.named B.method).1
  subst hsz
  have hD := hD0.self (sz := s.heap.size)
  generalize hAe : va_A [(b, .inr (0, [.null, .null, .null, .null, .int (iI 0)]))] s.heap.size = A at hD ⊢
  have hA : ∀ q : Nat, s.heap.size ≤ q → A q := fun q h => by rw [← hAe]; exact Or.inr h
  have hS : va_S A s.heap s.heap [] := va_S.rf
  have hl := lv_entry ([.ref b]) (n := 1) (Nat.le_of_ble_eq_true rfl)
  rw [lg_entry_eq]
  generalize (lg_sl ([.ref b]) ++ List.replicate (1 - (lg_sl ([.ref b])).length) Slot.unset).toArray = ls at hl ⊢
  have hl : lv_has ls 1 [(0, .ref b)] := hl
  refine lv_aload_n hx hb d_PL_init_0 rfl (lv_at hl 0 rfl) ?_
  refine W.objInit hx hb hown (hg _ (List.mem_append_right _ (List.mem_append_left _ (List.mem_of_getElem? (i := 23) rfl)))) (hg _ (List.mem_append_right _ (List.mem_append_left _ (List.mem_of_getElem? (i := 24) rfl)))) (hg _ (List.mem_append_right _ (List.mem_append_left _ (List.mem_of_getElem? (i := 25) rfl)))) rfl (by rw [hml]; exact hl.1) rfl d_PL_init_1 (Nat.le_of_ble_eq_true rfl) (Nat.le_of_ble_eq_true rfl) ?_
  refine W.eq (g2 := F0 m 4 ls []) rfl ?_
  refine lv_aload_n hx hb d_PL_init_4 rfl (lv_at hl 0 rfl) ?_
  refine va_new (ci := 1) (fs := [.null, .null, .null, .null, .int (iI 0), .int (iI 0)]) (C := R_TX) (T := T_TX) (N := 6) hx hb hg in_TX ty_TX tk_TX hown (hg _ (List.mem_append_right _ (List.mem_append_left _ (List.mem_of_getElem? (i := 26) rfl)))) (hg _ (List.mem_append_right _ (List.mem_append_left _ (List.mem_of_getElem? (i := 27) rfl)))) (hg _ (List.mem_append_right _ (List.mem_append_left _ (List.mem_of_getElem? (i := 3) rfl)))) hK hP hD hS hA rfl (fun j hj => by rcases (show j = 0 ∨ j = 1 ∨ j = 2 ∨ j = 3 ∨ j = 4 ∨ j = 5 by omega) with rfl | rfl | rfl | rfl | rfl | rfl <;> rfl) (Nat.le_of_ble_eq_true rfl) (Nat.le_of_ble_eq_true rfl) d_PL_init_5 (fun q5 H hP hD hS => ?_)
  have hP : va_P D vwCl ([(b, .inr (0, [.null, .null, .null, .null, .int (iI 0)]))] ++ [(q5, .inr (1, [.null, .null, .null, .null, .int (iI 0), .int (iI 0)]))]) H := hP
  have hD : va_D A ([(b, .inr (0, [.null, .null, .null, .null, .int (iI 0)]))] ++ [(q5, .inr (1, [.null, .null, .null, .null, .int (iI 0), .int (iI 0)]))]) := hD
  refine lv_dup hx hb d_PL_init_8 rfl ?_
  refine k_callI (As := []) (rest := [.ref q5, .ref b]) (w1 := [(b, .inr (0, [.null, .null, .null, .null, .int (iI 0)]))]) ⟨hx, hb, hml, hown, hga⟩ (k_TX l _ q5 ) (cwI 0 hga (ga_I (List.mem_append_right _ (List.mem_append_left _ (List.mem_of_getElem? (i := 30) rfl)))) rfl rfl rfl (hg _ (List.mem_append_right _ (List.mem_append_left _ (List.mem_of_getElem? (i := 3) rfl)))) (hg _ (List.mem_append_right _ (List.mem_append_left _ (List.mem_of_getElem? (i := 28) rfl)))) (hg _ (List.mem_append_right _ (List.mem_append_left _ (List.mem_of_getElem? (i := 29) rfl)))) rfl (by decide +kernel) ⟨Nat.le_of_ble_eq_true rfl, Nat.le_of_ble_eq_true rfl⟩) hK hZ hP hD hS hA rfl hl.1 rfl (Nat.le_of_ble_eq_true rfl) d_PL_init_9 ⟨Nat.le_of_ble_eq_true rfl, Nat.le_of_ble_eq_true rfl⟩ (fun u9 H locs hpo hP hD hS => ?_)
  have hpo9 : u9 0 = q5 := hpo
  have hP : va_P D vwCl ([(b, .inr (0, [.null, .null, .null, .null, .int (iI 0)]))] ++ wTX u9 cs 30) H := hP
  have hD : va_D A ([(b, .inr (0, [.null, .null, .null, .null, .int (iI 0)]))] ++ wTX u9 cs 30) := hD
  refine va_putF (ci := 0) (v := .ref q5) (ty := (.object "PageLayout$Text")) (C := R_PL) (T := T_PL) (N := 5) hx hb hg in_PL ty_PL tk_PL nm_PL hown hK hP hD hS 0 rfl rfl 0 (by decide) (hg _ (List.mem_append_right _ (List.mem_append_right _ (List.mem_append_right _ (List.mem_append_right _ (List.mem_append_left _ (List.mem_of_getElem? (i := 39) rfl))))))) (fun _ h9 => h9) rfl hin rfl (by decide +kernel) rfl rfl (Nat.le_of_ble_eq_true rfl) d_PL_init_12 (fun H locs hP hD hS => ?_)
  have hP : va_P D vwCl ([(b, .inr (0, [.ref q5, .null, .null, .null, .int (iI 0)]))] ++ wTX u9 cs 30) H := hP
  have hD : va_D A ([(b, .inr (0, [.ref q5, .null, .null, .null, .int (iI 0)]))] ++ wTX u9 cs 30) := hD
  refine lv_aload_n hx hb d_PL_init_15 rfl (lv_at hl 0 rfl) ?_
  refine va_new (ci := 2) (fs := [.int (iI 0), .int (iI 0), .int (iI 0)]) (C := R_SH) (T := T_SH) (N := 3) hx hb hg in_SH ty_SH tk_SH hown (hg _ (List.mem_append_right _ (List.mem_append_right _ (List.mem_append_left _ (List.mem_of_getElem? (i := 38) rfl))))) (hg _ (List.mem_append_right _ (List.mem_append_right _ (List.mem_append_left _ (List.mem_of_getElem? (i := 39) rfl))))) (hg _ (List.mem_append_right _ (List.mem_append_left _ (List.mem_of_getElem? (i := 5) rfl)))) hK hP hD hS hA rfl (fun j hj => by rcases (show j = 0 ∨ j = 1 ∨ j = 2 by omega) with rfl | rfl | rfl <;> rfl) (Nat.le_of_ble_eq_true rfl) (Nat.le_of_ble_eq_true rfl) d_PL_init_16 (fun q16 H hP hD hS => ?_)
  have hP : va_P D vwCl (([(b, .inr (0, [.ref q5, .null, .null, .null, .int (iI 0)]))] ++ wTX u9 cs 30) ++ [(q16, .inr (2, [.int (iI 0), .int (iI 0), .int (iI 0)]))]) H := hP
  have hD : va_D A (([(b, .inr (0, [.ref q5, .null, .null, .null, .int (iI 0)]))] ++ wTX u9 cs 30) ++ [(q16, .inr (2, [.int (iI 0), .int (iI 0), .int (iI 0)]))]) := hD
  refine lv_dup hx hb d_PL_init_19 rfl ?_
  refine k_callN (As := []) (rest := [.ref q16, .ref b]) (w1 := ([(b, .inr (0, [.ref q5, .null, .null, .null, .int (iI 0)]))] ++ wTX u9 cs 30)) ⟨hx, hb, hml, hown, hga⟩ (k_SH l _ q16 ) ⟨va_cnB 0 hga (ga_I (List.mem_append_right _ (List.mem_append_right _ (List.mem_append_right _ (List.mem_append_left _ (List.mem_of_getElem? (i := 1) rfl)))))) rfl rfl rfl hZ.2.2 (hg _ (List.mem_append_right _ (List.mem_append_left _ (List.mem_of_getElem? (i := 5) rfl)))) (by decide +kernel) ⟨Nat.le_of_ble_eq_true rfl, Nat.le_of_ble_eq_true rfl⟩, rfl, hg _ (List.mem_append_right _ (List.mem_append_right _ (List.mem_append_right _ (List.mem_append_left _ (List.mem_of_getElem? (i := 0) rfl)))))⟩ hK hZ hP hD hS hA rfl hl.1 rfl (Nat.le_of_ble_eq_true rfl) d_PL_init_20 ⟨Nat.le_of_ble_eq_true rfl, Nat.le_of_ble_eq_true rfl⟩ (fun u20 H locs hpo hP hD hS => ?_)
  have hP : va_P D vwCl (([(b, .inr (0, [.ref q5, .null, .null, .null, .int (iI 0)]))] ++ wTX u9 cs 30) ++ wSH q16) H := hP
  have hD : va_D A (([(b, .inr (0, [.ref q5, .null, .null, .null, .int (iI 0)]))] ++ wTX u9 cs 30) ++ wSH q16) := hD
  refine va_putF (ci := 0) (v := .ref q16) (ty := (.object "PageLayout$Sheet")) (C := R_PL) (T := T_PL) (N := 5) hx hb hg in_PL ty_PL tk_PL nm_PL hown hK hP hD hS 0 rfl rfl 1 (by decide) (hg _ (List.mem_append_right _ (List.mem_append_right _ (List.mem_append_right _ (List.mem_append_right _ (List.mem_append_right _ (List.mem_append_left _ (List.mem_of_getElem? (i := 0) rfl)))))))) (fun _ h9 => h9) rfl hin rfl (by decide +kernel) rfl rfl (Nat.le_of_ble_eq_true rfl) d_PL_init_23 (fun H locs hP hD hS => ?_)
  have hP : va_P D vwCl (([(b, .inr (0, [.ref q5, .ref q16, .null, .null, .int (iI 0)]))] ++ wTX u9 cs 30) ++ wSH q16) H := hP
  have hD : va_D A (([(b, .inr (0, [.ref q5, .ref q16, .null, .null, .int (iI 0)]))] ++ wTX u9 cs 30) ++ wSH q16) := hD
  refine lv_aload_n hx hb d_PL_init_26 rfl (lv_at hl 0 rfl) ?_
  refine va_new (ci := 3) (fs := [.null, .null, .int (iI 0), .null, .null, .null]) (C := R_LN) (T := T_LN) (N := 6) hx hb hg in_LN ty_LN tk_LN hown (hg _ (List.mem_append_right _ (List.mem_append_right _ (List.mem_append_right _ (List.mem_append_left _ (List.mem_of_getElem? (i := 16) rfl)))))) (hg _ (List.mem_append_right _ (List.mem_append_right _ (List.mem_append_right _ (List.mem_append_left _ (List.mem_of_getElem? (i := 17) rfl)))))) (hg _ (List.mem_append_right _ (List.mem_append_left _ (List.mem_of_getElem? (i := 6) rfl)))) hK hP hD hS hA rfl (fun j hj => by rcases (show j = 0 ∨ j = 1 ∨ j = 2 ∨ j = 3 ∨ j = 4 ∨ j = 5 by omega) with rfl | rfl | rfl | rfl | rfl | rfl <;> rfl) (Nat.le_of_ble_eq_true rfl) (Nat.le_of_ble_eq_true rfl) d_PL_init_27 (fun q27 H hP hD hS => ?_)
  have hP : va_P D vwCl ((([(b, .inr (0, [.ref q5, .ref q16, .null, .null, .int (iI 0)]))] ++ wTX u9 cs 30) ++ wSH q16) ++ [(q27, .inr (3, [.null, .null, .int (iI 0), .null, .null, .null]))]) H := hP
  have hD : va_D A ((([(b, .inr (0, [.ref q5, .ref q16, .null, .null, .int (iI 0)]))] ++ wTX u9 cs 30) ++ wSH q16) ++ [(q27, .inr (3, [.null, .null, .int (iI 0), .null, .null, .null]))]) := hD
  refine lv_dup hx hb d_PL_init_30 rfl ?_
  refine lv_aload_n hx hb d_PL_init_31 rfl (lv_at hl 0 rfl) ?_
  refine va_get (ci := 0) (C := R_PL) (T := T_PL) (N := 5) (v := .ref q5) hx hb hg in_PL hown hK hP 0 rfl rfl 0 (by decide) (hg _ (List.mem_append_right _ (List.mem_append_right _ (List.mem_append_right _ (List.mem_append_right _ (List.mem_append_left _ (List.mem_of_getElem? (i := 39) rfl))))))) (fun _ h9 => h9) rfl d_PL_init_32 ?_
  refine lv_aload_n hx hb d_PL_init_35 rfl (lv_at hl 0 rfl) ?_
  refine va_get (ci := 0) (C := R_PL) (T := T_PL) (N := 5) (v := .ref q16) hx hb hg in_PL hown hK hP 0 rfl rfl 1 (by decide) (hg _ (List.mem_append_right _ (List.mem_append_right _ (List.mem_append_right _ (List.mem_append_right _ (List.mem_append_right _ (List.mem_append_left _ (List.mem_of_getElem? (i := 0) rfl)))))))) (fun _ h9 => h9) rfl d_PL_init_36 ?_
  refine k_callI (As := [.ref q5, .ref q16]) (rest := [.ref q27, .ref b]) (w1 := (([(b, .inr (0, [.ref q5, .ref q16, .null, .null, .int (iI 0)]))] ++ wTX u9 cs 30) ++ wSH q16)) ⟨hx, hb, hml, hown, hga⟩ (k_LN l _ q27 q5 q16) (cwI 2 hga (ga_I (List.mem_append_right _ (List.mem_append_right _ (List.mem_append_right _ (List.mem_append_left _ (List.mem_of_getElem? (i := 20) rfl)))))) rfl rfl rfl (hg _ (List.mem_append_right _ (List.mem_append_left _ (List.mem_of_getElem? (i := 6) rfl)))) (hg _ (List.mem_append_right _ (List.mem_append_right _ (List.mem_append_right _ (List.mem_append_left _ (List.mem_of_getElem? (i := 18) rfl)))))) (hg _ (List.mem_append_right _ (List.mem_append_right _ (List.mem_append_right _ (List.mem_append_left _ (List.mem_of_getElem? (i := 19) rfl)))))) rfl (by decide +kernel) ⟨Nat.le_of_ble_eq_true rfl, Nat.le_of_ble_eq_true rfl⟩) hK hZ hP hD hS hA rfl hl.1 rfl (Nat.le_of_ble_eq_true rfl) d_PL_init_39 ⟨Nat.le_of_ble_eq_true rfl, Nat.le_of_ble_eq_true rfl⟩ (fun u39 H locs hpo hP hD hS => ?_)
  have hP : va_P D vwCl ((([(b, .inr (0, [.ref q5, .ref q16, .null, .null, .int (iI 0)]))] ++ wTX u9 cs 30) ++ wSH q16) ++ wLN cs q27 q5 q16 u39) H := hP
  have hD : va_D A ((([(b, .inr (0, [.ref q5, .ref q16, .null, .null, .int (iI 0)]))] ++ wTX u9 cs 30) ++ wSH q16) ++ wLN cs q27 q5 q16 u39) := hD
  refine va_putF (ci := 0) (v := .ref q27) (ty := (.object "PageLayout$Lines")) (C := R_PL) (T := T_PL) (N := 5) hx hb hg in_PL ty_PL tk_PL nm_PL hown hK hP hD hS 0 rfl rfl 2 (by decide) (hg _ (List.mem_append_right _ (List.mem_append_right _ (List.mem_append_right _ (List.mem_append_right _ (List.mem_append_right _ (List.mem_append_left _ (List.mem_of_getElem? (i := 1) rfl)))))))) (fun _ h9 => h9) rfl hin rfl (by decide +kernel) rfl rfl (Nat.le_of_ble_eq_true rfl) d_PL_init_42 (fun H locs hP hD hS => ?_)
  have hP : va_P D vwCl ((([(b, .inr (0, [.ref q5, .ref q16, .ref q27, .null, .int (iI 0)]))] ++ wTX u9 cs 30) ++ wSH q16) ++ wLN cs q27 q5 q16 u39) H := hP
  have hD : va_D A ((([(b, .inr (0, [.ref q5, .ref q16, .ref q27, .null, .int (iI 0)]))] ++ wTX u9 cs 30) ++ wSH q16) ++ wLN cs q27 q5 q16 u39) := hD
  refine lv_aload_n hx hb d_PL_init_45 rfl (lv_at hl 0 rfl) ?_
  refine va_new (ci := 5) (fs := [.null, .int (iI 0), .null, .null, .null]) (C := R_PG) (T := T_PG) (N := 5) hx hb hg in_PG ty_PG tk_PG hown (hg _ (List.mem_append_right _ (List.mem_append_right _ (List.mem_append_right _ (List.mem_append_right _ (List.mem_append_left _ (List.mem_of_getElem? (i := 20) rfl))))))) (hg _ (List.mem_append_right _ (List.mem_append_right _ (List.mem_append_right _ (List.mem_append_right _ (List.mem_append_left _ (List.mem_of_getElem? (i := 21) rfl))))))) (hg _ (List.mem_append_right _ (List.mem_append_left _ (List.mem_of_getElem? (i := 8) rfl)))) hK hP hD hS hA rfl (fun j hj => by rcases (show j = 0 ∨ j = 1 ∨ j = 2 ∨ j = 3 ∨ j = 4 by omega) with rfl | rfl | rfl | rfl | rfl <;> rfl) (Nat.le_of_ble_eq_true rfl) (Nat.le_of_ble_eq_true rfl) d_PL_init_46 (fun q46 H hP hD hS => ?_)
  have hP : va_P D vwCl (((([(b, .inr (0, [.ref q5, .ref q16, .ref q27, .null, .int (iI 0)]))] ++ wTX u9 cs 30) ++ wSH q16) ++ wLN cs q27 q5 q16 u39) ++ [(q46, .inr (5, [.null, .int (iI 0), .null, .null, .null]))]) H := hP
  have hD : va_D A (((([(b, .inr (0, [.ref q5, .ref q16, .ref q27, .null, .int (iI 0)]))] ++ wTX u9 cs 30) ++ wSH q16) ++ wLN cs q27 q5 q16 u39) ++ [(q46, .inr (5, [.null, .int (iI 0), .null, .null, .null]))]) := hD
  refine lv_dup hx hb d_PL_init_49 rfl ?_
  refine lv_aload_n hx hb d_PL_init_50 rfl (lv_at hl 0 rfl) ?_
  refine va_get (ci := 0) (C := R_PL) (T := T_PL) (N := 5) (v := .ref q5) hx hb hg in_PL hown hK hP 0 rfl rfl 0 (by decide) (hg _ (List.mem_append_right _ (List.mem_append_right _ (List.mem_append_right _ (List.mem_append_right _ (List.mem_append_left _ (List.mem_of_getElem? (i := 39) rfl))))))) (fun _ h9 => h9) rfl d_PL_init_51 ?_
  refine lv_aload_n hx hb d_PL_init_54 rfl (lv_at hl 0 rfl) ?_
  refine va_get (ci := 0) (C := R_PL) (T := T_PL) (N := 5) (v := .ref q16) hx hb hg in_PL hown hK hP 0 rfl rfl 1 (by decide) (hg _ (List.mem_append_right _ (List.mem_append_right _ (List.mem_append_right _ (List.mem_append_right _ (List.mem_append_right _ (List.mem_append_left _ (List.mem_of_getElem? (i := 0) rfl)))))))) (fun _ h9 => h9) rfl d_PL_init_55 ?_
  refine lv_aload_n hx hb d_PL_init_58 rfl (lv_at hl 0 rfl) ?_
  refine va_get (ci := 0) (C := R_PL) (T := T_PL) (N := 5) (v := .ref q27) hx hb hg in_PL hown hK hP 0 rfl rfl 2 (by decide) (hg _ (List.mem_append_right _ (List.mem_append_right _ (List.mem_append_right _ (List.mem_append_right _ (List.mem_append_right _ (List.mem_append_left _ (List.mem_of_getElem? (i := 1) rfl)))))))) (fun _ h9 => h9) rfl d_PL_init_59 ?_
  refine k_callI (As := [.ref q5, .ref q16, .ref q27]) (rest := [.ref q46, .ref b]) (w1 := ((([(b, .inr (0, [.ref q5, .ref q16, .ref q27, .null, .int (iI 0)]))] ++ wTX u9 cs 30) ++ wSH q16) ++ wLN cs q27 q5 q16 u39)) ⟨hx, hb, hml, hown, hga⟩ (k_PG l _ q46 q5 q16 q27) (cwI 3 hga (ga_I (List.mem_append_right _ (List.mem_append_right _ (List.mem_append_right _ (List.mem_append_right _ (List.mem_append_left _ (List.mem_of_getElem? (i := 24) rfl))))))) rfl rfl rfl (hg _ (List.mem_append_right _ (List.mem_append_left _ (List.mem_of_getElem? (i := 8) rfl)))) (hg _ (List.mem_append_right _ (List.mem_append_right _ (List.mem_append_right _ (List.mem_append_right _ (List.mem_append_left _ (List.mem_of_getElem? (i := 22) rfl))))))) (hg _ (List.mem_append_right _ (List.mem_append_right _ (List.mem_append_right _ (List.mem_append_right _ (List.mem_append_left _ (List.mem_of_getElem? (i := 23) rfl))))))) rfl (by decide +kernel) ⟨Nat.le_of_ble_eq_true rfl, Nat.le_of_ble_eq_true rfl⟩) hK hZ hP hD hS hA rfl hl.1 rfl (Nat.le_of_ble_eq_true rfl) d_PL_init_62 ⟨Nat.le_of_ble_eq_true rfl, Nat.le_of_ble_eq_true rfl⟩ (fun u62 H locs hpo hP hD hS => ?_)
  have hP : va_P D vwCl (((([(b, .inr (0, [.ref q5, .ref q16, .ref q27, .null, .int (iI 0)]))] ++ wTX u9 cs 30) ++ wSH q16) ++ wLN cs q27 q5 q16 u39) ++ wPG cs q46 q5 q16 q27 u62) H := hP
  have hD : va_D A (((([(b, .inr (0, [.ref q5, .ref q16, .ref q27, .null, .int (iI 0)]))] ++ wTX u9 cs 30) ++ wSH q16) ++ wLN cs q27 q5 q16 u39) ++ wPG cs q46 q5 q16 q27 u62) := hD
  refine va_putF (ci := 0) (v := .ref q46) (ty := (.object "PageLayout$Pages")) (C := R_PL) (T := T_PL) (N := 5) hx hb hg in_PL ty_PL tk_PL nm_PL hown hK hP hD hS 0 rfl rfl 3 (by decide) (hg _ (List.mem_append_right _ (List.mem_append_right _ (List.mem_append_right _ (List.mem_append_right _ (List.mem_append_right _ (List.mem_append_left _ (List.mem_of_getElem? (i := 2) rfl)))))))) (fun _ h9 => h9) rfl hin rfl (by decide +kernel) rfl rfl (Nat.le_of_ble_eq_true rfl) d_PL_init_65 (fun H locs hP hD hS => ?_)
  have hP : va_P D vwCl (((([(b, .inr (0, [.ref q5, .ref q16, .ref q27, .ref q46, .int (iI 0)]))] ++ wTX u9 cs 30) ++ wSH q16) ++ wLN cs q27 q5 q16 u39) ++ wPG cs q46 q5 q16 q27 u62) H := hP
  have hD : va_D A (((([(b, .inr (0, [.ref q5, .ref q16, .ref q27, .ref q46, .int (iI 0)]))] ++ wTX u9 cs 30) ++ wSH q16) ++ wLN cs q27 q5 q16 u39) ++ wPG cs q46 q5 q16 q27 u62) := hD
  refine lv_aload_n hx hb d_PL_init_68 rfl (lv_at hl 0 rfl) ?_
  refine z_iconst hx hb (z := 0) d_PL_init_69 ?_
  refine va_put (ci := 0) (v := .int (iI 0)) (ty := .boolean) (C := R_PL) (T := T_PL) (N := 5) hx hb hg in_PL ty_PL tk_PL nm_PL hown hK hP hD hS 0 rfl rfl 4 (by decide) (hg _ (List.mem_append_right _ (List.mem_append_right _ (List.mem_append_right _ (List.mem_append_right _ (List.mem_append_right _ (List.mem_append_left _ (List.mem_of_getElem? (i := 3) rfl)))))))) (fun _ h9 => h9) rfl (by decide +kernel) rfl rfl (Nat.le_of_ble_eq_true rfl) d_PL_init_70 (fun H locs hP hD hS => ?_)
  have hP : va_P D vwCl (((([(b, .inr (0, [.ref q5, .ref q16, .ref q27, .ref q46, .int (iI 0)]))] ++ wTX u9 cs 30) ++ wSH q16) ++ wLN cs q27 q5 q16 u39) ++ wPG cs q46 q5 q16 q27 u62) H := hP
  have hD : va_D A (((([(b, .inr (0, [.ref q5, .ref q16, .ref q27, .ref q46, .int (iI 0)]))] ++ wTX u9 cs 30) ++ wSH q16) ++ wLN cs q27 q5 q16 u39) ++ wPG cs q46 q5 q16 q27 u62) := hD
  have hP : va_P D vwCl (wPL cs b (u9, q16, q27, u39, q46, u62)) H := by unfold wPL; dsimp only; rw [hpo9]; exact hP
  have hD : va_D A (wPL cs b (u9, q16, q27, u39, q46, u62)) := by unfold wPL; dsimp only; rw [hpo9]; exact hD
  exact W.vret hx hb hr (fun t ht hW => ⟨⟨(u9, q16, q27, u39, q46, u62), rfl, trivial, by rw [ht]; exact hP, by rw [hAe]; exact hD⟩, hS.F ht⟩) hS.2.2 d_PL_init_73
