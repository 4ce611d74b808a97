/-! What the start gives. My own. -/
theorem st_strs {b : Nat} {s : State} {cid : ClassId} (hc : s.vm.findClass "PageLayout" = some cid) (hts : ∀ w ∈ lw_tbl, w.before #[Value.ref b] s = true) : ∀ i ∈ z_strs, z_str i s := List.forall_mem_cons.mpr ⟨z_str.of hc (hts (.stringRef "PageLayout" 57 "too many paragraphs") (List.mem_of_getElem? (i := 476) (by decide +kernel))), List.forall_mem_cons.mpr ⟨z_str.of hc (hts (.stringRef "PageLayout" 68 "no paragraph") (List.mem_of_getElem? (i := 532) (by decide +kernel))), List.forall_mem_cons.mpr ⟨z_str.of hc (hts (.stringRef "PageLayout" 77 "kind, width or height out of range") (List.mem_of_getElem? (i := 551) (by decide +kernel))), List.forall_mem_cons.mpr ⟨z_str.of hc (hts (.stringRef "PageLayout" 80 "too many signs") (List.mem_of_getElem? (i := 558) (by decide +kernel))), List.forall_mem_cons.mpr ⟨z_str.of hc (hts (.stringRef "PageLayout" 86 "no such paragraph") (List.mem_of_getElem? (i := 570) (by decide +kernel))), List.forall_mem_cons.mpr ⟨z_str.of hc (hts (.stringRef "PageLayout" 95 "what or value out of range") (List.mem_of_getElem? (i := 575) (by decide +kernel))), List.forall_mem_cons.mpr ⟨z_str.of hc (hts (.stringRef "PageLayout" 109 "place or kind out of range") (List.mem_of_getElem? (i := 584) (by decide +kernel))), List.forall_mem_cons.mpr ⟨z_str.of hc (hts (.stringRef "PageLayout" 114 "too many stops") (List.mem_of_getElem? (i := 585) (by decide +kernel))), List.forall_mem_cons.mpr ⟨z_str.of hc (hts (.stringRef "PageLayout" 120 "wide, high or step out of range") (List.mem_of_getElem? (i := 597) (by decide +kernel))), List.forall_mem_cons.mpr ⟨z_str.of hc (hts (.stringRef "PageLayout" 141 "no such line") (List.mem_of_getElem? (i := 605) (by decide +kernel))), List.forall_mem_cons.mpr ⟨z_str.of hc (hts (.stringRef "PageLayout" 143 "what out of range") (List.mem_of_getElem? (i := 606) (by decide +kernel))), List.forall_mem_cons.mpr ⟨z_str.of hc (hts (.stringRef "PageLayout" 149 "no such sign, or nothing is laid out") (List.mem_of_getElem? (i := 614) (by decide +kernel))), List.forall_mem_cons.mpr ⟨z_str.of hc (hts (.stringRef "PageLayout" 154 "no such page") (List.mem_of_getElem? (i := 622) (by decide +kernel))), fun _ h => absurd h List.not_mem_nil⟩⟩⟩⟩⟩⟩⟩⟩⟩⟩⟩⟩⟩
theorem st_SHAPE_FROM {b : Nat} {s : State} (hts : ∀ w ∈ lw_tbl, w.before #[Value.ref b] s = true) (hs : ∀ c ∈ flatC (Jvm.Cond.and given_1 narrow_1), c.before #[Value.ref b] s = true) : ∃ tf : Nat, va_Z "PageLayout" "SHAPE_FROM" "[I" (.ref tf) (fun _ => False) s s.heap ∧ va_T .int tf 11 (fun j => .int (iI (z_sf j))) (fun _ => False) s s.heap := by
  have hel : ∀ j : Nat, j < 11 → (Term.elem (.static "PageLayout" "SHAPE_FROM" "[I") (.int (Int32.ofNat j))).eval #[Value.ref b] s none [] s = some (.int (iI (z_sf j))) := by
    intro j hj
    rcases (show j = 0 ∨ j = 1 ∨ j = 2 ∨ j = 3 ∨ j = 4 ∨ j = 5 ∨ j = 6 ∨ j = 7 ∨ j = 8 ∨ j = 9 ∨ j = 10 by omega) with rfl | rfl | rfl | rfl | rfl | rfl | rfl | rfl | rfl | rfl | rfl
    · rw [show iI (z_sf 0) = (0 : Int32) by decide]; exact va_eqt (hs (.eq (.elem (.static "PageLayout" "SHAPE_FROM" "[I") (.int 0)) (.int 0)) (by decide +kernel))
    · rw [show iI (z_sf 1) = (0 : Int32) by decide]; exact va_eqt (hs (.eq (.elem (.static "PageLayout" "SHAPE_FROM" "[I") (.int 1)) (.int 0)) (by decide +kernel))
    · rw [show iI (z_sf 2) = ((-5000) : Int32) by decide]; exact va_eqt (hs (.eq (.elem (.static "PageLayout" "SHAPE_FROM" "[I") (.int 2)) (.int (-5000))) (by decide +kernel))
    · rw [show iI (z_sf 3) = (0 : Int32) by decide]; exact va_eqt (hs (.eq (.elem (.static "PageLayout" "SHAPE_FROM" "[I") (.int 3)) (.int 0)) (by decide +kernel))
    · rw [show iI (z_sf 4) = (0 : Int32) by decide]; exact va_eqt (hs (.eq (.elem (.static "PageLayout" "SHAPE_FROM" "[I") (.int 4)) (.int 0)) (by decide +kernel))
    · rw [show iI (z_sf 5) = (0 : Int32) by decide]; exact va_eqt (hs (.eq (.elem (.static "PageLayout" "SHAPE_FROM" "[I") (.int 5)) (.int 0)) (by decide +kernel))
    · rw [show iI (z_sf 6) = (0 : Int32) by decide]; exact va_eqt (hs (.eq (.elem (.static "PageLayout" "SHAPE_FROM" "[I") (.int 6)) (.int 0)) (by decide +kernel))
    · rw [show iI (z_sf 7) = (0 : Int32) by decide]; exact va_eqt (hs (.eq (.elem (.static "PageLayout" "SHAPE_FROM" "[I") (.int 7)) (.int 0)) (by decide +kernel))
    · rw [show iI (z_sf 8) = (0 : Int32) by decide]; exact va_eqt (hs (.eq (.elem (.static "PageLayout" "SHAPE_FROM" "[I") (.int 8)) (.int 0)) (by decide +kernel))
    · rw [show iI (z_sf 9) = (0 : Int32) by decide]; exact va_eqt (hs (.eq (.elem (.static "PageLayout" "SHAPE_FROM" "[I") (.int 9)) (.int 0)) (by decide +kernel))
    · rw [show iI (z_sf 10) = (1 : Int32) by decide]; exact va_eqt (hs (.eq (.elem (.static "PageLayout" "SHAPE_FROM" "[I") (.int 10)) (.int 1)) (by decide +kernel))
  obtain ⟨tf, h1, h2⟩ := va_Tof (A := fun _ => False) (tm := (.static "PageLayout" "SHAPE_FROM" "[I")) (ty := .int) (N := 11) (f := fun j => .int (iI (z_sf j))) (by decide) (hs (.arrayOf (.static "PageLayout" "SHAPE_FROM" "[I") .int) (by decide +kernel)) (va_eqt (hs (.eq (.length (.static "PageLayout" "SHAPE_FROM" "[I")) (.int 11)) (by decide +kernel))) hel (fun _ _ h => h)
  exact ⟨tf, va_Zref (hts (.laysStatic "PageLayout" "SHAPE_FROM" "[I") (List.mem_of_getElem? (i := 572) (by decide +kernel))) (hts _ (gt_in _ (List.mem_append_right _ (List.mem_append_left _ (List.mem_of_getElem? (i := 2) rfl))))) h1 (fun _ _ h => h), h2⟩
theorem st_SHAPE_TO {b : Nat} {s : State} (hts : ∀ w ∈ lw_tbl, w.before #[Value.ref b] s = true) (hs : ∀ c ∈ flatC (Jvm.Cond.and given_1 narrow_1), c.before #[Value.ref b] s = true) : ∃ tf : Nat, va_Z "PageLayout" "SHAPE_TO" "[I" (.ref tf) (fun _ => False) s s.heap ∧ va_T .int tf 11 (fun j => .int (iI (z_st j))) (fun _ => False) s s.heap := by
  have hel : ∀ j : Nat, j < 11 → (Term.elem (.static "PageLayout" "SHAPE_TO" "[I") (.int (Int32.ofNat j))).eval #[Value.ref b] s none [] s = some (.int (iI (z_st j))) := by
    intro j hj
    rcases (show j = 0 ∨ j = 1 ∨ j = 2 ∨ j = 3 ∨ j = 4 ∨ j = 5 ∨ j = 6 ∨ j = 7 ∨ j = 8 ∨ j = 9 ∨ j = 10 by omega) with rfl | rfl | rfl | rfl | rfl | rfl | rfl | rfl | rfl | rfl | rfl
    · rw [show iI (z_st 0) = (5000 : Int32) by decide]; exact va_eqt (hs (.eq (.elem (.static "PageLayout" "SHAPE_TO" "[I") (.int 0)) (.int 5000)) (by decide +kernel))
    · rw [show iI (z_st 1) = (5000 : Int32) by decide]; exact va_eqt (hs (.eq (.elem (.static "PageLayout" "SHAPE_TO" "[I") (.int 1)) (.int 5000)) (by decide +kernel))
    · rw [show iI (z_st 2) = (5000 : Int32) by decide]; exact va_eqt (hs (.eq (.elem (.static "PageLayout" "SHAPE_TO" "[I") (.int 2)) (.int 5000)) (by decide +kernel))
    · rw [show iI (z_st 3) = (5000 : Int32) by decide]; exact va_eqt (hs (.eq (.elem (.static "PageLayout" "SHAPE_TO" "[I") (.int 3)) (.int 5000)) (by decide +kernel))
    · rw [show iI (z_st 4) = (5000 : Int32) by decide]; exact va_eqt (hs (.eq (.elem (.static "PageLayout" "SHAPE_TO" "[I") (.int 4)) (.int 5000)) (by decide +kernel))
    · rw [show iI (z_st 5) = (3 : Int32) by decide]; exact va_eqt (hs (.eq (.elem (.static "PageLayout" "SHAPE_TO" "[I") (.int 5)) (.int 3)) (by decide +kernel))
    · rw [show iI (z_st 6) = (1 : Int32) by decide]; exact va_eqt (hs (.eq (.elem (.static "PageLayout" "SHAPE_TO" "[I") (.int 6)) (.int 1)) (by decide +kernel))
    · rw [show iI (z_st 7) = (1 : Int32) by decide]; exact va_eqt (hs (.eq (.elem (.static "PageLayout" "SHAPE_TO" "[I") (.int 7)) (.int 1)) (by decide +kernel))
    · rw [show iI (z_st 8) = (1 : Int32) by decide]; exact va_eqt (hs (.eq (.elem (.static "PageLayout" "SHAPE_TO" "[I") (.int 8)) (.int 1)) (by decide +kernel))
    · rw [show iI (z_st 9) = (1 : Int32) by decide]; exact va_eqt (hs (.eq (.elem (.static "PageLayout" "SHAPE_TO" "[I") (.int 9)) (.int 1)) (by decide +kernel))
    · rw [show iI (z_st 10) = (2000 : Int32) by decide]; exact va_eqt (hs (.eq (.elem (.static "PageLayout" "SHAPE_TO" "[I") (.int 10)) (.int 2000)) (by decide +kernel))
  obtain ⟨tf, h1, h2⟩ := va_Tof (A := fun _ => False) (tm := (.static "PageLayout" "SHAPE_TO" "[I")) (ty := .int) (N := 11) (f := fun j => .int (iI (z_st j))) (by decide) (hs (.arrayOf (.static "PageLayout" "SHAPE_TO" "[I") .int) (by decide +kernel)) (va_eqt (hs (.eq (.length (.static "PageLayout" "SHAPE_TO" "[I")) (.int 11)) (by decide +kernel))) hel (fun _ _ h => h)
  exact ⟨tf, va_Zref (hts (.laysStatic "PageLayout" "SHAPE_TO" "[I") (List.mem_of_getElem? (i := 574) (by decide +kernel))) (hts _ (gt_in _ (List.mem_append_right _ (List.mem_append_left _ (List.mem_of_getElem? (i := 2) rfl))))) h1 (fun _ _ h => h), h2⟩
theorem st_T {b : Nat} {s : State} {cid : ClassId} (hc : s.vm.findClass "PageLayout" = some cid) (hts : ∀ w ∈ lw_tbl, w.before #[Value.ref b] s = true) (hs : ∀ c ∈ flatC (Jvm.Cond.and given_1 narrow_1), c.before #[Value.ref b] s = true) : z_T s := by
  obtain ⟨tf, f1, f2⟩ := st_SHAPE_FROM hts hs
  obtain ⟨tt, t1, t2⟩ := st_SHAPE_TO hts hs
  refine ⟨⟨?_, fun w hw => ?_⟩, st_strs hc hts, ⟨va_Nc.of (hs (.not (.castable z_IAE z_NSE)) (by decide +kernel)), va_Nc.of (hs (.not (.castable z_ISE z_NSE)) (by decide +kernel)), va_Nc.of (hs (.not (.castable z_ISE z_IAE)) (by decide +kernel))⟩, tf, tt, f1, f2, t1, t2⟩
  · intro w hw
    simp only [z_4, List.mem_cons, List.not_mem_nil, or_false] at hw
    rcases hw with rfl | rfl | rfl | rfl
    · exact (hts (.laysStatic Bundle.tN "UNASSIGNED_STACK" Bundle.steD) (List.mem_of_getElem? (i := 462) (by decide +kernel)))
    · exact (hts (.laysStatic Bundle.tN "SUPPRESSED_SENTINEL" Bundle.listD) (List.mem_of_getElem? (i := 464) (by decide +kernel)))
    · exact hs (.isRef (.static Bundle.tN "UNASSIGNED_STACK" Bundle.steD)) (by decide +kernel)
    · exact hs (.isRef (.static Bundle.tN "SUPPRESSED_SENTINEL" Bundle.listD)) (by decide +kernel)
  · have h1 := (List.mem_filter.mp hw).2
    simp only [Bool.and_eq_true] at h1
    exact va_tabs h1.2 rfl (hts w (z_F_in w hw))
theorem st_K {b : Nat} {s : State} (hts : ∀ w ∈ lw_tbl, w.before #[Value.ref b] s = true) : ∃ (D : va_G) (cs : pg_C), va_K D vwCl (pg_tys cs) s ∧ z_A cs s := by
  have hg : ∀ w ∈ gt, w.before #[Value.ref b] s = true := fun w h => hts w (gt_in w h)
  obtain ⟨c0, i0, hk0⟩ := u_known (C := R_PL) (T := T_PL) (N := 5) (n := 5) hg in_PL (hg _ (List.mem_append_right _ (List.mem_append_left _ (List.mem_of_getElem? (i := 19) rfl))))
  obtain ⟨c1, i1, hk1⟩ := u_known (C := R_TX) (T := T_TX) (N := 6) (n := 6) hg in_TX (hg _ (List.mem_append_right _ (List.mem_append_left _ (List.mem_of_getElem? (i := 27) rfl))))
  obtain ⟨c2, i2, hk2⟩ := u_known (C := R_SH) (T := T_SH) (N := 3) (n := 3) hg in_SH (hg _ (List.mem_append_right _ (List.mem_append_right _ (List.mem_append_left _ (List.mem_of_getElem? (i := 39) rfl)))))
  obtain ⟨c3, i3, hk3⟩ := u_known (C := R_LN) (T := T_LN) (N := 6) (n := 6) hg in_LN (hg _ (List.mem_append_right _ (List.mem_append_right _ (List.mem_append_right _ (List.mem_append_left _ (List.mem_of_getElem? (i := 17) rfl))))))
  obtain ⟨c4, i4, hk4⟩ := u_known (C := R_RU) (T := T_RU) (N := 7) (n := 7) hg in_RU (hg _ (List.mem_append_right _ (List.mem_append_right _ (List.mem_append_right _ (List.mem_append_left _ (List.mem_of_getElem? (i := 24) rfl))))))
  obtain ⟨c5, i5, hk5⟩ := u_known (C := R_PG) (T := T_PG) (N := 5) (n := 5) hg in_PG (hg _ (List.mem_append_right _ (List.mem_append_right _ (List.mem_append_right _ (List.mem_append_right _ (List.mem_append_left _ (List.mem_of_getElem? (i := 21) rfl)))))))
  obtain ⟨c6, i6, hk6⟩ := u_known (C := R_PA) (T := T_PA) (N := 6) (n := 6) hg in_PA (hg _ (List.mem_append_right _ (List.mem_append_left _ (List.mem_of_getElem? (i := 33) rfl))))
  obtain ⟨c7, i7, hk7⟩ := u_known (C := R_MO) (T := T_MO) (N := 32) (n := 32) hg in_MO (hg _ (List.mem_append_right _ (List.mem_append_right _ (List.mem_append_right _ (List.mem_append_right _ (List.mem_append_right _ (List.mem_append_right _ (List.mem_append_right _ (List.mem_append_right _ (List.mem_append_right _ (List.mem_append_right _ (List.mem_append_right _ (List.mem_append_right _ (List.mem_append_left _ (List.mem_of_getElem? (i := 38) rfl)))))))))))))))
  have hKc : ∀ (k : Nat) (q : vw_C), vwCl[k]? = some q → u_Kn s q.1 q.2.1 q.2.2 ((fun k => match k with | 0 => c0 | 1 => c1 | 2 => c2 | 3 => c3 | 4 => c4 | 5 => c5 | 6 => c6 | _ => c7 : Nat → ClassId) k) ((fun k => match k with | 0 => i0 | 1 => i1 | 2 => i2 | 3 => i3 | 4 => i4 | 5 => i5 | 6 => i6 | _ => i7 : Nat → Nat → Nat) k) := by
    intro k q hq
    match k, hq with
    | 0, hq => cases hq; exact hk0
    | 1, hq => cases hq; exact hk1
    | 2, hq => cases hq; exact hk2
    | 3, hq => cases hq; exact hk3
    | 4, hq => cases hq; exact hk4
    | 5, hq => cases hq; exact hk5
    | 6, hq => cases hq; exact hk6
    | 7, hq => cases hq; exact hk7
    | k + 8, hq => simp [vwCl] at hq
  obtain ⟨cI, kI, e0, a1, a2, a3⟩ := Cond.arrayClass_spec (hts (.arrayClass .int) (List.mem_of_getElem? (i := 105) (by decide +kernel)))
  obtain ⟨comp, cA, kA, b1, -, b3, b4, b5⟩ := arrayOverA_spec (hts (.arrayOver (.array .int)) (List.mem_of_getElem? (i := 165) (by decide +kernel)))
  have hov := (hts (.arrayOver (.object "PageLayout$Paragraph")) (List.mem_of_getElem? (i := 73) (by decide +kernel)))
  obtain ⟨cP, cQ, kQ, d1, -, d3, d4, d5⟩ := Cond.arrayOver_spec hov
  have a1 : s.vm.findClass "[I" = some cI := a1
  have b1 : s.vm.findClass "[I" = some comp := b1
  cases a1.symm.trans b1
  refine ⟨(_, _), (cI, cA, cQ), ⟨hKc, fun k q hq => ?_⟩, ⟨va_AO.of hov, b5, kA, kI, e0, b3, b4, a2, a3⟩, va_Nw.of rfl (hts (.methodLinkNest "PageLayout$Text" 27 ⟨"PageLayout$Paragraph", "<init>", "()V"⟩ "PageLayout") (List.mem_of_getElem? (i := 75) (by decide +kernel))), va_Nw.of rfl (hts (.methodLinkNest "PageLayout" 18 ⟨"PageLayout$Sheet", "<init>", "()V"⟩ "PageLayout") (List.mem_of_getElem? (i := 137) (by decide +kernel)))⟩
  match k, hq with
  | 0, hq => cases hq; exact ⟨fun n z => ⟨fun k h => (by cases h), kI, a2, e0, a3⟩, a1⟩
  | 1, hq => cases hq; exact ⟨fun n z => ⟨fun k h => (by cases h), kA, b3, cI, b4⟩, b5⟩
  | 2, hq => cases hq; exact ⟨fun n z => ⟨fun k h => (by cases h), kQ, d3, cP, d4⟩, kQ, cP, d3, d4, d1, d5⟩
  | k + 3, hq => simp [pg_tys] at hq
