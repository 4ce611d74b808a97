/-! The wrappers, each as one contract that the reference's code tells. My own. -/
set_option maxHeartbeats 1000000 in
theorem j_paragraph (l : Launch) (hfl : l.flags = flags0) {D : va_G} {ad : Nat → Nat} {cs : pg_C} {rp : Option Nat} {M : Nat → Nat → Int} {cJ : ClassId} {ao : Nat} {f : Nat → Int64} (sz : Nat) {N : Nat → Nat → Int} {np ns : Nat} (hi : INV M N np ns)  : Met l y_LW_paragraph (.codeWith y_LW_paragraph b_LW_paragraph 3 (some .int) h_LW_paragraph :: gx) ({ frames := 7, cells := 1, slots := 6, locals := 110 } : Room) (va_Pc [.ref (ad (0)), .ref ao] (lp_B D vwCl (pg_tys cs) (pg_w ad cs rp M) (wo cJ ao f) cJ sz)) (va_Qi (fun (r : Int32) (_ : Unit) => r = iI (r_pac np)) (lp_E D vwCl (pg_w ad cs rp M) (wo cJ ao f) (pg_w ad cs rp (if r_pac np = 0 then q_apar (q_fg M) np else M)) (wo cJ ao (if r_pac np = 0 then (fun _ => (iI (((np : Nat) : Int))).toInt64) else f)) sz) (va_A ((pg_w ad cs rp M) ++ (wo cJ ao f)) sz)) 1 6 (va_A ((pg_w ad cs rp M) ++ (wo cJ ao f)) sz) := by
  have ht := hi.1
  have hc := hi.2.1
  obtain ⟨t1, t2, t3, ⟨t41, t42, t43⟩, ⟨t51, t52, t53, t54⟩, t6, t7⟩ := ht
  by_cases h : np = 30
  · have hcd : r_pac np = 1 := if_pos h
    rw [hcd, if_neg (show ¬ (1 : Int) = 0 by decide), if_neg (show ¬ (1 : Int) = 0 by decide)]
    exact w_paragraph_I l hfl sz np t41 (by omega) (by omega)
  · have hcd : r_pac np = 0 := if_neg h
    rw [hcd, if_pos (show (0 : Int) = 0 from rfl), if_pos (show (0 : Int) = 0 from rfl)]
    exact w_paragraph_0 l hfl sz np t41 (by omega)
set_option maxHeartbeats 1000000 in
theorem j_sign (l : Launch) (hfl : l.flags = flags0) {D : va_G} {ad : Nat → Nat} {cs : pg_C} {rp : Option Nat} {M : Nat → Nat → Int} {cJ : ClassId} {ao : Nat} {f : Nat → Int64} (sz : Nat) {N : Nat → Nat → Int} {np ns : Nat} (hi : INV M N np ns) (k wd h : Int) (hk : zb k) (hw : zb wd) (hh : zb h) : Met l y_LW_sign (.codeWith y_LW_sign b_LW_sign 6 (some .int) h_LW_sign :: gx) ({ frames := 7, cells := 1, slots := 6, locals := 110 } : Room) (va_Pc [.ref (ad (0)), .int (iI (k)), .int (iI (wd)), .int (iI (h)), .ref ao] (lp_B D vwCl (pg_tys cs) (pg_w ad cs rp M) (wo cJ ao f) cJ sz)) (va_Qi (fun (r : Int32) (_ : Unit) => r = iI (r_sgc N np k wd h)) (lp_E D vwCl (pg_w ad cs rp M) (wo cJ ao f) (pg_w ad cs rp (if r_sgc N np k wd h = 0 then q_asgn (q_fg M) np ns k wd h else M)) (wo cJ ao (if r_sgc N np k wd h = 0 then (fun _ => (iI (((ns : Nat) : Int))).toInt64) else f)) sz) (va_A ((pg_w ad cs rp M) ++ (wo cJ ao f)) sz)) 1 6 (va_A ((pg_w ad cs rp M) ++ (wo cJ ao f)) sz) := by
  have ht := hi.1
  have hc := hi.2.1
  obtain ⟨t1, t2, t3, ⟨t41, t42, t43⟩, ⟨t51, t52, t53, t54⟩, t6, t7⟩ := ht
  have hcd := ans_sign hi k wd h
  by_cases h0 : np = 0
  · rw [if_pos h0] at hcd
    rw [hcd, if_neg (show ¬ (1 : Int) = 0 by decide), if_neg (show ¬ (1 : Int) = 0 by decide)]
    exact w_sign_N l hfl sz np ns k wd h hk hw hh t41 t43 t51 t52 h0
  · rw [if_neg h0] at hcd
    by_cases h1 : inn k 0 6 ∧ inn wd 0 4000 ∧ inn h 0 2000
    · rw [if_pos h1] at hcd
      by_cases h2 : ns = 600
      · rw [if_pos h2] at hcd
        rw [hcd, if_neg (show ¬ (3 : Int) = 0 by decide), if_neg (show ¬ (3 : Int) = 0 by decide)]
        exact w_sign_I l hfl sz np ns k wd h hk hw hh t41 t43 t51 t52 (by omega) h1 h2
      · rw [if_neg h2] at hcd
        rw [hcd, if_pos (show (0 : Int) = 0 from rfl), if_pos (show (0 : Int) = 0 from rfl)]
        exact w_sign_0 l hfl sz np ns k wd h hk hw hh t41 t43 t51 (by omega) (by omega) h1
    · rw [if_neg h1] at hcd
      rw [hcd, if_neg (show ¬ (2 : Int) = 0 by decide), if_neg (show ¬ (2 : Int) = 0 by decide)]
      exact w_sign_A l hfl sz np ns k wd h hk hw hh t41 t43 t51 t52 (by omega) h1
set_option maxHeartbeats 1000000 in
theorem j_shape (l : Launch) (hfl : l.flags = flags0) {D : va_G} {ad : Nat → Nat} {cs : pg_C} {rp : Option Nat} {M : Nat → Nat → Int} {cJ : ClassId} {ao : Nat} {f : Nat → Int64} (sz : Nat) {N : Nat → Nat → Int} {np ns : Nat} (hi : INV M N np ns) (x wh v : Int) (hx0 : zb x) (hw : zb wh) (hv : zb v) : Met l y_LW_shape (.codeWith y_LW_shape b_LW_shape 5 (some .int) h_LW_shape :: gx) ({ frames := 7, cells := 1, slots := 6, locals := 110 } : Room) (va_Pc [.ref (ad (0)), .int (iI (x)), .int (iI (wh)), .int (iI (v))] (lp_B D vwCl (pg_tys cs) (pg_w ad cs rp M) (wo cJ ao f) cJ sz)) (va_Qi (fun (r : Int32) (_ : Unit) => r = iI (r_spc np x wh v)) (lp_E D vwCl (pg_w ad cs rp M) (wo cJ ao f) (pg_w ad cs rp (if r_spc np x wh v = 0 then mset (q_fg M) (30 + 4 * x.toNat) wh.toNat v else M)) (wo cJ ao f) sz) (va_A ((pg_w ad cs rp M) ++ (wo cJ ao f)) sz)) 1 6 (va_A ((pg_w ad cs rp M) ++ (wo cJ ao f)) sz) := by
  have ht := hi.1
  have hc := hi.2.1
  obtain ⟨t1, t2, t3, ⟨t41, t42, t43⟩, ⟨t51, t52, t53, t54⟩, t6, t7⟩ := ht
  by_cases h0 : inn x 0 (((np : Nat) : Int) - 1)
  · by_cases h1 : inn wh 0 10 ∧ inn v (r_least wh) (r_most wh)
    · have hcd : r_spc np x wh v = 0 := by unfold r_spc; rw [if_pos h0, if_pos h1]
      rw [hcd, if_pos (show (0 : Int) = 0 from rfl)]
      exact w_shape_0 l hfl sz np x wh v hx0 hw hv t41 t43 h0 h1
    · have hcd : r_spc np x wh v = 2 := by unfold r_spc; rw [if_pos h0, if_neg h1]
      rw [hcd, if_neg (show ¬ (2 : Int) = 0 by decide)]
      exact w_shape_A l hfl sz np x wh v hx0 hw hv t41 t43 h0 h1
  · have hcd : r_spc np x wh v = 1 := by unfold r_spc; rw [if_neg h0]
    rw [hcd, if_neg (show ¬ (1 : Int) = 0 by decide)]
    exact w_shape_N l hfl sz np x wh v hx0 hw hv t41 t43 h0
set_option maxHeartbeats 1000000 in
theorem j_stop (l : Launch) (hfl : l.flags = flags0) {D : va_G} {ad : Nat → Nat} {cs : pg_C} {rp : Option Nat} {M : Nat → Nat → Int} {cJ : ClassId} {ao : Nat} {f : Nat → Int64} (sz : Nat) {N : Nat → Nat → Int} {np ns : Nat} (hi : INV M N np ns) (x at_ k : Int) (hx0 : zb x) (hw : zb at_) (hv : zb k) : Met l y_LW_stop (.codeWith y_LW_stop b_LW_stop 6 (some .int) h_LW_stop :: gx) ({ frames := 7, cells := 1, slots := 6, locals := 110 } : Room) (va_Pc [.ref (ad (0)), .int (iI (x)), .int (iI (at_)), .int (iI (k)), .ref ao] (lp_B D vwCl (pg_tys cs) (pg_w ad cs rp M) (wo cJ ao f) cJ sz)) (va_Qi (fun (r : Int32) (_ : Unit) => r = iI (r_stc N np x at_ k)) (lp_E D vwCl (pg_w ad cs rp M) (wo cJ ao f) (pg_w ad cs rp (if r_stc N np x at_ k = 0 then q_stp (q_fg M) x.toNat (N 3 x.toNat).toNat at_ k else M)) (wo cJ ao (if r_stc N np x at_ k = 0 then (fun _ => (iI (N 3 x.toNat + 1)).toInt64) else f)) sz) (va_A ((pg_w ad cs rp M) ++ (wo cJ ao f)) sz)) 1 6 (va_A ((pg_w ad cs rp M) ++ (wo cJ ao f)) sz) := by
  have ht := hi.1
  have hc := hi.2.1
  obtain ⟨t1, t2, t3, ⟨t41, t42, t43⟩, ⟨t51, t52, t53, t54⟩, t6, t7⟩ := ht
  obtain ⟨a1, a2⟩ := ans_stop hi x at_ k
  by_cases h0 : inn x 0 (((np : Nat) : Int) - 1)
  · obtain ⟨n, hwf, hn3, hcd⟩ := a2 x.toNat (by unfold inn at h0; omega) (by unfold inn at h0; omega)
    have hxq : x = ((x.toNat : Nat) : Int) := by unfold inn at h0; omega
    have hqn : x.toNat < np := by unfold inn at h0; omega
    by_cases h1 : inn at_ (p_last n (M (31 + 4 * x.toNat)) + 1) 30000 ∧ inn k 0 2
    · rw [if_pos h1] at hcd
      by_cases h2 : n = 8
      · rw [if_pos h2] at hcd
        rw [hcd, if_neg (show ¬ (3 : Int) = 0 by decide), if_neg (show ¬ (3 : Int) = 0 by decide)]
        exact w_stop_I l hfl sz np x at_ k hx0 hw hv t41 t43 x.toNat n hxq hqn hwf h1 h2
      · rw [if_neg h2] at hcd
        rw [hcd, if_pos (show (0 : Int) = 0 from rfl), if_pos (show (0 : Int) = 0 from rfl)]
        rw [hn3, show (((n : Nat) : Int)).toNat = n by omega]
        exact w_stop_0 l hfl sz np x at_ k hx0 hw hv t41 t43 x.toNat n hxq hqn hwf h1 (by have := hwf.2.1; omega)
    · rw [if_neg h1] at hcd
      rw [hcd, if_neg (show ¬ (2 : Int) = 0 by decide), if_neg (show ¬ (2 : Int) = 0 by decide)]
      exact w_stop_A l hfl sz np x at_ k hx0 hw hv t41 t43 x.toNat n hxq hqn hwf h1
  · have hcd := a1 h0
    rw [hcd, if_neg (show ¬ (1 : Int) = 0 by decide), if_neg (show ¬ (1 : Int) = 0 by decide)]
    exact w_stop_N l hfl sz np x at_ k hx0 hw hv t41 t43 h0
set_option maxHeartbeats 1000000 in
theorem j_sheet (l : Launch) (hfl : l.flags = flags0) {D : va_G} {ad : Nat → Nat} {cs : pg_C} {rp : Option Nat} {M : Nat → Nat → Int} {cJ : ClassId} {ao : Nat} {f : Nat → Int64} (sz : Nat) {N : Nat → Nat → Int} {np ns : Nat} (hi : INV M N np ns) (wd h sp : Int) (hx0 : zb wd) (hw : zb h) (hv : zb sp) : Met l y_LW_sheet (.codeWith y_LW_sheet b_LW_sheet 5 (some .int) h_LW_sheet :: gx) ({ frames := 7, cells := 1, slots := 6, locals := 110 } : Room) (va_Pc [.ref (ad (0)), .int (iI (wd)), .int (iI (h)), .int (iI (sp))] (lp_B D vwCl (pg_tys cs) (pg_w ad cs rp M) (wo cJ ao f) cJ sz)) (va_Qi (fun (r : Int32) (_ : Unit) => r = iI (r_shc wd h sp)) (lp_E D vwCl (pg_w ad cs rp M) (wo cJ ao f) (pg_w ad cs rp (if r_shc wd h sp = 0 then mset (mset (mset (q_fg M) 2 0 wd) 2 1 h) 2 2 sp else M)) (wo cJ ao f) sz) (va_A ((pg_w ad cs rp M) ++ (wo cJ ao f)) sz)) 1 6 (va_A ((pg_w ad cs rp M) ++ (wo cJ ao f)) sz) := by
  by_cases h1 : inn wd 1 30000 ∧ inn h 1 30000 ∧ inn sp 1 30000
  · have hcd : r_shc wd h sp = 0 := if_pos h1
    rw [hcd, if_pos (show (0 : Int) = 0 from rfl)]
    exact w_sheet_0 l hfl sz wd h sp hx0 hw hv h1
  · have hcd : r_shc wd h sp = 1 := if_neg h1
    rw [hcd, if_neg (show ¬ (1 : Int) = 0 by decide)]
    exact w_sheet_A l hfl sz wd h sp hx0 hw hv h1
set_option maxHeartbeats 1000000 in
theorem j_line (l : Launch) (hfl : l.flags = flags0) {D : va_G} {ad : Nat → Nat} {cs : pg_C} {rp : Option Nat} {M : Nat → Nat → Int} {cJ : ClassId} {ao : Nat} {f : Nat → Int64} (sz : Nat) {N : Nat → Nat → Int} {np ns : Nat} (hi : INV M N np ns) (x wh : Int) (hx0 : zb x) (hw : zb wh) : Met l y_LW_line (.codeWith y_LW_line b_LW_line 5 (some .int) h_LW_line :: gx) ({ frames := 7, cells := 1, slots := 6, locals := 110 } : Room) (va_Pc [.ref (ad (0)), .int (iI (x)), .int (iI (wh)), .ref ao] (lp_B D vwCl (pg_tys cs) (pg_w ad cs rp M) (wo cJ ao f) cJ sz)) (va_Qi (fun (r : Int32) (_ : Unit) => r = iI (r_lic N x wh)) (lp_E D vwCl (pg_w ad cs rp M) (wo cJ ao f) (pg_w ad cs rp M) (wo cJ ao (if r_lic N x wh = 0 then (fun _ => (iI (N (11 + wh.toNat) x.toNat)).toInt64) else f)) sz) (va_A ((pg_w ad cs rp M) ++ (wo cJ ao f)) sz)) 1 6 (va_A ((pg_w ad cs rp M) ++ (wo cJ ao f)) sz) := by
  obtain ⟨nl, g, b1, b2, b3, b4, b5⟩ := inv_nl hi
  obtain ⟨hcd, han⟩ := ans_line hi x wh
  rw [b1] at hcd han
  by_cases h0 : inn x 0 (((nl : Nat) : Int) - 1)
  · rw [if_pos h0] at hcd
    by_cases h1 : inn wh 0 9
    · rw [if_pos h1] at hcd
      rw [hcd, if_pos (show (0 : Int) = 0 from rfl)]
      rw [← han h0 h1]
      exact w_line_0 l hfl sz x wh hx0 hw nl b1 b2 h0 h1
    · rw [if_neg h1] at hcd
      rw [hcd, if_neg (show ¬ (2 : Int) = 0 by decide)]
      exact w_line_A l hfl sz x wh hx0 hw nl b1 b2 h0 h1
  · rw [if_neg h0] at hcd
    rw [hcd, if_neg (show ¬ (1 : Int) = 0 by decide)]
    exact w_line_N l hfl sz x wh hx0 hw nl b1 b2 h0
set_option maxHeartbeats 1000000 in
theorem j_where (l : Launch) (hfl : l.flags = flags0) {D : va_G} {ad : Nat → Nat} {cs : pg_C} {rp : Option Nat} {M : Nat → Nat → Int} {cJ : ClassId} {ao : Nat} {f : Nat → Int64} (sz : Nat) {N : Nat → Nat → Int} {np ns : Nat} (hi : INV M N np ns) (x wh : Int) (hx0 : zb x) (hw : zb wh) : Met l y_LW_where (.codeWith y_LW_where b_LW_where 5 (some .int) h_LW_where :: gx) ({ frames := 7, cells := 1, slots := 6, locals := 110 } : Room) (va_Pc [.ref (ad (0)), .int (iI (x)), .int (iI (wh)), .ref ao] (lp_B D vwCl (pg_tys cs) (pg_w ad cs rp M) (wo cJ ao f) cJ sz)) (va_Qi (fun (r : Int32) (_ : Unit) => r = iI (r_whc N np x wh)) (lp_E D vwCl (pg_w ad cs rp M) (wo cJ ao f) (pg_w ad cs rp M) (wo cJ ao (if r_whc N np x wh = 0 then (fun _ => (iI (N (21 + wh.toNat) x.toNat)).toInt64) else f)) sz) (va_A ((pg_w ad cs rp M) ++ (wo cJ ao f)) sz)) 1 6 (va_A ((pg_w ad cs rp M) ++ (wo cJ ao f)) sz) := by
  obtain ⟨nl, g, b1, b2, b3, b4, b5⟩ := inv_nl hi
  obtain ⟨hcd, han⟩ := ans_where hi x wh
  have t51 := hi.1.2.2.2.2.1.1
  have t52 := hi.1.2.2.2.2.1.2.1
  have hla : M 0 4 = 0 ∨ M 0 4 = 1 := by omega
  by_cases h0 : M 0 4 = 1 ∧ inn x 0 (((ns : Nat) : Int) - 1)
  · rw [if_pos h0] at hcd
    by_cases h1 : inn wh 0 2
    · rw [if_pos h1] at hcd
      rw [hcd, if_pos (show (0 : Int) = 0 from rfl)]
      rw [← han h0 h1]
      exact w_where_0 l hfl sz x wh hx0 hw ns t51 t52 h0 h1
    · rw [if_neg h1] at hcd
      rw [hcd, if_neg (show ¬ (2 : Int) = 0 by decide)]
      exact w_where_A l hfl sz x wh hx0 hw ns t51 t52 hla h0 h1
  · rw [if_neg h0] at hcd
    rw [hcd, if_neg (show ¬ (1 : Int) = 0 by decide)]
    exact w_where_N l hfl sz x wh hx0 hw ns t51 t52 hla h0
set_option maxHeartbeats 1000000 in
theorem j_page (l : Launch) (hfl : l.flags = flags0) {D : va_G} {ad : Nat → Nat} {cs : pg_C} {rp : Option Nat} {M : Nat → Nat → Int} {cJ : ClassId} {ao : Nat} {f : Nat → Int64} (sz : Nat) {N : Nat → Nat → Int} {np ns : Nat} (hi : INV M N np ns) (x wh : Int) (hx0 : zb x) (hw : zb wh) : Met l y_LW_page (.codeWith y_LW_page b_LW_page 5 (some .int) h_LW_page :: gx) ({ frames := 7, cells := 1, slots := 6, locals := 110 } : Room) (va_Pc [.ref (ad (0)), .int (iI (x)), .int (iI (wh)), .ref ao] (lp_B D vwCl (pg_tys cs) (pg_w ad cs rp M) (wo cJ ao f) cJ sz)) (va_Qi (fun (r : Int32) (_ : Unit) => r = iI (r_pgc N x wh)) (lp_E D vwCl (pg_w ad cs rp M) (wo cJ ao f) (pg_w ad cs rp M) (wo cJ ao (if r_pgc N x wh = 0 then (fun _ => (iI (r_pgv N x.toNat wh)).toInt64) else f)) sz) (va_A ((pg_w ad cs rp M) ++ (wo cJ ao f)) sz)) 1 6 (va_A ((pg_w ad cs rp M) ++ (wo cJ ao f)) sz) := by
  obtain ⟨nl, g, b1, b2, b3, b4, b5⟩ := inv_nl hi
  obtain ⟨hcd, han⟩ := ans_page hi x wh
  rw [b3] at hcd han
  by_cases h0 : inn x 0 (((g : Nat) : Int) - 1)
  · rw [if_pos h0] at hcd
    by_cases h1 : inn wh 0 2
    · rw [if_pos h1] at hcd
      rw [hcd, if_pos (show (0 : Int) = 0 from rfl)]
      rw [← han h0 h1]
      exact w_page_0 l hfl sz x wh hx0 hw g b3 b4 h0 h1
    · rw [if_neg h1] at hcd
      rw [hcd, if_neg (show ¬ (2 : Int) = 0 by decide)]
      exact w_page_A l hfl sz x wh hx0 hw g b3 b4 h0 h1
  · rw [if_neg h0] at hcd
    rw [hcd, if_neg (show ¬ (1 : Int) = 0 by decide)]
    exact w_page_N l hfl sz x wh hx0 hw g b3 b4 h0
set_option maxHeartbeats 1000000 in
theorem j_hit (l : Launch) (hfl : l.flags = flags0) {D : va_G} {ad : Nat → Nat} {cs : pg_C} {rp : Option Nat} {M : Nat → Nat → Int} {cJ : ClassId} {ao : Nat} {f : Nat → Int64} (sz : Nat) {N : Nat → Nat → Int} {np ns : Nat} (hi : INV M N np ns) (x xx yy : Int) (hx0 : zb x) (hxx : zb xx) (hyy : zb yy) : Met l y_LW_hit (.codeWith y_LW_hit b_LW_hit 6 (some .int) h_LW_hit :: gx) ({ frames := 7, cells := 1, slots := 6, locals := 110 } : Room) (va_Pc [.ref (ad (0)), .int (iI (x)), .int (iI (xx)), .int (iI (yy)), .ref ao] (lp_B D vwCl (pg_tys cs) (pg_w ad cs rp M) (wo cJ ao f) cJ sz)) (va_Qi (fun (r : Int32) (_ : Unit) => r = iI (r_htc N x)) (lp_E D vwCl (pg_w ad cs rp M) (wo cJ ao f) (pg_w ad cs rp M) (wo cJ ao (if r_htc N x = 0 then (fun _ => (iI (((r_hit N x.toNat xx yy : Nat) : Int))).toInt64) else f)) sz) (va_A ((pg_w ad cs rp M) ++ (wo cJ ao f)) sz)) 1 6 (va_A ((pg_w ad cs rp M) ++ (wo cJ ao f)) sz) := by
  obtain ⟨nl, g, b1, b2, b3, b4, b5⟩ := inv_nl hi
  obtain ⟨hcd, han⟩ := ans_hit hi x
  rw [b3] at hcd han
  have hC := hi.2.1.2.2.2
  by_cases h0 : inn x 0 (((g : Nat) : Int) - 1)
  · rw [if_pos h0] at hcd
    obtain ⟨g0, a, k, e1, e2, e3, e4, e5, e6⟩ := han h0
    rw [hcd, if_pos (show (0 : Int) = 0 from rfl)]
    rw [← e6 xx yy]
    exact w_hit_0 l hfl sz x xx yy hx0 hxx hyy g b3 b4 h0 g0 a k e1 e2 e3 e4 e5 (fun j => ⟨by have := (hC j).1; omega, by have := (hC j).1; omega⟩) hi.2.1.2.2.1 hi.2.1.2.1 (fun j => (hC j).2.1) (fun j => (hC j).2.2)
  · rw [if_neg h0] at hcd
    rw [hcd, if_neg (show ¬ (1 : Int) = 0 by decide)]
    exact w_hit_N l hfl sz x xx yy hx0 g b3 b4 h0
