theorem up_b {r : Nat → Int} {w j : Nat} {v lo hi : Int} (h : lo ≤ r j ∧ r j ≤ hi) (hv : j = w → lo ≤ v ∧ v ≤ hi) : lo ≤ va_up r w v j ∧ va_up r w v j ≤ hi := by
  by_cases q : j = w
  · subst q; rw [va_up_self]; exact hv rfl
  · rw [va_up_ne _ _ q]; exact h
theorem up_ab {r : Nat → Int} {w : Nat} {v lo hi : Int} (h : ∀ j, lo ≤ r j ∧ r j ≤ hi) (hv : lo ≤ v ∧ v ≤ hi) : ∀ j, lo ≤ va_up r w v j ∧ va_up r w v j ≤ hi := fun j => up_b (h j) (fun _ => hv)
set_option maxHeartbeats 1000000 in
theorem inv_sign {M N : Nat → Nat → Int} {np ns : Nat} {k w h : Int} (hi : INV M N np ns) (h0 : 1 ≤ np) (hk : inn k 0 6 ∧ inn w 0 4000 ∧ inn h 0 2000) (hn : ns < 600) : INV (q_asgn (q_fg M) np ns k w h) (r_sg N np ns k w h) np (ns + 1) := by
  have hi0 := hi
  obtain ⟨ht, ⟨c1, c2, c3, c4⟩, ⟨g1, g2, g3, g4, g5⟩, -⟩ := hi
  obtain ⟨t1, t2, t3, t4, t5, t6, t7⟩ := ht
  obtain ⟨M', hM'⟩ : ∃ K, K = q_asgn (q_fg M) np ns k w h := ⟨_, rfl⟩
  obtain ⟨N', hN'⟩ : ∃ K, K = r_sg N np ns k w h := ⟨_, rfl⟩
  have eo : ∀ j, j ≠ 0 → j ≠ 1 → j ≠ 3 → j ≠ 5 → j ≠ 7 → j ≠ 8 → j ≠ 9 → j ≠ 29 + 4 * (np - 1) → M' j = M j := fun j h0 h1 h3 h5 h7 h8 h9 hq => by
    rw [hM']; unfold q_asgn; rw [mset_ne hq, mset_ne h1, mset_ne h9, mset_ne h8, mset_ne h7, q_fg_ne h0 h3 h5]
  have e7 : M' 7 = va_up (M 7) ns k := by rw [hM']; unfold q_asgn; rw [mset_ne (by omega), mset_ne (by omega), mset_ne (by omega), mset_ne (by omega), mset_at, q_fg_ne (by omega) (by omega) (by omega)]
  have e8 : M' 8 = va_up (M 8) ns w := by rw [hM']; unfold q_asgn; rw [mset_ne (by omega), mset_ne (by omega), mset_ne (by omega), mset_at, mset_ne (by omega), q_fg_ne (by omega) (by omega) (by omega)]
  have e9 : M' 9 = va_up (M 9) ns h := by rw [hM']; unfold q_asgn; rw [mset_ne (by omega), mset_ne (by omega), mset_at, mset_ne (by omega), mset_ne (by omega), q_fg_ne (by omega) (by omega) (by omega)]
  have e1 : M' 1 = va_up (M 1) 5 (((ns : Nat) : Int) + 1) := by rw [hM']; unfold q_asgn; rw [mset_ne (by omega), mset_at, mset_ne (by omega), mset_ne (by omega), mset_ne (by omega), q_fg_ne (by omega) (by omega) (by omega)]
  have eq : M' (29 + 4 * (np - 1)) = va_up (M (29 + 4 * (np - 1))) 5 (((ns : Nat) : Int) + 1) := by rw [hM']; unfold q_asgn; rw [mset_at, mset_ne (by omega), mset_ne (by omega), mset_ne (by omega), mset_ne (by omega), q_fg_ne (by omega) (by omega) (by omega)]
  have e29 : ∀ i x, x ≠ 5 → M' (29 + 4 * i) x = M (29 + 4 * i) x := fun i x hx => by
    by_cases hq : i = np - 1
    · rw [hq, eq, va_up_ne _ _ hx]
    · rw [eo _ (by omega) (by omega) (by omega) (by omega) (by omega) (by omega) (by omega) (by omega)]
  have e295 : ∀ i, M' (29 + 4 * i) 5 = if i = np - 1 then ((ns : Nat) : Int) + 1 else M (29 + 4 * i) 5 := fun i => by
    by_cases hq : i = np - 1
    · rw [if_pos hq, hq, eq, va_up_self]
    · rw [if_neg hq, eo _ (by omega) (by omega) (by omega) (by omega) (by omega) (by omega) (by omega) (by omega)]
  have n6 : N' 6 = va_up (N 6) ns k := by rw [hN']; unfold r_sg; rw [mset_ne (by omega), mset_ne (by omega), mset_ne (by omega), mset_ne (by omega), mset_at, mset_ne (by omega)]
  have n7 : N' 7 = va_up (N 7) ns w := by rw [hN']; unfold r_sg; rw [mset_ne (by omega), mset_ne (by omega), mset_ne (by omega), mset_at, mset_ne (by omega), mset_ne (by omega)]
  have n8 : N' 8 = va_up (N 8) ns h := by rw [hN']; unfold r_sg; rw [mset_ne (by omega), mset_ne (by omega), mset_at, mset_ne (by omega), mset_ne (by omega), mset_ne (by omega)]
  have n1 : N' 1 = va_up (N 1) np (((ns : Nat) : Int) + 1) := by rw [hN']; unfold r_sg; rw [mset_ne (by omega), mset_at, mset_ne (by omega), mset_ne (by omega), mset_ne (by omega), mset_ne (by omega)]
  have no : ∀ j, j ≠ 0 → j ≠ 1 → j ≠ 6 → j ≠ 7 → j ≠ 8 → N' j = N j := fun j h0 h1 h6 h7 h8 => by rw [hN']; unfold r_sg; rw [mset_ne h0, mset_ne h1, mset_ne h8, mset_ne h7, mset_ne h6, mset_ne h0]
  have n0 : ∀ x, x ≠ 0 → x ≠ 15 → N' 0 x = N 0 x := fun x h1 h2 => by rw [hN']; unfold r_sg; rw [mset_out h2, mset_ne (by omega), mset_ne (by omega), mset_ne (by omega), mset_ne (by omega), mset_out h1]
  have n15 : N' 0 15 = 0 := by rw [hN']; unfold r_sg; rw [mset_same]
  have f0 : M' 0 4 = 0 ∧ M' 3 2 = 0 ∧ M' 5 1 = 0 := by
    rw [hM']; unfold q_asgn
    rw [mset_ne (by omega), mset_ne (by omega), mset_ne (by omega), mset_ne (by omega), mset_ne (by omega), mset_ne (by omega), mset_ne (by omega), mset_ne (by omega), mset_ne (by omega), mset_ne (by omega), mset_ne (by omega), mset_ne (by omega), mset_ne (by omega), mset_ne (by omega), mset_ne (by omega)]
    exact q_fg_0 M
  have hns := t5.2.2.1 (by omega)
  rw [← hM', ← hN']
  refine inv_text hi0 ?_ (fun i hi => ?_) ?_ ?_ (fun j a b => eo j (by omega) (by omega) (by omega) (by omega) (by omega) (by omega) (by omega) (by omega)) (fun j a b => no j (by omega) (by omega) (by omega) (by omega) (by omega)) (n0 16 (by omega) (by omega)) (n0 30 (by omega) (by omega)) f0 n15
  · refine ⟨?_, ?_, fun i hi => ?_, ?_, ?_, fun i hi => ?_, fun _ => ?_⟩
    · rw [e7, e8, e9, n6, n7, n8, t1.1, t1.2.1, t1.2.2]; exact ⟨rfl, rfl, rfl⟩
    · rw [eo 2 (by omega) (by omega) (by omega) (by omega) (by omega) (by omega) (by omega) (by omega), n0 1 (by omega) (by omega), n0 2 (by omega) (by omega), n0 3 (by omega) (by omega)]; exact t2
    · rw [eo (30 + 4 * i) (by omega) (by omega) (by omega) (by omega) (by omega) (by omega) (by omega) (by omega), e29 i 3 (by omega), eo (31 + 4 * i) (by omega) (by omega) (by omega) (by omega) (by omega) (by omega) (by omega) (by omega), eo (32 + 4 * i) (by omega) (by omega) (by omega) (by omega) (by omega) (by omega) (by omega) (by omega), no 2 (by omega) (by omega) (by omega) (by omega) (by omega), no 3 (by omega) (by omega) (by omega) (by omega) (by omega), no 4 (by omega) (by omega) (by omega) (by omega) (by omega), no 5 (by omega) (by omega) (by omega) (by omega) (by omega)]; exact t3 i hi
    · rw [e1, va_up_ne _ _ (by omega), n0 4 (by omega) (by omega)]; exact t4
    · rw [e1, va_up_self, n1, va_up_self]
      exact ⟨by omega, by omega, fun _ => by omega, fun h => by omega⟩
    · rw [e29 i 4 (by omega), e295, n1, va_up_ne _ _ (show i ≠ np by omega)]
      refine ⟨(t6 i hi).1, ?_⟩
      by_cases hq : i = np - 1
      · rw [if_pos hq, show i + 1 = np by omega, va_up_self]
      · rw [if_neg hq, va_up_ne _ _ (by omega)]; exact (t6 i hi).2
    · rw [n1, va_up_ne _ _ (by omega)]; exact t7 (by omega)
  · have hx := c1 i hi
    have h5 : M' (29 + 4 * i) 4 ≤ M' (29 + 4 * i) 5 ∧ M' (29 + 4 * i) 5 ≤ 600 := by
      rw [e29 i 4 (by omega), e295]
      have := hx.2.1
      by_cases hq : i = np - 1
      · rw [if_pos hq]
        have g := (t6 i (by omega)).2
        rw [show i + 1 = np by omega, hns] at g
        omega
      · rw [if_neg hq]; omega
    unfold wfX wfP pn at hx ⊢
    rw [eo (30 + 4 * i) (by omega) (by omega) (by omega) (by omega) (by omega) (by omega) (by omega) (by omega), e29 i 3 (by omega), eo (31 + 4 * i) (by omega) (by omega) (by omega) (by omega) (by omega) (by omega) (by omega) (by omega), eo (32 + 4 * i) (by omega) (by omega) (by omega) (by omega) (by omega) (by omega) (by omega) (by omega)]
    refine ⟨hx.1, ?_, hx.2.2⟩
    rw [e29 i 4 (by omega)] at h5 ⊢
    exact ⟨hx.2.1.1, h5⟩
  · unfold wfT at c2 ⊢
    rw [e7, e8, e9, eo 2 (by omega) (by omega) (by omega) (by omega) (by omega) (by omega) (by omega) (by omega)]
    exact ⟨up_ab c2.1 hk.1, up_ab c2.2.1 hk.2.1, up_ab c2.2.2.1 hk.2.2, c2.2.2.2⟩
  · unfold rI rT rS rP rZ rn at g1 ⊢
    rw [n1, no 2 (by omega) (by omega) (by omega) (by omega) (by omega), no 3 (by omega) (by omega) (by omega) (by omega) (by omega), no 4 (by omega) (by omega) (by omega) (by omega) (by omega), no 5 (by omega) (by omega) (by omega) (by omega) (by omega), n6, n7, n8, n0 1 (by omega) (by omega), n0 2 (by omega) (by omega), n0 3 (by omega) (by omega), n0 4 (by omega) (by omega)]
    refine ⟨g1.1, g1.2.1, ⟨up_ab g1.2.2.1.1 hk.1, up_ab g1.2.2.1.2.1 hk.2.1, up_ab g1.2.2.1.2.2.1 hk.2.2, g1.2.2.1.2.2.2⟩, g1.2.2.2.1, g1.2.2.2.2.1, fun q hq => ?_⟩
    have g := g1.2.2.2.2.2 q hq
    rw [va_up_ne _ _ (show q ≠ np by omega)]
    by_cases h1 : q + 1 = np
    · rw [h1] at g ⊢
      rw [va_up_self, hns] at *
      omega
    · rw [va_up_ne _ _ h1]; exact g
theorem r_shl_at (p : Nat) : ∀ f k M x, r_shl p f k M 2 x = if 11 * p + k ≤ x ∧ x < 11 * p + k + f then (if x = 11 * p + 10 then 1 else 0) else M 2 x := by
  intro f
  induction f with
  | zero => intro k M x; rw [if_neg (by omega)]; rfl
  | succ f ih =>
    intro k M x
    show r_shl p f (k + 1) (mset M 2 (11 * p + k) (if k = 10 then 1 else 0)) 2 x = _
    rw [ih]
    by_cases hx : x = 11 * p + k
    · subst hx
      rw [if_neg (by omega), mset_same, if_pos (show 11 * p + k ≤ 11 * p + k ∧ 11 * p + k < 11 * p + k + (f + 1) by omega)]
      by_cases h : k = 10
      · rw [if_pos h, if_pos (by omega)]
      · rw [if_neg h, if_neg (by omega)]
    · rw [mset_out hx]
      by_cases h : 11 * p + (k + 1) ≤ x ∧ x < 11 * p + (k + 1) + f
      · rw [if_pos h, if_pos (show 11 * p + k ≤ x ∧ x < 11 * p + k + (f + 1) by omega)]
      · rw [if_neg h, if_neg (show ¬ (11 * p + k ≤ x ∧ x < 11 * p + k + (f + 1)) by omega)]
set_option maxHeartbeats 1000000 in
theorem inv_par {M N : Nat → Nat → Int} {np ns : Nat} (hi : INV M N np ns) (h30 : np < 30) : INV (q_apar (q_fg M) np) (r_pa N np) (np + 1) ns := by
  have hi0 := hi
  obtain ⟨ht, ⟨c1, c2, c3, c4⟩, ⟨g1, g2, g3, g4, g5⟩, -⟩ := hi
  obtain ⟨t1, t2, t3, t4, t5, t6, t7⟩ := ht
  obtain ⟨M', hM'⟩ : ∃ K, K = q_apar (q_fg M) np := ⟨_, rfl⟩
  obtain ⟨N', hN'⟩ : ∃ K, K = r_pa N np := ⟨_, rfl⟩
  have hf : q_fg M 1 5 = ((ns : Nat) : Int) := by rw [q_fg_ne (by omega) (by omega) (by omega)]; exact t5.1
  have eo : ∀ j, j ≠ 0 → j ≠ 1 → j ≠ 3 → j ≠ 5 → j ≠ 29 + 4 * np → j ≠ 30 + 4 * np → M' j = M j := fun j h0 h1 h3 h5 hq hr => by
    rw [hM']; unfold q_apar q_ren; rw [mset_ne h1, mset_ne hq, mset_ne hq, mset_ne hq, mset_ne hr, va_up_ne _ _ hr, q_fg_ne h0 h3 h5]
  have e14 : M' 1 4 = ((np : Nat) : Int) + 1 := by rw [hM']; unfold q_apar; rw [mset_same]
  have e15 : M' 1 5 = ((ns : Nat) : Int) := by rw [hM']; unfold q_apar q_ren; rw [mset_out (by omega), mset_ne (by omega), mset_ne (by omega), mset_ne (by omega), mset_ne (by omega), va_up_ne _ _ (by omega)]; exact hf
  have s3 : M' (29 + 4 * np) 3 = 0 := by rw [hM']; unfold q_apar q_ren; rw [mset_ne (by omega), mset_out (by omega), mset_out (by omega), mset_same]
  have s4 : M' (29 + 4 * np) 4 = ((ns : Nat) : Int) := by rw [hM']; unfold q_apar q_ren; rw [mset_ne (by omega), mset_out (by omega), mset_same]; exact hf
  have s5 : M' (29 + 4 * np) 5 = ((ns : Nat) : Int) := by rw [hM']; unfold q_apar q_ren; rw [mset_ne (by omega), mset_same]; exact hf
  have sh : ∀ j, j < 11 → M' (30 + 4 * np) j = if j = 10 then 1 else 0 := fun j hj => by
    rw [hM']; unfold q_apar q_ren
    rw [mset_ne (by omega), mset_ne (by omega), mset_ne (by omega), mset_ne (by omega)]
    by_cases h : j = 10
    · subst h; rw [mset_same]; rfl
    · rw [mset_out h, va_up_self, if_neg h]
      exact if_pos hj
  have pe : ∀ x, (r_pab (mset N 0 0 0) np) 1 x = if x = 0 ∧ np = 0 then 0 else N 1 x := fun x => by
    unfold r_pab
    by_cases h : np = 0
    · rw [if_pos h]
      by_cases hx : x = 0
      · subst hx; rw [mset_same, if_pos ⟨rfl, h⟩]
      · rw [mset_out hx, mset_ne (by omega), if_neg (fun q => hx q.1)]
    · rw [if_neg h, mset_ne (by omega), if_neg (fun q => h q.2)]
  have n1 : ∀ x, N' 1 x = if x = np + 1 then ((ns : Nat) : Int) else if x = 0 ∧ np = 0 then 0 else N 1 x := fun x => by
    rw [hN']; unfold r_pa
    rw [mset_ne (by omega), mset_ne (by omega), mset_ne (by omega), r_shl_ne _ (by omega)]
    unfold r_pa1
    by_cases hx : x = np + 1
    · rw [if_pos hx, hx, mset_same, pe]
      by_cases h : np = 0
      · rw [if_pos ⟨h, h⟩, t5.2.2.2 h]; rfl
      · rw [if_neg (fun q => h q.2)]; exact t5.2.2.1 (by omega)
    · rw [if_neg hx, mset_out hx, pe]
  have n2 : ∀ x, N' 2 x = if 11 * np ≤ x ∧ x < 11 * np + 11 then (if x = 11 * np + 10 then 1 else 0) else N 2 x := fun x => by
    rw [hN']; unfold r_pa
    rw [mset_ne (by omega), mset_ne (by omega), mset_ne (by omega), r_shl_at]
    unfold r_pa1
    rw [mset_ne (by omega), r_pab_ne _ _ (by omega), mset_ne (by omega)]
    rfl
  have n3 : N' 3 = va_up (N 3) np 0 := by
    rw [hN']; unfold r_pa
    rw [mset_ne (by omega), mset_ne (by omega), mset_at, r_shl_ne _ (by omega)]
    unfold r_pa1
    rw [mset_ne (by omega), r_pab_ne _ _ (by omega), mset_ne (by omega)]
  have no : ∀ j, j ≠ 0 → j ≠ 1 → j ≠ 2 → j ≠ 3 → N' j = N j := fun j h0 h1 h2 h3 => by
    rw [hN']; unfold r_pa
    rw [mset_ne h0, mset_ne h0, mset_ne h3, r_shl_ne _ h2]
    unfold r_pa1
    rw [mset_ne h1, r_pab_ne _ _ h1, mset_ne h0]
  have n0 : ∀ x, x ≠ 0 → x ≠ 4 → x ≠ 15 → N' 0 x = N 0 x := fun x h1 h2 h3 => by
    rw [hN']; unfold r_pa
    rw [mset_out h3, mset_out h2, mset_ne (by omega), r_shl_ne _ (by omega)]
    unfold r_pa1
    rw [mset_ne (by omega), r_pab_ne _ _ (by omega), mset_out h1]
  have n4 : N' 0 4 = ((np : Nat) : Int) + 1 := by rw [hN']; unfold r_pa; rw [mset_out (by omega), mset_same]
  have n15 : N' 0 15 = 0 := by rw [hN']; unfold r_pa; rw [mset_same]
  have f0 : M' 0 4 = 0 ∧ M' 3 2 = 0 ∧ M' 5 1 = 0 := by
    have e : ∀ j, j = 0 ∨ j = 3 ∨ j = 5 → M' j = q_fg M j := fun j hj => by
      rw [hM']; unfold q_apar q_ren; rw [mset_ne (by omega), mset_ne (by omega), mset_ne (by omega), mset_ne (by omega), mset_ne (by omega), va_up_ne _ _ (by omega)]
    rw [e 0 (by omega), e 3 (by omega), e 5 (by omega)]
    exact q_fg_0 M
  rw [← hM', ← hN']
  refine inv_text hi0 ?_ (fun i hi => ?_) ?_ ?_ (fun j a b => eo j (by omega) (by omega) (by omega) (by omega) (by omega) (by omega)) (fun j a b => no j (by omega) (by omega) (by omega) (by omega)) (n0 16 (by omega) (by omega) (by omega)) (n0 30 (by omega) (by omega) (by omega)) f0 n15
  · refine ⟨?_, ?_, fun i hi => ?_, ?_, ?_, fun i hi => ?_, fun _ => ?_⟩
    · rw [eo 7 (by omega) (by omega) (by omega) (by omega) (by omega) (by omega), eo 8 (by omega) (by omega) (by omega) (by omega) (by omega) (by omega), eo 9 (by omega) (by omega) (by omega) (by omega) (by omega) (by omega), no 6 (by omega) (by omega) (by omega) (by omega), no 7 (by omega) (by omega) (by omega) (by omega), no 8 (by omega) (by omega) (by omega) (by omega)]; exact t1
    · rw [eo 2 (by omega) (by omega) (by omega) (by omega) (by omega) (by omega), n0 1 (by omega) (by omega) (by omega), n0 2 (by omega) (by omega) (by omega), n0 3 (by omega) (by omega) (by omega)]; exact t2
    · obtain ⟨k1, k2, k3⟩ := t3 i hi
      rw [eo (31 + 4 * i) (by omega) (by omega) (by omega) (by omega) (by omega) (by omega), eo (32 + 4 * i) (by omega) (by omega) (by omega) (by omega) (by omega) (by omega), no 4 (by omega) (by omega) (by omega) (by omega), no 5 (by omega) (by omega) (by omega) (by omega), n3]
      by_cases h : i = np
      · subst h
        refine ⟨fun j hj => ?_, by rw [s3, va_up_self], k3⟩
        rw [sh j hj, n2, if_pos (show 11 * i ≤ 11 * i + j ∧ 11 * i + j < 11 * i + 11 by omega)]
        by_cases q : j = 10
        · rw [if_pos q, if_pos (by omega)]
        · rw [if_neg q, if_neg (by omega)]
      · rw [eo (30 + 4 * i) (by omega) (by omega) (by omega) (by omega) (by omega) (by omega), eo (29 + 4 * i) (by omega) (by omega) (by omega) (by omega) (by omega) (by omega), va_up_ne _ _ h]
        refine ⟨fun j hj => ?_, k2, k3⟩
        rw [n2, if_neg (by omega)]
        exact k1 j hj
    · rw [e14, n4]; exact ⟨by omega, by omega, by omega⟩
    · rw [e15, n1, if_pos rfl]; exact ⟨rfl, t5.2.1, fun _ => rfl, fun h => by omega⟩
    · by_cases h : i = np
      · subst h
        rw [s4, s5, n1, n1, if_neg (by omega), if_pos rfl]
        refine ⟨?_, rfl⟩
        by_cases q : i = 0
        · rw [if_pos ⟨q, q⟩, t5.2.2.2 q]; rfl
        · rw [if_neg (fun g => q g.1)]; exact (t5.2.2.1 (by omega)).symm
      · rw [eo (29 + 4 * i) (by omega) (by omega) (by omega) (by omega) (by omega) (by omega), n1, n1, if_neg (by omega), if_neg (by omega), if_neg (by omega), if_neg (by omega)]
        exact t6 i (by omega)
    · rw [n1, if_neg (by omega)]
      by_cases q : np = 0
      · rw [if_pos ⟨rfl, q⟩]
      · rw [if_neg (fun g => q g.2)]; exact t7 (by omega)
  · have hx := c1 i hi
    by_cases h : i = np
    · subst h
      unfold wfX wfP pn at hx ⊢
      rw [eo (31 + 4 * i) (by omega) (by omega) (by omega) (by omega) (by omega) (by omega), eo (32 + 4 * i) (by omega) (by omega) (by omega) (by omega) (by omega) (by omega), s3, s4, s5, sh 0 (by omega), sh 1 (by omega), sh 2 (by omega), sh 3 (by omega), sh 4 (by omega), sh 5 (by omega), sh 6 (by omega), sh 7 (by omega), sh 8 (by omega), sh 9 (by omega), sh 10 (by omega)]
      have := t5.2.1
      refine ⟨⟨hi, by decide, rfl, hx.1.2.2.2.1, hx.1.2.2.2.2⟩, ?_, by decide, by decide, by decide, by decide, by decide, by decide, by decide, by decide, by decide, by decide, by decide⟩
      omega
    · unfold wfX wfP pn at hx ⊢
      rw [eo (29 + 4 * i) (by omega) (by omega) (by omega) (by omega) (by omega) (by omega), eo (30 + 4 * i) (by omega) (by omega) (by omega) (by omega) (by omega) (by omega), eo (31 + 4 * i) (by omega) (by omega) (by omega) (by omega) (by omega) (by omega), eo (32 + 4 * i) (by omega) (by omega) (by omega) (by omega) (by omega) (by omega)]
      exact hx
  · unfold wfT at c2 ⊢
    rw [eo 2 (by omega) (by omega) (by omega) (by omega) (by omega) (by omega), eo 7 (by omega) (by omega) (by omega) (by omega) (by omega) (by omega), eo 8 (by omega) (by omega) (by omega) (by omega) (by omega) (by omega), eo 9 (by omega) (by omega) (by omega) (by omega) (by omega) (by omega)]
    exact c2
  · obtain ⟨i1, i2, i3, i4, i5, i6⟩ := g1
    have hb2 : ∀ x lo hi, lo ≤ 0 → 1 ≤ hi → (lo ≤ N 2 x ∧ N 2 x ≤ hi) → lo ≤ N' 2 x ∧ N' 2 x ≤ hi := fun x lo hi a b c => by
      rw [n2]
      split
      · split <;> omega
      · exact c
    refine ⟨by rw [n4]; omega, by omega, ?_, fun q hq => ?_, fun j => hb2 j _ _ (by omega) (by omega) (i5 j), fun q hq => ?_⟩
    · unfold rT at i3 ⊢
      rw [no 6 (by omega) (by omega) (by omega) (by omega), no 7 (by omega) (by omega) (by omega) (by omega), no 8 (by omega) (by omega) (by omega) (by omega), n0 1 (by omega) (by omega) (by omega), n0 2 (by omega) (by omega) (by omega), n0 3 (by omega) (by omega) (by omega)]
      exact i3
    · obtain ⟨⟨a1, a2, a3⟩, b1, d1, d2⟩ := i4 q hq
      refine ⟨⟨hb2 _ _ _ (by omega) (by omega) a1, hb2 _ _ _ (by omega) (by omega) a2, hb2 _ _ _ (by omega) (by omega) a3⟩, ?_, hb2 _ _ _ (by omega) (by omega) d1, hb2 _ _ _ (by omega) (by omega) d2⟩
      unfold rP rn at b1 ⊢
      rw [n3, no 4 (by omega) (by omega) (by omega) (by omega), no 5 (by omega) (by omega) (by omega) (by omega)]
      by_cases h : q = np
      · subst h
        rw [va_up_self]
        exact ⟨hq, by decide, rfl, b1.2.2.2⟩
      · rw [va_up_ne _ _ h]; exact b1
    · have hns := t5.2.1
      by_cases h : q = np
      · subst h
        rw [n1, n1, if_neg (by omega), if_pos rfl]
        by_cases k : q = 0
        · rw [if_pos ⟨k, k⟩]; omega
        · rw [if_neg (fun g => k g.1), t5.2.2.1 (by omega)]; omega
      · rw [n1, n1, if_neg (by omega), if_neg (by omega), if_neg (by omega), if_neg (by omega)]
        exact i6 q (by omega)
