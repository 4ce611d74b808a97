/-! Lines' alignment and its lines, as functions on the memory. My own. -/
/-- sharing the rest out: nothing without gaps -/
def q_wgM (M : Nat → Nat → Int) (a b : Nat) (rest : Int) : Nat → Nat → Int :=
  if q_gc (M 7) (p_solid (M 7) a b - p_blt (M 7) a b) (p_blt (M 7) a b) 0 < 1 then M
  else q_wg (M 7) (p_solid (M 7) a b) (rest.tdiv ((q_gc (M 7) (p_solid (M 7) a b - p_blt (M 7) a b) (p_blt (M 7) a b) 0 : Nat) : Int)) (b - p_blt (M 7) a b) (p_blt (M 7) a b) (rest - rest.tdiv ((q_gc (M 7) (p_solid (M 7) a b - p_blt (M 7) a b) (p_blt (M 7) a b) 0 : Nat) : Int) * ((q_gc (M 7) (p_solid (M 7) a b - p_blt (M 7) a b) (p_blt (M 7) a b) 0 : Nat) : Int)) 0 M
def q_wgV (M : Nat → Nat → Int) (a b : Nat) (rest : Int) : Int := if q_gc (M 7) (p_solid (M 7) a b - p_blt (M 7) a b) (p_blt (M 7) a b) 0 < 1 then 0 else rest
theorem p_blt_le (kd : Nat → Int) (a : Nat) : ∀ s, p_blt kd a s ≤ s := by
  intro s
  induction s with
  | zero => exact Nat.le_refl 0
  | succ s ih =>
    unfold p_blt
    split
    · omega
    · exact Nat.le_refl _
theorem q_rem {r : Int} {g : Nat} (hr : 0 ≤ r) (hg : 1 ≤ g) : 0 ≤ r - r.tdiv ((g : Nat) : Int) * ((g : Nat) : Int) ∧ r - r.tdiv ((g : Nat) : Int) * ((g : Nat) : Int) < ((g : Nat) : Int) := by
  rw [Int.tdiv_eq_ediv_of_nonneg hr]
  have h2 := Int.emod_def r ((g : Nat) : Int)
  have h3 := Int.emod_nonneg r (show ((g : Nat) : Int) ≠ 0 by omega)
  have h4 := Int.emod_lt_of_pos r (show 0 < ((g : Nat) : Int) by omega)
  have h5 : r / ((g : Nat) : Int) * ((g : Nat) : Int) = ((g : Nat) : Int) * (r / ((g : Nat) : Int)) := Int.mul_comm _ _
  rw [h5]
  omega
theorem q_wgM_eq (M : Nat → Nat → Int) (a b : Nat) (rest : Int) : eqb 23 25 (q_wgM M a b rest) M := by
  unfold q_wgM
  split
  · exact eqb_rf
  · exact q_wg_eq _ _ _ _ _ _ _ _
