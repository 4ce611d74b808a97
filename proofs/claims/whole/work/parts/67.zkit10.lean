/-! What a writing method that also reads the tables of shape starts from. My own. -/
def rz_B (D : va_G) (cl : List vw_C) (tys : List (ClassId × FieldType)) (w : va_W) (sz : Nat) (U : State) : Prop := rw_B D cl tys w sz U ∧ z_T U
theorem rz_blind {D : va_G} {cl : List vw_C} {tys : List (ClassId × FieldType)} {av : List Value} {w : va_W} {sz : Nat} : FrameBlind (va_Pc av (rz_B D cl tys w sz)) := fun a U g mk q => by
  obtain ⟨q0, ⟨q1, qP, qK, qD⟩, qT⟩ := q
  exact ⟨q0, ⟨q1, qP, va_K.moved (u := U) (U := U.calling g mk a) (Vm.Alike.refl U.vm) qK, qD⟩, qT.kept (U := U.calling g mk a) (State.WarmedH.refl U) (fun _ _ => rfl)⟩
theorem q_fg_ne {M : Nat → Nat → Int} {j : Nat} (h0 : j ≠ 0) (h3 : j ≠ 3) (h5 : j ≠ 5) : q_fg M j = M j := by
  unfold q_fg
  rw [mset_ne h5, mset_ne h3, mset_ne h0]
theorem p_lat_le (dn : Nat → Int) (y : Int) (a : Nat) : ∀ s, p_lat dn y a s ≤ s := by
  intro s
  induction s with
  | zero => exact Nat.le_refl 0
  | succ s ih =>
    unfold p_lat
    split
    · omega
    · exact Nat.le_refl _
