/-! What the laying leaves of the pages. My own. -/
def rF (M : Nat → Nat → Int) : Prop := M 0 15 = 1 → ∀ g : Nat, ((g : Nat) : Int) < M 0 30 → 0 ≤ M 24 g ∧ M 24 g < M 24 (g + 1) ∧ M 24 (g + 1) ≤ M 0 16
