/-- what the constructors leave -/
def e_M0 : Nat → Nat → Int := fun k j => if k = 2 then (if j = 0 then 10000 else if j = 1 then 15000 else if j = 2 then 700 else 0) else 0
def e_N0 : Nat → Nat → Int := fun k j => if k = 0 then (if j = 1 then 10000 else if j = 2 then 15000 else if j = 3 then 700 else 0) else 0
theorem inv_init : INV e_M0 e_N0 0 0 := by
  have m : ∀ k j, k ≠ 2 → e_M0 k j = 0 := fun k j h => if_neg h
  have n : ∀ k j, k ≠ 0 → e_N0 k j = 0 := fun k j h => if_neg h
  refine ⟨⟨⟨?_, ?_, ?_⟩, ⟨rfl, rfl, rfl⟩, fun i hi => ⟨fun j hj => ?_, ?_, fun j hj => ⟨?_, ?_⟩⟩, ⟨rfl, rfl, by omega⟩, ⟨rfl, by omega, fun h => by omega, fun _ => rfl⟩, fun i hi => by omega, fun h => by omega⟩, ⟨fun i hi => ?_, ?_, fun j => ?_, fun j => ?_⟩, ⟨?_, fun j => ?_, fun r h1 h2 j => ?_, ⟨by decide, by decide⟩, ⟨by decide, by decide⟩⟩, Or.inl ⟨rfl, rfl, rfl, rfl⟩⟩
  · funext j; rw [m 7 j (by omega), n 6 j (by omega)]
  · funext j; rw [m 8 j (by omega), n 7 j (by omega)]
  · funext j; rw [m 9 j (by omega), n 8 j (by omega)]
  · rw [m _ _ (by omega), n _ _ (by omega)]
  · rw [m _ _ (by omega), n _ _ (by omega)]
  · rw [m _ _ (by omega), n _ _ (by omega)]
  · rw [m _ _ (by omega), n _ _ (by omega)]
  · have h29 : ∀ j, e_M0 (29 + 4 * i) j = 0 := fun j => m _ _ (by omega)
    have h30 : ∀ j, e_M0 (30 + 4 * i) j = 0 := fun j => m _ _ (by omega)
    have h31 : ∀ j, e_M0 (31 + 4 * i) j = 0 := fun j => m _ _ (by omega)
    have h32 : ∀ j, e_M0 (32 + 4 * i) j = 0 := fun j => m _ _ (by omega)
    unfold wfX wfP pn
    simp only [h29, h30, h31, h32]
    exact ⟨⟨hi, by decide, rfl, fun _ => by omega, fun _ => by omega⟩, by omega, by omega, by omega, by omega, by omega, by omega, by omega, by omega, by omega, by omega, by omega, by omega⟩
  · exact ⟨fun j => by rw [m 7 j (by omega)]; omega, fun j => by rw [m 8 j (by omega)]; omega, fun j => by rw [m 9 j (by omega)]; omega, by decide, by decide, by decide⟩
  · rw [m 13 j (by omega), m 14 j (by omega), m 15 j (by omega), m 18 j (by omega)]; omega
  · rw [m 20 j (by omega), m 24 j (by omega), m 25 j (by omega)]; omega
  · refine ⟨rfl, by omega, ⟨fun j => by rw [n 6 j (by omega)]; omega, fun j => by rw [n 7 j (by omega)]; omega, fun j => by rw [n 8 j (by omega)]; omega, by decide, by decide, by decide⟩, fun q hq => ?_, fun j => by rw [n 2 j (by omega)]; omega, fun q hq => by omega⟩
    have h2 : ∀ j, e_N0 2 j = 0 := fun j => n _ _ (by omega)
    have h3 : ∀ j, e_N0 3 j = 0 := fun j => n _ _ (by omega)
    have h4 : ∀ j, e_N0 4 j = 0 := fun j => n _ _ (by omega)
    have h5 : ∀ j, e_N0 5 j = 0 := fun j => n _ _ (by omega)
    unfold rS rP rn
    simp only [h2, h3, h4, h5]
    exact ⟨⟨by omega, by omega, by omega⟩, ⟨hq, by decide, rfl, fun _ => by omega, fun _ => by omega⟩, by omega, by omega⟩
  · rw [n 11 j (by omega), n 12 j (by omega), n 13 j (by omega), n 16 j (by omega)]; omega
  · rw [n r j (by omega)]; omega
