/-! the memory at the law's loop, before any step -/
def mu0 (L : Nat) (xs : Nat → Int32) : zM := fun c j =>
  if c = 72 then (if j = -1 then (L : Int) else (xs j.toNat).toInt)
  else if c = 1 ∨ c = 17 then (if j = 0 then 2 else if j = 4 ∨ j = 5 then -1 else if j = 7 then 1 else 0)
  else if c = 35 then (if j = 0 then -1 else 0)
  else if c = 48 ∨ c = 50 ∨ c = 52 ∨ c = 54 ∨ c = 56 ∨ c = 58 then (if j = 0 then -1 else 0)
  else if c = 61 then (if j = 0 then 2 else 0)
  else if c = 69 then (if 0 ≤ j ∧ j < 6 then -1 else 0)
  else 0
section MU
variable {L : Nat} {xs : Nat → Int32}
theorem mu0_z {c j : Int} (h : c = 0 ∨ (2 ≤ c ∧ c ≤ 16) ∨ (18 ≤ c ∧ c ≤ 34) ∨ (36 ≤ c ∧ c ≤ 47) ∨ c = 49 ∨ c = 51 ∨ c = 53 ∨ c = 55 ∨ c = 57 ∨ c = 59 ∨ c = 60 ∨ (62 ≤ c ∧ c ≤ 68) ∨ c = 70 ∨ c = 71) : mu0 L xs c j = 0 := by
  unfold mu0
  rw [if_neg (by omega), if_neg (by omega), if_neg (by omega), if_neg (by omega), if_neg (by omega), if_neg (by omega)]
theorem mu0_s {c j : Int} (h : c = 1 ∨ c = 17) : mu0 L xs c j = (if j = 0 then 2 else if j = 4 ∨ j = 5 then -1 else if j = 7 then 1 else 0) := by
  unfold mu0
  rw [if_neg (by omega), if_pos h]
theorem mu0_t {c j : Int} (h : c = 48 ∨ c = 50 ∨ c = 52 ∨ c = 54 ∨ c = 56 ∨ c = 58) : mu0 L xs c j = (if j = 0 then -1 else 0) := by
  unfold mu0
  rw [if_neg (by omega), if_neg (by omega), if_neg (by omega), if_pos h]
theorem mu0_m {j : Int} : mu0 L xs 61 j = (if j = 0 then 2 else 0) := by
  unfold mu0
  rw [if_neg (by omega), if_neg (by omega), if_neg (by omega), if_neg (by omega), if_pos rfl]
theorem mu0_k {j : Int} : mu0 L xs 69 j = (if 0 ≤ j ∧ j < 6 then -1 else 0) := by
  unfold mu0
  rw [if_neg (by omega), if_neg (by omega), if_neg (by omega), if_neg (by omega), if_neg (by omega), if_pos rfl]
theorem mu0_x {j : Int} : mu0 L xs 72 j = (if j = -1 then (L : Int) else (xs j.toNat).toInt) := by
  unfold mu0
  rw [if_pos rfl]
theorem mu0_Rel1 : Rel1 (mu0 L xs) (mu0 L xs) := by
  have e0 : mu0 L xs 1 0 = 2 := by rw [mu0_s (by omega)]; rfl
  have e1 : mu0 L xs 1 1 = 0 := by rw [mu0_s (by omega)]; rfl
  have e4 : mu0 L xs 1 4 = -1 := by rw [mu0_s (by omega)]; rfl
  have e5 : mu0 L xs 1 5 = -1 := by rw [mu0_s (by omega)]; rfl
  have e6 : mu0 L xs 1 6 = 0 := by rw [mu0_s (by omega)]; rfl
  have e7 : mu0 L xs 1 7 = 1 := by rw [mu0_s (by omega)]; rfl
  have b0 : mu0 L xs 61 0 = 2 := by rw [mu0_m]; rfl
  have b1 : mu0 L xs 61 1 = 0 := by rw [mu0_m]; rfl
  have b2 : mu0 L xs 61 2 = 0 := by rw [mu0_m]; rfl
  have b3 : mu0 L xs 61 3 = 0 := by rw [mu0_m]; rfl
  have b4 : mu0 L xs 61 4 = 0 := by rw [mu0_m]; rfl
  have s2 : mu0 L xs 8 2 = 0 := mu0_z (by omega)
  have v2 : mu0 L xs 11 2 = 0 := mu0_z (by omega)
  have k2 : mu0 L xs 14 2 = 0 := mu0_z (by omega)
  refine ⟨⟨⟨by omega, by omega, by omega⟩, ⟨by omega, by omega, by omega⟩, fun p t a b c d => ?_, fun p t a b c d => absurd d (by omega), fun t a b => ?_, fun t a b => absurd b (by omega), ⟨⟨by omega, by omega⟩, ⟨by omega, by omega⟩, ⟨by omega, by omega, by omega⟩, fun q => absurd q (by omega), fun _ => ⟨by omega, by omega⟩⟩, fun t a b => absurd b (by omega), fun t a b => absurd b (by omega)⟩,
    ⟨⟨by omega, by omega, by omega⟩, fun k a b => absurd b (by omega)⟩, ⟨⟨by omega, by omega, by omega⟩, fun k a b => absurd b (by omega)⟩, ⟨⟨by omega, by omega, by omega⟩, fun k a b => absurd b (by omega)⟩⟩
  · rw [mu0_z (by omega)]
    exact ⟨by omega, by omega⟩
  · rw [mu0_z (by omega)]
    exact ⟨by omega, by omega⟩
theorem mu0_RelG : RelG (mu0 L xs) (mu0 L xs) := by
  have z45 : mu0 L xs 45 1 = 0 := mu0_z (by omega)
  have z60 : mu0 L xs 60 17 = 0 := mu0_z (by omega)
  refine ⟨⟨mu0_Rel1, Or.inr ⟨mu0_z (by omega), mu0_z (by omega)⟩⟩, fun t a b => ?_, fun t a b => ?_, ⟨⟨by omega, fun j a b => ?_⟩, ⟨by omega, fun j a b => ?_⟩, by omega, fun j a b => absurd b (by omega)⟩, fun t a b => ⟨⟨?_, ?_, ?_⟩, ⟨?_, ?_, ?_⟩, fun q c d => ⟨?_, ?_, ?_⟩⟩⟩
  · rw [mu0_z (by omega)]; exact ⟨by omega, by omega⟩
  · rw [mu0_z (by omega)]; exact ⟨by omega, by omega⟩
  · rw [mu0_z (by omega)]; exact ⟨by omega, by omega⟩
  · rw [mu0_z (by omega)]; exact ⟨by omega, by omega⟩
  · rw [mu0_k, if_pos ⟨a, b⟩, mu0_t (by omega), if_pos rfl]
  · rw [mu0_t (by omega), if_pos rfl]; omega
  · rw [mu0_t (by omega), if_pos rfl]; omega
  · rw [mu0_z (by omega), mu0_t (by omega), if_neg (by omega)]
  · rw [mu0_t (by omega), if_neg (by omega)]; omega
  · rw [mu0_t (by omega), if_neg (by omega)]; omega
  · rw [mu0_z (by omega), mu0_z (by omega)]
  · rw [mu0_z (by omega)]; omega
  · rw [mu0_z (by omega)]; omega
theorem mu0_Scr (hL : L ≤ 3072) : Scr (mu0 L xs) := by
  refine ⟨by rw [mu0_x, if_pos rfl]; omega, by rw [mu0_x, if_pos rfl]; omega, fun j a b => ?_⟩
  rw [mu0_x, if_neg (by omega)]
  have h1 := Int32.le_toInt (xs j.toNat)
  have h2 := Int32.toInt_lt (xs j.toNat)
  exact ⟨by omega, by omega⟩
end MU
