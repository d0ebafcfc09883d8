theorem cla_bd (σ : zM) (p : Int) : 0 ≤ claP σ p ∧ claP σ p ≤ 4 := by
  unfold claP
  split
  · omega
  · split
    · omega
    · split
      · omega
      · split
        · omega
        · omega
theorem cau_eq {σ τ : zM} (R : Rel1 σ τ) {p : Int} (hp : 0 ≤ p ∧ p < 4) : cauM τ (claP σ p) p = cauP σ (claP σ p) p := by
  have hb := bc_eq (bitP_bd2 (Rel1_W1 R) p)
  have h1 := fw_eq R hp
  unfold cauM cauP
  rw [bit_eq R hp, hb.1]
  by_cases q1 : allP σ p = 0
  · have e : claP σ p = 1 := by unfold claP; rw [if_pos q1]
    rw [e, if_pos rfl, if_pos rfl]
  · have h2 := en_eq R hp q1
    by_cases q2 : 0 ≤ fuP σ p
    · have e : claP σ p = 2 := by unfold claP; rw [if_neg q1, if_pos q2]
      rw [e, if_neg (by omega), if_pos rfl, if_neg (by omega), if_pos rfl]
      omega
    · by_cases q3 : wor σ p p * σ 1 0 < allP σ p * σ 1 7
      · have e : claP σ p = 3 := by unfold claP; rw [if_neg q1, if_neg q2, if_pos q3]
        rw [e, if_neg (by omega), if_neg (by omega), if_pos rfl, if_neg (by omega), if_neg (by omega), if_pos rfl]
      · by_cases q4 : 0 ≤ feP σ p
        · have e : claP σ p = 4 := by unfold claP; rw [if_neg q1, if_neg q2, if_neg q3, if_pos q4]
          rw [e, if_neg (by omega), if_neg (by omega), if_neg (by omega), if_pos rfl, if_neg (by omega), if_neg (by omega), if_neg (by omega), if_pos rfl]
          omega
        · have e : claP σ p = 0 := by unfold claP; rw [if_neg q1, if_neg q2, if_neg q3, if_neg q4]
          rw [e, if_neg (by omega), if_neg (by omega), if_neg (by omega), if_neg (by omega), if_neg (by omega), if_neg (by omega), if_neg (by omega), if_neg (by omega)]
