theorem all_eq {σ τ : zM} (R : Rel1 σ τ) {p : Int} (hp : 0 ≤ p ∧ p < 4) : allM τ p = allP σ p := by
  have hm := R.m
  unfold allM allP
  rw [hm.2.2]
  exact sumI_congr _ _ (fun t h1 h2 => R.pt p t hp.1 hp.2 h1 (by omega))
theorem wor_eq {σ τ : zM} (R : Rel1 σ τ) {b w : Int} (hb : 0 ≤ b ∧ b < 4) (hw : 0 ≤ w ∧ w < 4) : worM τ b w = wor σ b w := by
  have hm := R.m
  have hc := R.cut
  unfold worM wor
  rw [hm.2.2, low_eq R]
  refine sumI_congr _ _ (fun t h1 h2 => ?_)
  rw [R.pt b t hb.1 hb.2 h1 (by omega), prt_hup R hw (t := t) (by omega)]
  by_cases q : σ 1 4 = t
  · rw [if_pos q, (R.cuY t h1 (by omega) q).2.2, Int.ediv_self (by omega), Int.mul_one]
  · rw [if_neg q, (R.cuN t h1 (by omega) q).2.2, Int.ediv_one, Int.mul_assoc, Int.mul_comm (σ 1 7)]
theorem Rel1_V2 {σ τ : zM} (R : Rel1 σ τ) : V2 τ := by
  have hc := R.cut
  refine ⟨Rel1_V1 R, ?_, fun b w h1 h2 h3 h4 => ?_⟩
  · rw [low_eq R]; omega
  · rw [wor_eq R ⟨h1, h2⟩ ⟨h3, h4⟩]
    exact wor_bd (Rel1_W1 R) ⟨h1, h2⟩
