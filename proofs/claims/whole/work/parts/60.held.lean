theorem zg_self {x : Int} (h : 0 ≤ x) : zg x x = x := by
  unfold zg
  rw [Nat.gcd_self]
  omega
theorem zg_zero {x : Int} (h : 0 ≤ x) : zg 0 x = x := by
  unfold zg
  rw [show (0 : Int).toNat = 0 from rfl, Nat.gcd_zero_left]
  omega
theorem lowT_self {x : Int} (h : 0 < x) (part : Int) : lowT x x part = 1 := by
  unfold lowT
  rw [zg_self (by omega), ite_self, Int.ediv_self (by omega)]
theorem lowT_zero {x : Int} (h : 0 < x) (part : Int) : lowT 0 x part = if part = 0 then 0 else 1 := by
  unfold lowT
  rw [zg_zero (by omega)]
  by_cases q : part = 0
  · rw [if_pos q, if_pos q, Int.zero_ediv]
  · rw [if_neg q, if_neg q, Int.ediv_self (by omega)]
theorem held_eq {σ τ : zM} (R : Rel1 σ τ) {p t : Int} (hp : 0 ≤ p ∧ p < 4) (ht : 0 ≤ t ∧ t < σ 1 1) (part : Int) : lowT (prt σ p t) (σ 1 7) part = lowT (hup τ p t) (τ 61 (23 + t)) part := by
  have hc := R.cut
  rw [prt_hup R hp ht]
  by_cases q : σ 1 4 = t
  · rw [if_pos q, (R.cuY t ht.1 ht.2 q).2.2]
  · have h := R.cuN t ht.1 ht.2 q
    rw [if_neg q, h.2.2]
    have e : hup τ p t = 0 ∨ hup τ p t = 1 := by
      unfold hup
      rw [h.1, h.2.1, h.2.2, if_neg (by omega)]
      by_cases q3 : τ 61 (5 + t) = p
      · rw [if_pos q3]; omega
      · rw [if_neg q3]; omega
    rcases e with e | e
    · rw [e, Int.zero_mul, lowT_zero (by omega), lowT_zero (by omega)]
    · rw [e, Int.one_mul, lowT_self (by omega), lowT_self (by omega)]
