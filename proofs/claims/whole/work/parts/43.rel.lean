/-! a set-up of the class (cells) against one of the reference (row b) -/
def RSa (σ τ : zM) (a q f b : Int) : Prop :=
  (2 ≤ σ a 0 ∧ σ a 0 ≤ 4 ∧ τ b 0 = σ a 0) ∧
  (0 ≤ σ a 1 ∧ σ a 1 ≤ 6 ∧ τ b 1 = σ a 1) ∧
  (∀ p t : Int, 0 ≤ p → p < 4 → 0 ≤ t → t < 6 → 0 ≤ σ (q + p) t ∧ σ (q + p) t ≤ 99) ∧
  (∀ p t : Int, 0 ≤ p → p < 4 → 0 ≤ t → t < σ a 1 → τ b (29 + 6 * p + t) = σ (q + p) t) ∧
  (∀ t : Int, 0 ≤ t → t < 6 → -1 ≤ σ f t ∧ σ f t < 4) ∧
  (∀ t : Int, 0 ≤ t → t < σ a 1 → τ b (5 + t) = σ f t) ∧
  ((-1 ≤ σ a 4 ∧ σ a 4 < σ a 1) ∧ (-1 ≤ σ a 5 ∧ σ a 5 < 4) ∧ (0 ≤ σ a 6 ∧ σ a 6 < σ a 7 ∧ σ a 7 ≤ 200000) ∧ (0 ≤ σ a 4 → 0 ≤ σ a 5) ∧ (σ a 4 < 0 → σ a 6 = 0 ∧ σ a 7 = 1)) ∧
  (∀ t : Int, 0 ≤ t → t < σ a 1 → σ a 4 = t → τ b (11 + t) = σ a 5 ∧ τ b (17 + t) = σ a 6 ∧ τ b (23 + t) = σ a 7) ∧
  (∀ t : Int, 0 ≤ t → t < σ a 1 → ¬ σ a 4 = t → τ b (11 + t) = -1 ∧ τ b (17 + t) = 0 ∧ τ b (23 + t) = 1)
def RSs (σ τ : zM) (se sl sr b : Int) : Prop :=
  (0 ≤ σ se 2 ∧ σ se 2 ≤ 5 ∧ τ b 2 = σ se 2) ∧
  (∀ k : Int, 0 ≤ k → k < σ se 2 → τ b (53 + k) = 10 * σ sl k + σ sr k ∧ (0 ≤ σ sl k ∧ σ sl k < τ b 1) ∧ (0 ≤ σ sr k ∧ σ sr k ≤ 1))
def RSe (σ τ : zM) (ev el er b : Int) : Prop :=
  (0 ≤ σ ev 2 ∧ σ ev 2 ≤ 8 ∧ τ b 3 = σ ev 2) ∧
  (∀ k : Int, 0 ≤ k → k < σ ev 2 → τ b (58 + 2 * k) = σ el k ∧ τ b (59 + 2 * k) = σ er k ∧ (0 ≤ σ el k ∧ σ el k ≤ 3) ∧ (0 ≤ σ er k ∧ σ er k ≤ 99))
def RSb (σ τ : zM) (bo bl br b : Int) : Prop :=
  (0 ≤ σ bo 2 ∧ σ bo 2 ≤ 8 ∧ τ b 4 = σ bo 2) ∧
  (∀ k : Int, 0 ≤ k → k < σ bo 2 → τ b (74 + k) = 10 * σ bl k + σ br k ∧ (0 ≤ σ bl k ∧ σ bl k < τ b 1) ∧ (0 ≤ σ br k ∧ σ br k < 4))
def RS (σ τ : zM) (a q f se sl sr ev el er bo bl br b : Int) : Prop := RSa σ τ a q f b ∧ RSs σ τ se sl sr b ∧ RSe σ τ ev el er b ∧ RSb σ τ bo bl br b
theorem RSa_fr {σ τ σ1 τ1 : zM} {a q f b : Int} (R : RSa σ τ a q f b) (ha : ∀ j, j = 0 ∨ j = 1 ∨ (4 ≤ j ∧ j < 8) → σ1 a j = σ a j) (hq : ∀ p j, 0 ≤ p → p < 4 → σ1 (q + p) j = σ (q + p) j) (hf : ∀ j, σ1 f j = σ f j) (hb : ∀ j, j = 0 ∨ j = 1 ∨ (5 ≤ j ∧ j < 53) → τ1 b j = τ b j) : RSa σ1 τ1 a q f b := by
  obtain ⟨r1, r2, r3, r4, r5, r6, r7, r8, r9⟩ := R
  have a0 := ha 0 (by omega)
  have a1 := ha 1 (by omega)
  have a4 := ha 4 (by omega)
  have a5 := ha 5 (by omega)
  have a6 := ha 6 (by omega)
  have a7 := ha 7 (by omega)
  unfold RSa
  rw [a0, a1, a4, a5, a6, a7]
  refine ⟨?_, ?_, ?_, ?_, ?_, ?_, r7, ?_, ?_⟩
  · rw [hb 0 (by omega)]; exact r1
  · rw [hb 1 (by omega)]; exact r2
  · intro p t h1 h2 h3 h4
    rw [hq p t h1 h2]; exact r3 p t h1 h2 h3 h4
  · intro p t h1 h2 h3 h4
    rw [hq p t h1 h2, hb _ (by omega)]; exact r4 p t h1 h2 h3 h4
  · intro t h1 h2
    rw [hf]; exact r5 t h1 h2
  · intro t h1 h2
    rw [hf, hb _ (by omega)]; exact r6 t h1 h2
  · intro t h1 h2 h3
    rw [hb _ (by omega), hb _ (by omega), hb _ (by omega)]; exact r8 t h1 h2 h3
  · intro t h1 h2 h3
    rw [hb _ (by omega), hb _ (by omega), hb _ (by omega)]; exact r9 t h1 h2 h3
theorem RSs_fr {σ τ σ1 τ1 : zM} {se sl sr b : Int} (R : RSs σ τ se sl sr b) (h2 : σ1 se 2 = σ se 2) (hl : ∀ k, σ1 sl k = σ sl k) (hr : ∀ k, σ1 sr k = σ sr k) (hb : ∀ j, j = 1 ∨ j = 2 ∨ (53 ≤ j ∧ j < 58) → τ1 b j = τ b j) : RSs σ1 τ1 se sl sr b := by
  obtain ⟨r1, r2⟩ := R
  unfold RSs
  rw [h2]
  refine ⟨by rw [hb 2 (by omega)]; exact r1, fun k a1 a2 => ?_⟩
  rw [hl, hr, hb 1 (by omega), hb (53 + k) (by omega)]; exact r2 k a1 a2
theorem RSe_fr {σ τ σ1 τ1 : zM} {ev el er b : Int} (R : RSe σ τ ev el er b) (h2 : σ1 ev 2 = σ ev 2) (hl : ∀ k, σ1 el k = σ el k) (hr : ∀ k, σ1 er k = σ er k) (hb : ∀ j, j = 3 ∨ (58 ≤ j ∧ j < 74) → τ1 b j = τ b j) : RSe σ1 τ1 ev el er b := by
  obtain ⟨r1, r2⟩ := R
  unfold RSe
  rw [h2]
  refine ⟨by rw [hb 3 (by omega)]; exact r1, fun k a1 a2 => ?_⟩
  rw [hl, hr, hb _ (by omega), hb _ (by omega)]; exact r2 k a1 a2
theorem RSb_fr {σ τ σ1 τ1 : zM} {bo bl br b : Int} (R : RSb σ τ bo bl br b) (h2 : σ1 bo 2 = σ bo 2) (hl : ∀ k, σ1 bl k = σ bl k) (hr : ∀ k, σ1 br k = σ br k) (hb : ∀ j, j = 1 ∨ j = 4 ∨ (74 ≤ j ∧ j < 82) → τ1 b j = τ b j) : RSb σ1 τ1 bo bl br b := by
  obtain ⟨r1, r2⟩ := R
  unfold RSb
  rw [h2]
  refine ⟨by rw [hb 4 (by omega)]; exact r1, fun k a1 a2 => ?_⟩
  rw [hl, hr, hb 1 (by omega), hb (74 + k) (by omega)]; exact r2 k a1 a2
theorem RSs_fr2 {σ τ σ1 τ1 : zM} {se sl sr b : Int} (R : RSs σ τ se sl sr b) (h2 : σ1 se 2 = σ se 2) (hl : ∀ k, σ1 sl k = σ sl k) (hr : ∀ k, σ1 sr k = σ sr k) (hb : ∀ j, j = 2 ∨ (53 ≤ j ∧ j < 58) → τ1 b j = τ b j) (h1 : τ b 1 ≤ τ1 b 1) : RSs σ1 τ1 se sl sr b := by
  obtain ⟨r1, r2⟩ := R
  unfold RSs
  rw [h2]
  refine ⟨by rw [hb 2 (by omega)]; exact r1, fun k a1 a2 => ?_⟩
  have := r2 k a1 a2
  rw [hl, hr, hb (53 + k) (by omega)]
  omega
theorem RSb_fr2 {σ τ σ1 τ1 : zM} {bo bl br b : Int} (R : RSb σ τ bo bl br b) (h2 : σ1 bo 2 = σ bo 2) (hl : ∀ k, σ1 bl k = σ bl k) (hr : ∀ k, σ1 br k = σ br k) (hb : ∀ j, j = 4 ∨ (74 ≤ j ∧ j < 82) → τ1 b j = τ b j) (h1 : τ b 1 ≤ τ1 b 1) : RSb σ1 τ1 bo bl br b := by
  obtain ⟨r1, r2⟩ := R
  unfold RSb
  rw [h2]
  refine ⟨by rw [hb 4 (by omega)]; exact r1, fun k a1 a2 => ?_⟩
  have := r2 k a1 a2
  rw [hl, hr, hb (74 + k) (by omega)]
  omega
theorem RS.n {σ τ : zM} {a q f se sl sr ev el er bo bl br b : Int} (R : RS σ τ a q f se sl sr ev el er bo bl br b) : 2 ≤ σ a 0 ∧ σ a 0 ≤ 4 ∧ τ b 0 = σ a 0 := R.1.1
theorem RS.m {σ τ : zM} {a q f se sl sr ev el er bo bl br b : Int} (R : RS σ τ a q f se sl sr ev el er bo bl br b) : 0 ≤ σ a 1 ∧ σ a 1 ≤ 6 ∧ τ b 1 = σ a 1 := R.1.2.1
theorem RS.ptr {σ τ : zM} {a q f se sl sr ev el er bo bl br b : Int} (R : RS σ τ a q f se sl sr ev el er bo bl br b) : ∀ p t : Int, 0 ≤ p → p < 4 → 0 ≤ t → t < 6 → 0 ≤ σ (q + p) t ∧ σ (q + p) t ≤ 99 := R.1.2.2.1
theorem RS.pt {σ τ : zM} {a q f se sl sr ev el er bo bl br b : Int} (R : RS σ τ a q f se sl sr ev el er bo bl br b) : ∀ p t : Int, 0 ≤ p → p < 4 → 0 ≤ t → t < σ a 1 → τ b (29 + 6 * p + t) = σ (q + p) t := R.1.2.2.2.1
theorem RS.fir {σ τ : zM} {a q f se sl sr ev el er bo bl br b : Int} (R : RS σ τ a q f se sl sr ev el er bo bl br b) : ∀ t : Int, 0 ≤ t → t < 6 → -1 ≤ σ f t ∧ σ f t < 4 := R.1.2.2.2.2.1
theorem RS.fi {σ τ : zM} {a q f se sl sr ev el er bo bl br b : Int} (R : RS σ τ a q f se sl sr ev el er bo bl br b) : ∀ t : Int, 0 ≤ t → t < σ a 1 → τ b (5 + t) = σ f t := R.1.2.2.2.2.2.1
theorem RS.cut {σ τ : zM} {a q f se sl sr ev el er bo bl br b : Int} (R : RS σ τ a q f se sl sr ev el er bo bl br b) : (-1 ≤ σ a 4 ∧ σ a 4 < σ a 1) ∧ (-1 ≤ σ a 5 ∧ σ a 5 < 4) ∧ (0 ≤ σ a 6 ∧ σ a 6 < σ a 7 ∧ σ a 7 ≤ 200000) ∧ (0 ≤ σ a 4 → 0 ≤ σ a 5) ∧ (σ a 4 < 0 → σ a 6 = 0 ∧ σ a 7 = 1) := R.1.2.2.2.2.2.2.1
theorem RS.cuY {σ τ : zM} {a q f se sl sr ev el er bo bl br b : Int} (R : RS σ τ a q f se sl sr ev el er bo bl br b) : ∀ t : Int, 0 ≤ t → t < σ a 1 → σ a 4 = t → τ b (11 + t) = σ a 5 ∧ τ b (17 + t) = σ a 6 ∧ τ b (23 + t) = σ a 7 := R.1.2.2.2.2.2.2.2.1
theorem RS.cuN {σ τ : zM} {a q f se sl sr ev el er bo bl br b : Int} (R : RS σ τ a q f se sl sr ev el er bo bl br b) : ∀ t : Int, 0 ≤ t → t < σ a 1 → ¬ σ a 4 = t → τ b (11 + t) = -1 ∧ τ b (17 + t) = 0 ∧ τ b (23 + t) = 1 := R.1.2.2.2.2.2.2.2.2
theorem RS.seM {σ τ : zM} {a q f se sl sr ev el er bo bl br b : Int} (R : RS σ τ a q f se sl sr ev el er bo bl br b) : 0 ≤ σ se 2 ∧ σ se 2 ≤ 5 ∧ τ b 2 = σ se 2 := R.2.1.1
theorem RS.seR {σ τ : zM} {a q f se sl sr ev el er bo bl br b : Int} (R : RS σ τ a q f se sl sr ev el er bo bl br b) : ∀ k : Int, 0 ≤ k → k < σ se 2 → τ b (53 + k) = 10 * σ sl k + σ sr k ∧ (0 ≤ σ sl k ∧ σ sl k < τ b 1) ∧ (0 ≤ σ sr k ∧ σ sr k ≤ 1) := R.2.1.2
theorem RS.evM {σ τ : zM} {a q f se sl sr ev el er bo bl br b : Int} (R : RS σ τ a q f se sl sr ev el er bo bl br b) : 0 ≤ σ ev 2 ∧ σ ev 2 ≤ 8 ∧ τ b 3 = σ ev 2 := R.2.2.1.1
theorem RS.evR {σ τ : zM} {a q f se sl sr ev el er bo bl br b : Int} (R : RS σ τ a q f se sl sr ev el er bo bl br b) : ∀ k : Int, 0 ≤ k → k < σ ev 2 → τ b (58 + 2 * k) = σ el k ∧ τ b (59 + 2 * k) = σ er k ∧ (0 ≤ σ el k ∧ σ el k ≤ 3) ∧ (0 ≤ σ er k ∧ σ er k ≤ 99) := R.2.2.1.2
theorem RS.boM {σ τ : zM} {a q f se sl sr ev el er bo bl br b : Int} (R : RS σ τ a q f se sl sr ev el er bo bl br b) : 0 ≤ σ bo 2 ∧ σ bo 2 ≤ 8 ∧ τ b 4 = σ bo 2 := R.2.2.2.1
theorem RS.boR {σ τ : zM} {a q f se sl sr ev el er bo bl br b : Int} (R : RS σ τ a q f se sl sr ev el er bo bl br b) : ∀ k : Int, 0 ≤ k → k < σ bo 2 → τ b (74 + k) = 10 * σ bl k + σ br k ∧ (0 ≤ σ bl k ∧ σ bl k < τ b 1) ∧ (0 ≤ σ br k ∧ σ br k < 4) := R.2.2.2.2
def Rel1 (σ τ : zM) : Prop := RS σ τ 1 3 7 8 9 10 11 12 13 14 15 16 61
def FrC (σ σ1 : zM) : Prop := ∀ c j : Int, (c < 1 ∨ 16 < c) → σ1 c j = σ c j
def FrM (τ τ1 : zM) : Prop := ∀ c j : Int, (c < 61 ∨ 61 < c) → τ1 c j = τ c j
theorem FrC_rfl (σ : zM) : FrC σ σ := fun c j _ => rfl
theorem FrM_rfl (σ : zM) : FrM σ σ := fun c j _ => rfl
def Same (σ τ : zM) (xc xm : Option (Option zV × zM)) : Prop := ∃ r σ1 τ1, xc = some (some (vI r), σ1) ∧ xm = some (some (vI r), τ1) ∧ Rel1 σ1 τ1 ∧ FrC σ σ1 ∧ FrM τ τ1
theorem Same_id {σ τ : zM} {xc xm : Option (Option zV × zM)} (R : Rel1 σ τ) (r : Int) (h1 : xc = some (some (vI r), σ)) (h2 : xm = some (some (vI r), τ)) : Same σ τ xc xm := ⟨r, σ, τ, h1, h2, R, FrC_rfl σ, FrM_rfl τ⟩
theorem Rel1_W1 {σ τ : zM} (R : Rel1 σ τ) : W1 σ := ⟨⟨R.n.1, R.n.2.1⟩, ⟨R.m.1, R.m.2.1⟩, R.ptr, R.fir, ⟨R.cut.1.1, by have := R.cut.1.2; have := R.m; omega⟩, R.cut.2.1, R.cut.2.2.1⟩
theorem Rel1_V1 {σ τ : zM} (R : Rel1 σ τ) : V1 τ := by
  have hn := R.n
  have hm := R.m
  refine ⟨by omega, by omega, fun p t a b c d => ?_, fun t a b => ?_⟩
  · rw [R.pt p t a b c (by omega)]
    exact R.ptr p t a b c (by omega)
  · have h1 := R.fi t a (by omega)
    have h2 := R.fir t a (by omega)
    have h3 := R.cut
    by_cases q : σ 1 4 = t
    · have h4 := R.cuY t a (by omega) q
      omega
    · have h4 := R.cuN t a (by omega) q
      omega
set_option maxRecDepth 20000 in
theorem op_of {σ τ : zM} {p t : Int} (R : Rel1 σ τ) (hp : -2147483648 ≤ p ∧ p < 2147483648) (ht : -2147483648 ≤ t ∧ t < 2147483648) : Same σ τ (zcall 50 [vR 0, vI p, vI t] σ) (zcall 115 [vR 60, vI p, vI t] τ) := by
  have hn := R.n
  have hm := R.m
  by_cases q1 : 0 ≤ p ∧ p < σ 1 0
  · have c1 := c_X6_isParty_t (σ := σ) (p := p) q1 (by omega)
    have m1 := m_isParty_t (σ := τ) (p := p) (by omega) (by omega)
    by_cases q2 : 0 ≤ t ∧ t < σ 1 1
    · have c2 := c_X6_isThing_t (σ := σ) (p := t) q2 (by omega)
      have m2 := m_isThing_t (σ := τ) (p := t) (by omega) (by omega)
      have e := R.pt p t (by omega) (by omega) (by omega) (by omega)
      have hr := R.ptr p t (by omega) (by omega) (by omega) (by omega)
      refine Same_id R (σ (3 + p) t) ?_ ?_
      · rw [S_X6_of]
        simp (disch := first | exact z_tt rfl | assumption | omega | (simp (disch := omega) only [zU_eq, zU_nc, zU_nj]; omega)) only [↓L_ald_n0, ↓L_ild_n1, ↓I_X6_isParty_0, ↓r_ifeq_t, ↓r_ifeq_f, ↓J_X6_of_16, ↓L_ild_n2, ↓I_X6_isThing_0, ↓r_ifne_t, ↓r_ifne_f, ↓J_X6_of_18, ↓r_iconst, ↓r_ireturn, ↓F_g0_0, ↓F_g1_2, ↓F_g17_2, ↓A_a2, ↓A_a18, ↓A_a40, ↓A_a47, ↓A_g3, ↓A_g4, ↓A_g5, ↓A_g6, ↓A_g7, ↓A_g9, ↓A_g10, ↓A_g12, ↓A_g13, ↓A_g15, ↓A_g16, ↓A_g19, ↓A_g20, ↓A_g21, ↓A_g22, ↓A_g23, ↓A_g25, ↓A_g26, ↓A_g28, ↓A_g29, ↓A_g31, ↓A_g32, ↓A_g34, ↓A_g36, ↓A_g37, ↓A_g38, ↓A_g39, ↓A_g41, ↓A_g42, ↓A_g43, ↓A_g44, ↓A_g61, ↓A_g62, ↓A_g63, ↓A_g65, ↓A_g66, ↓A_g67, ↓A_g68, ↓A_g69, ↓A_g70, ↓A_gN, ↓A_gT, ↓A_gC, ↓U_X6_of_0, ↓U_X6_of_16, ↓U_X6_of_18, ↓zthen_v, ↓zthen_0, zU_eq, zU_nc, zU_nj, c1, c2]
      · rw [S_X7_of]
        simp (disch := first | exact z_tt rfl | assumption | omega | (simp (disch := omega) only [zU_eq, zU_nc, zU_nj]; omega)) only [↓L_ald_n0, ↓L_ild_n1, ↓I_X7_isParty_60, ↓r_ifeq_t, ↓r_ifeq_f, ↓J_X7_of_25, ↓L_ild_n2, ↓I_X7_isThing_60, ↓I_X7_pointsOf_60, ↓r_goto, ↓J_X7_of_26, ↓r_iconst, ↓r_ireturn, ↓U_X7_of_0, ↓U_X7_of_25, ↓U_X7_of_26, ↓zthen_v, ↓zthen_0, zU_eq, zU_nc, zU_nj, m1, m2, m_pointsOf, e]
    · have c2 := c_X6_isThing_f (σ := σ) (p := t) (by omega) (by omega)
      have m2 := m_isThing_f (σ := τ) (p := t) (by omega) (by omega)
      refine Same_id R (-1) ?_ ?_
      · rw [S_X6_of]
        simp (disch := first | exact z_tt rfl | assumption | omega | (simp (disch := omega) only [zU_eq, zU_nc, zU_nj]; omega)) only [↓L_ald_n0, ↓L_ild_n1, ↓I_X6_isParty_0, ↓r_ifeq_t, ↓r_ifeq_f, ↓J_X6_of_16, ↓L_ild_n2, ↓I_X6_isThing_0, ↓r_ifne_t, ↓r_ifne_f, ↓J_X6_of_18, ↓r_iconst, ↓r_ireturn, ↓F_g0_0, ↓F_g1_2, ↓F_g17_2, ↓A_a2, ↓A_a18, ↓A_a40, ↓A_a47, ↓A_g3, ↓A_g4, ↓A_g5, ↓A_g6, ↓A_g7, ↓A_g9, ↓A_g10, ↓A_g12, ↓A_g13, ↓A_g15, ↓A_g16, ↓A_g19, ↓A_g20, ↓A_g21, ↓A_g22, ↓A_g23, ↓A_g25, ↓A_g26, ↓A_g28, ↓A_g29, ↓A_g31, ↓A_g32, ↓A_g34, ↓A_g36, ↓A_g37, ↓A_g38, ↓A_g39, ↓A_g41, ↓A_g42, ↓A_g43, ↓A_g44, ↓A_g61, ↓A_g62, ↓A_g63, ↓A_g65, ↓A_g66, ↓A_g67, ↓A_g68, ↓A_g69, ↓A_g70, ↓A_gN, ↓A_gT, ↓A_gC, ↓U_X6_of_0, ↓U_X6_of_16, ↓U_X6_of_18, ↓zthen_v, ↓zthen_0, zU_eq, zU_nc, zU_nj, c1, c2]
      · rw [S_X7_of]
        simp (disch := first | exact z_tt rfl | assumption | omega | (simp (disch := omega) only [zU_eq, zU_nc, zU_nj]; omega)) only [↓L_ald_n0, ↓L_ild_n1, ↓I_X7_isParty_60, ↓r_ifeq_t, ↓r_ifeq_f, ↓J_X7_of_25, ↓L_ild_n2, ↓I_X7_isThing_60, ↓I_X7_pointsOf_60, ↓r_goto, ↓J_X7_of_26, ↓r_iconst, ↓r_ireturn, ↓U_X7_of_0, ↓U_X7_of_25, ↓U_X7_of_26, ↓zthen_v, ↓zthen_0, zU_eq, zU_nc, zU_nj, m1, m2]
  · have c1 := c_X6_isParty_f (σ := σ) (p := p) (by omega) (by omega)
    have m1 := m_isParty_f (σ := τ) (p := p) (by omega) (by omega)
    refine Same_id R (-1) ?_ ?_
    · rw [S_X6_of]
      simp (disch := first | exact z_tt rfl | assumption | omega | (simp (disch := omega) only [zU_eq, zU_nc, zU_nj]; omega)) only [↓L_ald_n0, ↓L_ild_n1, ↓I_X6_isParty_0, ↓r_ifeq_t, ↓r_ifeq_f, ↓J_X6_of_16, ↓L_ild_n2, ↓I_X6_isThing_0, ↓r_ifne_t, ↓r_ifne_f, ↓J_X6_of_18, ↓r_iconst, ↓r_ireturn, ↓F_g0_0, ↓F_g1_2, ↓F_g17_2, ↓A_a2, ↓A_a18, ↓A_a40, ↓A_a47, ↓A_g3, ↓A_g4, ↓A_g5, ↓A_g6, ↓A_g7, ↓A_g9, ↓A_g10, ↓A_g12, ↓A_g13, ↓A_g15, ↓A_g16, ↓A_g19, ↓A_g20, ↓A_g21, ↓A_g22, ↓A_g23, ↓A_g25, ↓A_g26, ↓A_g28, ↓A_g29, ↓A_g31, ↓A_g32, ↓A_g34, ↓A_g36, ↓A_g37, ↓A_g38, ↓A_g39, ↓A_g41, ↓A_g42, ↓A_g43, ↓A_g44, ↓A_g61, ↓A_g62, ↓A_g63, ↓A_g65, ↓A_g66, ↓A_g67, ↓A_g68, ↓A_g69, ↓A_g70, ↓A_gN, ↓A_gT, ↓A_gC, ↓U_X6_of_0, ↓U_X6_of_16, ↓U_X6_of_18, ↓zthen_v, ↓zthen_0, zU_eq, zU_nc, zU_nj, c1]
    · rw [S_X7_of]
      simp (disch := first | exact z_tt rfl | assumption | omega | (simp (disch := omega) only [zU_eq, zU_nc, zU_nj]; omega)) only [↓L_ald_n0, ↓L_ild_n1, ↓I_X7_isParty_60, ↓r_ifeq_t, ↓r_ifeq_f, ↓J_X7_of_25, ↓L_ild_n2, ↓I_X7_isThing_60, ↓I_X7_pointsOf_60, ↓r_goto, ↓J_X7_of_26, ↓r_iconst, ↓r_ireturn, ↓U_X7_of_0, ↓U_X7_of_25, ↓U_X7_of_26, ↓zthen_v, ↓zthen_0, zU_eq, zU_nc, zU_nj, m1]
set_option maxRecDepth 20000 in
set_option maxHeartbeats 4000000 in
theorem op_see {σ τ : zM} {p t : Int} (R : Rel1 σ τ) (hp : -2147483648 ≤ p ∧ p < 2147483648) (ht : -2147483648 ≤ t ∧ t < 2147483648) : Same σ τ (zcall 69 [vR 0, vI t, vI p] σ) (zcall 171 [vR 60, vI t, vI p] τ) := by
  have hn := R.n
  have hm := R.m
  have hM := R.seM
  by_cases q0 : t = -1
  · refine ⟨0, zU σ 8 2 0, zU τ 61 2 0, ?_, ?_, ?_, fun c j h => zU_nc _ _ _ _ _ _ (by omega), fun c j h => zU_nc _ _ _ _ _ _ (by omega)⟩
    · rw [S_X6_see]
      simp (disch := first | exact z_tt rfl | assumption | omega | (simp (disch := omega) only [zU_eq, zU_nc, zU_nj]; omega)) only [↓L_ild_n1, ↓r_iconst, ↓r_icne_t, ↓r_icne_f, ↓J_X6_see_16, ↓L_ald_n0, ↓F_g0_0, ↓F_g1_8, ↓F_g17_8, ↓I_X1_empty_8, ↓I_X1_empty_11, ↓I_X1_empty_14, ↓I_X1_empty_24, ↓I_X1_empty_27, ↓I_X1_empty_30, ↓r_ireturn, ↓I_X6_isThing_0, ↓r_ifne_t, ↓r_ifne_f, ↓J_X6_see_26, ↓L_ild_n2, ↓r_iflt_t, ↓r_iflt_f, ↓J_X6_see_35, ↓r_icle_t, ↓r_icle_f, ↓J_X6_see_38, ↓r_bipush, ↓I_X1_isFull_8, ↓I_X1_isFull_11, ↓I_X1_isFull_14, ↓I_X1_isFull_24, ↓I_X1_isFull_27, ↓I_X1_isFull_30, ↓r_ifeq_t, ↓r_ifeq_f, ↓J_X6_see_56, ↓r_goto, ↓J_X6_see_68, ↓I_X1_append_8, ↓I_X1_append_11, ↓I_X1_append_14, ↓I_X1_append_24, ↓I_X1_append_27, ↓I_X1_append_30, ↓U_X6_see_0, ↓U_X6_see_16, ↓U_X6_see_26, ↓U_X6_see_35, ↓U_X6_see_38, ↓U_X6_see_56, ↓U_X6_see_68, ↓zthen_v, ↓zthen_0, zU_eq, zU_nc, zU_nj, c_X1_empty_8]
    · rw [S_X7_see]
      simp (disch := first | exact z_tt rfl | assumption | omega | (simp (disch := omega) only [zU_eq, zU_nc, zU_nj]; omega)) only [↓L_ild_n1, ↓r_iconst, ↓r_icne_t, ↓r_icne_f, ↓J_X7_see_14, ↓L_ald_n0, ↓F_g60_0, ↓A_p3, ↓A_p4, ↓A_p5, ↓A_p6, ↓A_p7, ↓A_p9, ↓A_p10, ↓A_p12, ↓A_p13, ↓A_p15, ↓A_p16, ↓A_p19, ↓A_p20, ↓A_p21, ↓A_p22, ↓A_p23, ↓A_p25, ↓A_p26, ↓A_p28, ↓A_p29, ↓A_p31, ↓A_p32, ↓A_p34, ↓A_p36, ↓A_p37, ↓A_p38, ↓A_p39, ↓A_p41, ↓A_p42, ↓A_p43, ↓A_p44, ↓A_p61, ↓A_p62, ↓A_p63, ↓A_p65, ↓A_p66, ↓A_p67, ↓A_p68, ↓A_p69, ↓A_p70, ↓A_pN, ↓A_pT, ↓r_ireturn, ↓I_X7_isThing_60, ↓r_ifne_t, ↓r_ifne_f, ↓J_X7_see_24, ↓L_ild_n2, ↓r_i2l, ↓r_lconst, ↓I_X7_in, ↓J_X7_see_37, ↓r_bipush, ↓A_g3, ↓A_g4, ↓A_g5, ↓A_g6, ↓A_g7, ↓A_g9, ↓A_g10, ↓A_g12, ↓A_g13, ↓A_g15, ↓A_g16, ↓A_g19, ↓A_g20, ↓A_g21, ↓A_g22, ↓A_g23, ↓A_g25, ↓A_g26, ↓A_g28, ↓A_g29, ↓A_g31, ↓A_g32, ↓A_g34, ↓A_g36, ↓A_g37, ↓A_g38, ↓A_g39, ↓A_g41, ↓A_g42, ↓A_g43, ↓A_g44, ↓A_g61, ↓A_g62, ↓A_g63, ↓A_g65, ↓A_g66, ↓A_g67, ↓A_g68, ↓A_g69, ↓A_g70, ↓A_gN, ↓A_gT, ↓A_gC, ↓J_X7_see_50, ↓r_iadd, ↓r_imul, ↓r_dup2, ↓r_dup2L, ↓U_X7_see_0, ↓U_X7_see_14, ↓U_X7_see_24, ↓U_X7_see_37, ↓U_X7_see_50, ↓zthen_v, ↓zthen_0, zU_eq, zU_nc, zU_nj]
    · refine ⟨RSa_fr R.1 ?_ ?_ ?_ ?_, ⟨?_, ?_⟩, RSe_fr R.2.2.1 ?_ ?_ ?_ ?_, RSb_fr R.2.2.2 ?_ ?_ ?_ ?_⟩ <;> intros <;> simp (disch := omega) only [zU_eq, zU_ow]
      · exact ⟨by omega, by omega, trivial⟩
      · rename_i h
        simp (disch := omega) only [zU_eq] at h
        omega
  · by_cases q1 : 0 ≤ t ∧ t < σ 1 1
    · have c1 := c_X6_isThing_t (σ := σ) (p := t) q1 (by omega)
      have m1 := m_isThing_t (σ := τ) (p := t) (by omega) (by omega)
      by_cases q2 : 0 ≤ p ∧ p ≤ 1
      · have cf := c_X1_isFull_8 (σ := σ) (by omega)
        by_cases q3 : σ 8 2 < 5
        · rw [if_pos q3] at cf
          refine ⟨σ 8 2 + 1, appR σ 8 t p, zU (zU τ 61 (53 + τ 61 2) (10 * t + p)) 61 2 (τ 61 2 + 1), ?_, ?_, ?_, fun c j h => ?_, fun c j h => ?_⟩
          · rw [S_X6_see]
            simp (disch := first | exact z_tt rfl | assumption | omega | (simp (disch := omega) only [zU_eq, zU_nc, zU_nj]; omega)) only [↓L_ild_n1, ↓r_iconst, ↓r_icne_t, ↓r_icne_f, ↓J_X6_see_16, ↓L_ald_n0, ↓F_g0_0, ↓F_g1_8, ↓F_g17_8, ↓I_X1_empty_8, ↓I_X1_empty_11, ↓I_X1_empty_14, ↓I_X1_empty_24, ↓I_X1_empty_27, ↓I_X1_empty_30, ↓r_ireturn, ↓I_X6_isThing_0, ↓r_ifne_t, ↓r_ifne_f, ↓J_X6_see_26, ↓L_ild_n2, ↓r_iflt_t, ↓r_iflt_f, ↓J_X6_see_35, ↓r_icle_t, ↓r_icle_f, ↓J_X6_see_38, ↓r_bipush, ↓I_X1_isFull_8, ↓I_X1_isFull_11, ↓I_X1_isFull_14, ↓I_X1_isFull_24, ↓I_X1_isFull_27, ↓I_X1_isFull_30, ↓r_ifeq_t, ↓r_ifeq_f, ↓J_X6_see_56, ↓r_goto, ↓J_X6_see_68, ↓I_X1_append_8, ↓I_X1_append_11, ↓I_X1_append_14, ↓I_X1_append_24, ↓I_X1_append_27, ↓I_X1_append_30, ↓U_X6_see_0, ↓U_X6_see_16, ↓U_X6_see_26, ↓U_X6_see_35, ↓U_X6_see_38, ↓U_X6_see_56, ↓U_X6_see_68, ↓zthen_v, ↓zthen_0, zU_eq, zU_nc, zU_nj, c1, cf, c_X1_append_8]
          · rw [S_X7_see, ← hM.2.2]
            simp (disch := first | exact z_tt rfl | assumption | omega | (simp (disch := omega) only [zU_eq, zU_nc, zU_nj]; omega)) only [↓L_ild_n1, ↓r_iconst, ↓r_icne_t, ↓r_icne_f, ↓J_X7_see_14, ↓L_ald_n0, ↓F_g60_0, ↓A_p3, ↓A_p4, ↓A_p5, ↓A_p6, ↓A_p7, ↓A_p9, ↓A_p10, ↓A_p12, ↓A_p13, ↓A_p15, ↓A_p16, ↓A_p19, ↓A_p20, ↓A_p21, ↓A_p22, ↓A_p23, ↓A_p25, ↓A_p26, ↓A_p28, ↓A_p29, ↓A_p31, ↓A_p32, ↓A_p34, ↓A_p36, ↓A_p37, ↓A_p38, ↓A_p39, ↓A_p41, ↓A_p42, ↓A_p43, ↓A_p44, ↓A_p61, ↓A_p62, ↓A_p63, ↓A_p65, ↓A_p66, ↓A_p67, ↓A_p68, ↓A_p69, ↓A_p70, ↓A_pN, ↓A_pT, ↓r_ireturn, ↓I_X7_isThing_60, ↓r_ifne_t, ↓r_ifne_f, ↓J_X7_see_24, ↓L_ild_n2, ↓r_i2l, ↓r_lconst, ↓I_X7_in, ↓J_X7_see_37, ↓r_bipush, ↓A_g3, ↓A_g4, ↓A_g5, ↓A_g6, ↓A_g7, ↓A_g9, ↓A_g10, ↓A_g12, ↓A_g13, ↓A_g15, ↓A_g16, ↓A_g19, ↓A_g20, ↓A_g21, ↓A_g22, ↓A_g23, ↓A_g25, ↓A_g26, ↓A_g28, ↓A_g29, ↓A_g31, ↓A_g32, ↓A_g34, ↓A_g36, ↓A_g37, ↓A_g38, ↓A_g39, ↓A_g41, ↓A_g42, ↓A_g43, ↓A_g44, ↓A_g61, ↓A_g62, ↓A_g63, ↓A_g65, ↓A_g66, ↓A_g67, ↓A_g68, ↓A_g69, ↓A_g70, ↓A_gN, ↓A_gT, ↓A_gC, ↓J_X7_see_50, ↓r_iadd, ↓r_imul, ↓r_dup2, ↓r_dup2L, ↓U_X7_see_0, ↓U_X7_see_14, ↓U_X7_see_24, ↓U_X7_see_37, ↓U_X7_see_50, ↓zthen_v, ↓zthen_0, zU_eq, zU_nc, zU_nj, m1, m_in_t]
          · rw [show appR σ 8 t p = zU (zU (zU σ 9 (σ 8 2) t) 10 (σ 8 2) p) 8 2 (σ 8 2 + 1) from rfl]
            refine ⟨RSa_fr R.1 ?_ ?_ ?_ ?_, ⟨?_, ?_⟩, RSe_fr R.2.2.1 ?_ ?_ ?_ ?_, RSb_fr R.2.2.2 ?_ ?_ ?_ ?_⟩
            all_goals intros
            all_goals try (simp (disch := omega) only [zU_eq, zU_ow]; done)
            · simp (disch := omega) only [zU_eq, zU_ow]
              omega
            · rename_i k k1 k2
              simp (disch := omega) only [zU_eq, zU_ow] at k2
              by_cases q4 : k = σ 8 2
              · subst q4
                rw [hM.2.2]
                simp (disch := omega) only [zU_eq, zU_ow, true_and]
                omega
              · have := R.seR k k1 (by omega)
                simp (disch := omega) only [zU_eq, zU_ow]
                exact this
          · rw [show appR σ 8 t p = zU (zU (zU σ 9 (σ 8 2) t) 10 (σ 8 2) p) 8 2 (σ 8 2 + 1) from rfl]
            simp (disch := omega) only [zU_ow]
          · simp (disch := omega) only [zU_ow]
        · rw [if_neg q3] at cf
          refine Same_id R (-4) ?_ ?_
          · rw [S_X6_see]
            simp (disch := first | exact z_tt rfl | assumption | omega | (simp (disch := omega) only [zU_eq, zU_nc, zU_nj]; omega)) only [↓L_ild_n1, ↓r_iconst, ↓r_icne_t, ↓r_icne_f, ↓J_X6_see_16, ↓L_ald_n0, ↓F_g0_0, ↓F_g1_8, ↓F_g17_8, ↓I_X1_empty_8, ↓I_X1_empty_11, ↓I_X1_empty_14, ↓I_X1_empty_24, ↓I_X1_empty_27, ↓I_X1_empty_30, ↓r_ireturn, ↓I_X6_isThing_0, ↓r_ifne_t, ↓r_ifne_f, ↓J_X6_see_26, ↓L_ild_n2, ↓r_iflt_t, ↓r_iflt_f, ↓J_X6_see_35, ↓r_icle_t, ↓r_icle_f, ↓J_X6_see_38, ↓r_bipush, ↓I_X1_isFull_8, ↓I_X1_isFull_11, ↓I_X1_isFull_14, ↓I_X1_isFull_24, ↓I_X1_isFull_27, ↓I_X1_isFull_30, ↓r_ifeq_t, ↓r_ifeq_f, ↓J_X6_see_56, ↓r_goto, ↓J_X6_see_68, ↓I_X1_append_8, ↓I_X1_append_11, ↓I_X1_append_14, ↓I_X1_append_24, ↓I_X1_append_27, ↓I_X1_append_30, ↓U_X6_see_0, ↓U_X6_see_16, ↓U_X6_see_26, ↓U_X6_see_35, ↓U_X6_see_38, ↓U_X6_see_56, ↓U_X6_see_68, ↓zthen_v, ↓zthen_0, zU_eq, zU_nc, zU_nj, c1, cf]
          · rw [S_X7_see]
            simp (disch := first | exact z_tt rfl | assumption | omega | (simp (disch := omega) only [zU_eq, zU_nc, zU_nj]; omega)) only [↓L_ild_n1, ↓r_iconst, ↓r_icne_t, ↓r_icne_f, ↓J_X7_see_14, ↓L_ald_n0, ↓F_g60_0, ↓A_p3, ↓A_p4, ↓A_p5, ↓A_p6, ↓A_p7, ↓A_p9, ↓A_p10, ↓A_p12, ↓A_p13, ↓A_p15, ↓A_p16, ↓A_p19, ↓A_p20, ↓A_p21, ↓A_p22, ↓A_p23, ↓A_p25, ↓A_p26, ↓A_p28, ↓A_p29, ↓A_p31, ↓A_p32, ↓A_p34, ↓A_p36, ↓A_p37, ↓A_p38, ↓A_p39, ↓A_p41, ↓A_p42, ↓A_p43, ↓A_p44, ↓A_p61, ↓A_p62, ↓A_p63, ↓A_p65, ↓A_p66, ↓A_p67, ↓A_p68, ↓A_p69, ↓A_p70, ↓A_pN, ↓A_pT, ↓r_ireturn, ↓I_X7_isThing_60, ↓r_ifne_t, ↓r_ifne_f, ↓J_X7_see_24, ↓L_ild_n2, ↓r_i2l, ↓r_lconst, ↓I_X7_in, ↓J_X7_see_37, ↓r_bipush, ↓A_g3, ↓A_g4, ↓A_g5, ↓A_g6, ↓A_g7, ↓A_g9, ↓A_g10, ↓A_g12, ↓A_g13, ↓A_g15, ↓A_g16, ↓A_g19, ↓A_g20, ↓A_g21, ↓A_g22, ↓A_g23, ↓A_g25, ↓A_g26, ↓A_g28, ↓A_g29, ↓A_g31, ↓A_g32, ↓A_g34, ↓A_g36, ↓A_g37, ↓A_g38, ↓A_g39, ↓A_g41, ↓A_g42, ↓A_g43, ↓A_g44, ↓A_g61, ↓A_g62, ↓A_g63, ↓A_g65, ↓A_g66, ↓A_g67, ↓A_g68, ↓A_g69, ↓A_g70, ↓A_gN, ↓A_gT, ↓A_gC, ↓J_X7_see_50, ↓r_iadd, ↓r_imul, ↓r_dup2, ↓r_dup2L, ↓U_X7_see_0, ↓U_X7_see_14, ↓U_X7_see_24, ↓U_X7_see_37, ↓U_X7_see_50, ↓zthen_v, ↓zthen_0, zU_eq, zU_nc, zU_nj, m1, m_in_t]
      · refine Same_id R (-2) ?_ ?_
        · rw [S_X6_see]
          by_cases q4 : p < 0
          · simp (disch := first | exact z_tt rfl | assumption | omega | (simp (disch := omega) only [zU_eq, zU_nc, zU_nj]; omega)) only [↓L_ild_n1, ↓r_iconst, ↓r_icne_t, ↓r_icne_f, ↓J_X6_see_16, ↓L_ald_n0, ↓F_g0_0, ↓F_g1_8, ↓F_g17_8, ↓I_X1_empty_8, ↓I_X1_empty_11, ↓I_X1_empty_14, ↓I_X1_empty_24, ↓I_X1_empty_27, ↓I_X1_empty_30, ↓r_ireturn, ↓I_X6_isThing_0, ↓r_ifne_t, ↓r_ifne_f, ↓J_X6_see_26, ↓L_ild_n2, ↓r_iflt_t, ↓r_iflt_f, ↓J_X6_see_35, ↓r_icle_t, ↓r_icle_f, ↓J_X6_see_38, ↓r_bipush, ↓I_X1_isFull_8, ↓I_X1_isFull_11, ↓I_X1_isFull_14, ↓I_X1_isFull_24, ↓I_X1_isFull_27, ↓I_X1_isFull_30, ↓r_ifeq_t, ↓r_ifeq_f, ↓J_X6_see_56, ↓r_goto, ↓J_X6_see_68, ↓I_X1_append_8, ↓I_X1_append_11, ↓I_X1_append_14, ↓I_X1_append_24, ↓I_X1_append_27, ↓I_X1_append_30, ↓U_X6_see_0, ↓U_X6_see_16, ↓U_X6_see_26, ↓U_X6_see_35, ↓U_X6_see_38, ↓U_X6_see_56, ↓U_X6_see_68, ↓zthen_v, ↓zthen_0, zU_eq, zU_nc, zU_nj, c1]
          · simp (disch := first | exact z_tt rfl | assumption | omega | (simp (disch := omega) only [zU_eq, zU_nc, zU_nj]; omega)) only [↓L_ild_n1, ↓r_iconst, ↓r_icne_t, ↓r_icne_f, ↓J_X6_see_16, ↓L_ald_n0, ↓F_g0_0, ↓F_g1_8, ↓F_g17_8, ↓I_X1_empty_8, ↓I_X1_empty_11, ↓I_X1_empty_14, ↓I_X1_empty_24, ↓I_X1_empty_27, ↓I_X1_empty_30, ↓r_ireturn, ↓I_X6_isThing_0, ↓r_ifne_t, ↓r_ifne_f, ↓J_X6_see_26, ↓L_ild_n2, ↓r_iflt_t, ↓r_iflt_f, ↓J_X6_see_35, ↓r_icle_t, ↓r_icle_f, ↓J_X6_see_38, ↓r_bipush, ↓I_X1_isFull_8, ↓I_X1_isFull_11, ↓I_X1_isFull_14, ↓I_X1_isFull_24, ↓I_X1_isFull_27, ↓I_X1_isFull_30, ↓r_ifeq_t, ↓r_ifeq_f, ↓J_X6_see_56, ↓r_goto, ↓J_X6_see_68, ↓I_X1_append_8, ↓I_X1_append_11, ↓I_X1_append_14, ↓I_X1_append_24, ↓I_X1_append_27, ↓I_X1_append_30, ↓U_X6_see_0, ↓U_X6_see_16, ↓U_X6_see_26, ↓U_X6_see_35, ↓U_X6_see_38, ↓U_X6_see_56, ↓U_X6_see_68, ↓zthen_v, ↓zthen_0, zU_eq, zU_nc, zU_nj, c1]
        · rw [S_X7_see]
          simp (disch := first | exact z_tt rfl | assumption | omega | (simp (disch := omega) only [zU_eq, zU_nc, zU_nj]; omega)) only [↓L_ild_n1, ↓r_iconst, ↓r_icne_t, ↓r_icne_f, ↓J_X7_see_14, ↓L_ald_n0, ↓F_g60_0, ↓A_p3, ↓A_p4, ↓A_p5, ↓A_p6, ↓A_p7, ↓A_p9, ↓A_p10, ↓A_p12, ↓A_p13, ↓A_p15, ↓A_p16, ↓A_p19, ↓A_p20, ↓A_p21, ↓A_p22, ↓A_p23, ↓A_p25, ↓A_p26, ↓A_p28, ↓A_p29, ↓A_p31, ↓A_p32, ↓A_p34, ↓A_p36, ↓A_p37, ↓A_p38, ↓A_p39, ↓A_p41, ↓A_p42, ↓A_p43, ↓A_p44, ↓A_p61, ↓A_p62, ↓A_p63, ↓A_p65, ↓A_p66, ↓A_p67, ↓A_p68, ↓A_p69, ↓A_p70, ↓A_pN, ↓A_pT, ↓r_ireturn, ↓I_X7_isThing_60, ↓r_ifne_t, ↓r_ifne_f, ↓J_X7_see_24, ↓L_ild_n2, ↓r_i2l, ↓r_lconst, ↓I_X7_in, ↓J_X7_see_37, ↓r_bipush, ↓A_g3, ↓A_g4, ↓A_g5, ↓A_g6, ↓A_g7, ↓A_g9, ↓A_g10, ↓A_g12, ↓A_g13, ↓A_g15, ↓A_g16, ↓A_g19, ↓A_g20, ↓A_g21, ↓A_g22, ↓A_g23, ↓A_g25, ↓A_g26, ↓A_g28, ↓A_g29, ↓A_g31, ↓A_g32, ↓A_g34, ↓A_g36, ↓A_g37, ↓A_g38, ↓A_g39, ↓A_g41, ↓A_g42, ↓A_g43, ↓A_g44, ↓A_g61, ↓A_g62, ↓A_g63, ↓A_g65, ↓A_g66, ↓A_g67, ↓A_g68, ↓A_g69, ↓A_g70, ↓A_gN, ↓A_gT, ↓A_gC, ↓J_X7_see_50, ↓r_iadd, ↓r_imul, ↓r_dup2, ↓r_dup2L, ↓U_X7_see_0, ↓U_X7_see_14, ↓U_X7_see_24, ↓U_X7_see_37, ↓U_X7_see_50, ↓zthen_v, ↓zthen_0, zU_eq, zU_nc, zU_nj, m1, m_in_f]
    · have c1 := c_X6_isThing_f (σ := σ) (p := t) (by omega) (by omega)
      have m1 := m_isThing_f (σ := τ) (p := t) (by omega) (by omega)
      refine Same_id R (-1) ?_ ?_
      · rw [S_X6_see]
        simp (disch := first | exact z_tt rfl | assumption | omega | (simp (disch := omega) only [zU_eq, zU_nc, zU_nj]; omega)) only [↓L_ild_n1, ↓r_iconst, ↓r_icne_t, ↓r_icne_f, ↓J_X6_see_16, ↓L_ald_n0, ↓F_g0_0, ↓F_g1_8, ↓F_g17_8, ↓I_X1_empty_8, ↓I_X1_empty_11, ↓I_X1_empty_14, ↓I_X1_empty_24, ↓I_X1_empty_27, ↓I_X1_empty_30, ↓r_ireturn, ↓I_X6_isThing_0, ↓r_ifne_t, ↓r_ifne_f, ↓J_X6_see_26, ↓L_ild_n2, ↓r_iflt_t, ↓r_iflt_f, ↓J_X6_see_35, ↓r_icle_t, ↓r_icle_f, ↓J_X6_see_38, ↓r_bipush, ↓I_X1_isFull_8, ↓I_X1_isFull_11, ↓I_X1_isFull_14, ↓I_X1_isFull_24, ↓I_X1_isFull_27, ↓I_X1_isFull_30, ↓r_ifeq_t, ↓r_ifeq_f, ↓J_X6_see_56, ↓r_goto, ↓J_X6_see_68, ↓I_X1_append_8, ↓I_X1_append_11, ↓I_X1_append_14, ↓I_X1_append_24, ↓I_X1_append_27, ↓I_X1_append_30, ↓U_X6_see_0, ↓U_X6_see_16, ↓U_X6_see_26, ↓U_X6_see_35, ↓U_X6_see_38, ↓U_X6_see_56, ↓U_X6_see_68, ↓zthen_v, ↓zthen_0, zU_eq, zU_nc, zU_nj, c1]
      · rw [S_X7_see]
        simp (disch := first | exact z_tt rfl | assumption | omega | (simp (disch := omega) only [zU_eq, zU_nc, zU_nj]; omega)) only [↓L_ild_n1, ↓r_iconst, ↓r_icne_t, ↓r_icne_f, ↓J_X7_see_14, ↓L_ald_n0, ↓F_g60_0, ↓A_p3, ↓A_p4, ↓A_p5, ↓A_p6, ↓A_p7, ↓A_p9, ↓A_p10, ↓A_p12, ↓A_p13, ↓A_p15, ↓A_p16, ↓A_p19, ↓A_p20, ↓A_p21, ↓A_p22, ↓A_p23, ↓A_p25, ↓A_p26, ↓A_p28, ↓A_p29, ↓A_p31, ↓A_p32, ↓A_p34, ↓A_p36, ↓A_p37, ↓A_p38, ↓A_p39, ↓A_p41, ↓A_p42, ↓A_p43, ↓A_p44, ↓A_p61, ↓A_p62, ↓A_p63, ↓A_p65, ↓A_p66, ↓A_p67, ↓A_p68, ↓A_p69, ↓A_p70, ↓A_pN, ↓A_pT, ↓r_ireturn, ↓I_X7_isThing_60, ↓r_ifne_t, ↓r_ifne_f, ↓J_X7_see_24, ↓L_ild_n2, ↓r_i2l, ↓r_lconst, ↓I_X7_in, ↓J_X7_see_37, ↓r_bipush, ↓A_g3, ↓A_g4, ↓A_g5, ↓A_g6, ↓A_g7, ↓A_g9, ↓A_g10, ↓A_g12, ↓A_g13, ↓A_g15, ↓A_g16, ↓A_g19, ↓A_g20, ↓A_g21, ↓A_g22, ↓A_g23, ↓A_g25, ↓A_g26, ↓A_g28, ↓A_g29, ↓A_g31, ↓A_g32, ↓A_g34, ↓A_g36, ↓A_g37, ↓A_g38, ↓A_g39, ↓A_g41, ↓A_g42, ↓A_g43, ↓A_g44, ↓A_g61, ↓A_g62, ↓A_g63, ↓A_g65, ↓A_g66, ↓A_g67, ↓A_g68, ↓A_g69, ↓A_g70, ↓A_gN, ↓A_gT, ↓A_gC, ↓J_X7_see_50, ↓r_iadd, ↓r_imul, ↓r_dup2, ↓r_dup2L, ↓U_X7_see_0, ↓U_X7_see_14, ↓U_X7_see_24, ↓U_X7_see_37, ↓U_X7_see_50, ↓zthen_v, ↓zthen_0, zU_eq, zU_nc, zU_nj, m1]
