/-! odds -/
noncomputable def OB (τ : zM) (th v : Int) : Bool := @decide (∃ t1, zcall 148 [vR 60, vI 0, vI 1] (zU τ 61 (29 + 6 * 0 + th) v) = some (some (vI 1), t1) ∧ t1 60 5 = th) (Classical.propDecidable _)
theorem vI_inj {a b : Int} {x y : zM} (h : (some (some (vI a), x) : Option (Option zV × zM)) = some (some (vI b), y)) : a = b ∧ x = y := by
  injection h with h
  injection h with h1 h2
  injection h1 with h3
  injection h3 with h4 h5
  exact ⟨h5, h2⟩
theorem wo_v {σ τ s t : zM} {p th v : Int} (R : Rel1 σ τ) (hp : 0 ≤ p ∧ p < 4) (ht : 0 ≤ th ∧ th < σ 1 1) (hv : 0 ≤ v ∧ v ≤ 99) (hs : VC σ p th v s) (h : VM τ p th v t) :
    (∃ s1, zcall 0 [vR 33, vR 40, vI (σ 1 1), vI 0, vI 1] s = some (some (vI 0), s1) ∧ zcall 148 [vR 60, vI 0, vI 1] t = some (some (vI 0), t) ∧ VC σ p th v s1) ∨
    (∃ s1 t1, zcall 0 [vR 33, vR 40, vI (σ 1 1), vI 0, vI 1] s = some (some (vI 1), s1) ∧ zcall 148 [vR 60, vI 0, vI 1] t = some (some (vI 1), t1) ∧ VC σ p th v s1 ∧ VM τ p th v t1 ∧ s1 33 5 = t1 60 5 ∧ -1 ≤ s1 33 5 ∧ s1 33 5 < 6) := by
  have hm := R.m
  have K := VM_TrM R hp ht h
  have hVC : ∀ s1, Ow6 s1 → FrA s s1 → VC σ p th v s1 := fun s1 Ro F1 => ⟨fun c j q => by rw [F1 _ _ (by omega)]; exact hs.1 _ _ q, Ro, fun q u a b c d => by rw [F1 _ _ (by omega)]; exact hs.2.2 q u a b c d⟩
  rcases wo_tr hs.2.1 h.2.1 (VM_V1 R hp ht hv h) (by rw [h.1 _ _ (by omega)]; exact hm.2.2) hs.2.2 K with ⟨s1, c3, m3, R1, F1⟩ | ⟨s1, t1, c3, m3, Ro, RF, F1, F2, A, h331⟩
  · exact Or.inl ⟨s1, c3, m3, hVC s1 R1 F1⟩
  · refine Or.inr ⟨s1, t1, c3, m3, hVC s1 Ro F1, ⟨fun c j q => by rw [F2 _ _ (by omega)]; exact h.1 _ _ q, RF, by rw [F2 _ _ (by omega)]; exact h.2.2⟩, A.2.1.2.1, ?_⟩
    have := A.2.2.1
    omega
theorem odd_c {σ τ s : zM} {th v : Int} (R : Rel1 σ τ) (hF : Fl τ) (ht : 0 ≤ th ∧ th < σ 1 1) (hv : 0 ≤ v ∧ v ≤ 99) (hs : VC σ 0 th v s) : ∃ s1, VC σ 0 th v s1 ∧ ((OB τ th v = false ∧ zcall 0 [vR 33, vR 40, vI (σ 1 1), vI 0, vI 1] s = some (some (vI 0), s1)) ∨ (zcall 0 [vR 33, vR 40, vI (σ 1 1), vI 0, vI 1] s = some (some (vI 1), s1) ∧ (OB τ th v = true ↔ s1 33 5 = th) ∧ -1 ≤ s1 33 5 ∧ s1 33 5 < 6)) := by
  rcases wo_v R (p := 0) (by omega) ht hv hs (VM_0 v hF) with ⟨s1, c3, m3, C1⟩ | ⟨s1, t1, c3, m3, C1, M1, e, b1, b2⟩
  · refine ⟨s1, C1, Or.inl ⟨?_, c3⟩⟩
    unfold OB
    refine @decide_eq_false _ (Classical.propDecidable _) ?_
    rintro ⟨t2, m2, -⟩
    rw [m3] at m2
    have := (vI_inj m2).1
    omega
  · refine ⟨s1, C1, Or.inr ⟨c3, ?_, b1, b2⟩⟩
    unfold OB
    rw [@decide_eq_true_iff _ (Classical.propDecidable _)]
    constructor
    · rintro ⟨t2, m2, h2⟩
      rw [m3] at m2
      rw [e, (vI_inj m2).2]
      exact h2
    · intro h
      exact ⟨t1, m3, by omega⟩
theorem odd_m {σ τ t : zM} {th v : Int} (R : Rel1 σ τ) (ho : Ow6 σ) (hF : Fl τ) (ht : 0 ≤ th ∧ th < σ 1 1) (hv : 0 ≤ v ∧ v ≤ 99) (h : VM τ 0 th v t) : ∃ t1, VM τ 0 th v t1 ∧ ((OB τ th v = false ∧ zcall 148 [vR 60, vI 0, vI 1] t = some (some (vI 0), t1)) ∨ (zcall 148 [vR 60, vI 0, vI 1] t = some (some (vI 1), t1) ∧ (OB τ th v = true ↔ t1 60 5 = th) ∧ -1 ≤ t1 60 5 ∧ t1 60 5 < 6)) := by
  have hs : VC σ 0 th v (zU (cpP σ 2 40) (41 + 0) th v) := VC_set (by omega) hv (VC_cp R ho)
  obtain ⟨s2, C2, K⟩ := odd_c R hF ht hv hs
  rcases wo_v R (p := 0) (by omega) ht hv hs h with ⟨s1, c3, m3, C1⟩ | ⟨s1, t1, c3, m3, C1, M1, e, b1, b2⟩
  · refine ⟨t, h, Or.inl ⟨?_, m3⟩⟩
    rcases K with ⟨k1, k2⟩ | ⟨k1, k2, k3⟩
    · exact k1
    · rw [c3] at k1
      have := (vI_inj k1).1
      omega
  · refine ⟨t1, M1, Or.inr ⟨m3, ?_, by omega, by omega⟩⟩
    rcases K with ⟨k1, k2⟩ | ⟨k1, k2, k3⟩
    · rw [c3] at k2
      have := (vI_inj k2).1
      omega
    · rw [c3] at k1
      rw [k2, ← (vI_inj k1).2, e]
set_option maxRecDepth 20000 in
set_option maxHeartbeats 4000000 in
theorem c_od_loop {σ τ : zM} {th w : Int} (R : Rel1 σ τ) (hF : Fl τ) (ht : 0 ≤ th ∧ th < σ 1 1) : ∀ (n : Nat) (v mn : Int) (s : zM), 1 ≤ v → v + n = 11 → (∃ v0, VC σ 0 th v0 s) → ∃ s1, (∃ v0, VC σ 0 th v0 s1) ∧ zres 71 C_X6_odds_38 [vR 0, vI th, vI w, vI mn, vI v] [] s = zres 71 C_X6_odds_98 [vR 0, vI th, vI w, vI (mn + cntI (OB τ th) v n), vI 11] [] s1 := by
  have hm := R.m
  intro n
  induction n with
  | zero =>
    intro v mn s hv hn hs
    have e : v = 11 := by omega
    subst e
    refine ⟨s, hs, ?_⟩
    rw [U_X6_odds_38, cntI, Int.add_zero]
    simp (disch := first | exact z_tt rfl | assumption | omega | (simp (disch := omega) only [zU_eq, zU_nc, zU_nj]; omega)) only [↓L_ald_n0, ↓L_ild_n1, ↓I_X6_isThing_0, ↓r_ifeq_t, ↓r_ifeq_f, ↓J_X6_odds_15, ↓L_ild_n2, ↓I_X6_isPart, ↓r_ifne_t, ↓r_ifne_f, ↓J_X6_odds_19, ↓r_ldc2w, ↓r_lreturn, ↓F_g0_0, ↓F_g1_2, ↓F_g17_2, ↓F_g0_5, ↓I_X6_copyPoints, ↓r_iconst, ↓L_ist_n3, ↓L_ist_n3L, ↓L_ist4, ↓L_ist4L, ↓L_ild4, ↓r_bipush, ↓r_icgt_t, ↓r_icgt_f, ↓J_X6_odds_98, ↓A_a2, ↓A_a18, ↓A_a40, ↓A_a47, ↓A_p3, ↓A_p4, ↓A_p5, ↓A_p6, ↓A_p7, ↓A_p9, ↓A_p10, ↓A_p12, ↓A_p13, ↓A_p15, ↓A_p16, ↓A_p19, ↓A_p20, ↓A_p21, ↓A_p22, ↓A_p23, ↓A_p25, ↓A_p26, ↓A_p28, ↓A_p29, ↓A_p31, ↓A_p32, ↓A_p34, ↓A_p36, ↓A_p37, ↓A_p38, ↓A_p39, ↓A_p41, ↓A_p42, ↓A_p43, ↓A_p44, ↓A_p61, ↓A_p62, ↓A_p63, ↓A_p65, ↓A_p66, ↓A_p67, ↓A_p68, ↓A_p69, ↓A_p70, ↓A_pN, ↓A_pT, ↓F_g0_3, ↓F_g1_1, ↓F_g17_1, ↓I_X0_workOut_33, ↓J_X6_odds_92, ↓F_g33_5, ↓r_icne_t, ↓r_icne_f, ↓L_iinc3, ↓L_iinc4, ↓r_goto, ↓J_X6_odds_38, ↓L_ild_n3, ↓r_i2l, ↓I_X6_inLowestTerms, ↓U_X6_odds_0, ↓U_X6_odds_15, ↓U_X6_odds_19, ↓U_X6_odds_92, ↓zthen_v, ↓zthen_0, zU_eq, zU_nc, zU_nj]
  | succ n ih =>
    intro v mn s hv hn hs
    obtain ⟨v0, hs⟩ := hs
    have hs2 := VC_set (v := v) (by omega) (by omega) hs
    have e11 : s 1 1 = σ 1 1 := hs.1 _ _ (by omega)
    obtain ⟨s1, C1, K⟩ := odd_c R hF ht (v := v) (by omega) hs2
    rw [U_X6_odds_38, cntI]
    rcases K with ⟨k1, k2⟩ | ⟨k1, k2, k3⟩
    · obtain ⟨s2, C2, E⟩ := ih (v + 1) mn s1 (by omega) (by omega) ⟨v, C1⟩
      refine ⟨s2, C2, ?_⟩
      rw [if_neg (by rw [k1]; decide), Int.zero_add, ← E]
      simp (disch := first | exact z_tt rfl | assumption | omega | (simp (disch := omega) only [zU_eq, zU_nc, zU_nj]; omega)) only [↓L_ald_n0, ↓L_ild_n1, ↓I_X6_isThing_0, ↓r_ifeq_t, ↓r_ifeq_f, ↓J_X6_odds_15, ↓L_ild_n2, ↓I_X6_isPart, ↓r_ifne_t, ↓r_ifne_f, ↓J_X6_odds_19, ↓r_ldc2w, ↓r_lreturn, ↓F_g0_0, ↓F_g1_2, ↓F_g17_2, ↓F_g0_5, ↓I_X6_copyPoints, ↓r_iconst, ↓L_ist_n3, ↓L_ist_n3L, ↓L_ist4, ↓L_ist4L, ↓L_ild4, ↓r_bipush, ↓r_icgt_t, ↓r_icgt_f, ↓J_X6_odds_98, ↓A_a2, ↓A_a18, ↓A_a40, ↓A_a47, ↓A_p3, ↓A_p4, ↓A_p5, ↓A_p6, ↓A_p7, ↓A_p9, ↓A_p10, ↓A_p12, ↓A_p13, ↓A_p15, ↓A_p16, ↓A_p19, ↓A_p20, ↓A_p21, ↓A_p22, ↓A_p23, ↓A_p25, ↓A_p26, ↓A_p28, ↓A_p29, ↓A_p31, ↓A_p32, ↓A_p34, ↓A_p36, ↓A_p37, ↓A_p38, ↓A_p39, ↓A_p41, ↓A_p42, ↓A_p43, ↓A_p44, ↓A_p61, ↓A_p62, ↓A_p63, ↓A_p65, ↓A_p66, ↓A_p67, ↓A_p68, ↓A_p69, ↓A_p70, ↓A_pN, ↓A_pT, ↓F_g0_3, ↓F_g1_1, ↓F_g17_1, ↓I_X0_workOut_33, ↓J_X6_odds_92, ↓F_g33_5, ↓r_icne_t, ↓r_icne_f, ↓L_iinc3, ↓L_iinc4, ↓r_goto, ↓J_X6_odds_38, ↓L_ild_n3, ↓r_i2l, ↓I_X6_inLowestTerms, ↓U_X6_odds_0, ↓U_X6_odds_15, ↓U_X6_odds_19, ↓U_X6_odds_92, ↓zthen_v, ↓zthen_0, zU_eq, zU_nc, zU_nj, e11, k2]
    · by_cases q : s1 33 5 = th
      · obtain ⟨s2, C2, E⟩ := ih (v + 1) (mn + 1) s1 (by omega) (by omega) ⟨v, C1⟩
        refine ⟨s2, C2, ?_⟩
        rw [if_pos (k2.mpr q), ← Int.add_assoc, ← E]
        simp (disch := first | exact z_tt rfl | assumption | omega | (simp (disch := omega) only [zU_eq, zU_nc, zU_nj]; omega)) only [↓L_ald_n0, ↓L_ild_n1, ↓I_X6_isThing_0, ↓r_ifeq_t, ↓r_ifeq_f, ↓J_X6_odds_15, ↓L_ild_n2, ↓I_X6_isPart, ↓r_ifne_t, ↓r_ifne_f, ↓J_X6_odds_19, ↓r_ldc2w, ↓r_lreturn, ↓F_g0_0, ↓F_g1_2, ↓F_g17_2, ↓F_g0_5, ↓I_X6_copyPoints, ↓r_iconst, ↓L_ist_n3, ↓L_ist_n3L, ↓L_ist4, ↓L_ist4L, ↓L_ild4, ↓r_bipush, ↓r_icgt_t, ↓r_icgt_f, ↓J_X6_odds_98, ↓A_a2, ↓A_a18, ↓A_a40, ↓A_a47, ↓A_p3, ↓A_p4, ↓A_p5, ↓A_p6, ↓A_p7, ↓A_p9, ↓A_p10, ↓A_p12, ↓A_p13, ↓A_p15, ↓A_p16, ↓A_p19, ↓A_p20, ↓A_p21, ↓A_p22, ↓A_p23, ↓A_p25, ↓A_p26, ↓A_p28, ↓A_p29, ↓A_p31, ↓A_p32, ↓A_p34, ↓A_p36, ↓A_p37, ↓A_p38, ↓A_p39, ↓A_p41, ↓A_p42, ↓A_p43, ↓A_p44, ↓A_p61, ↓A_p62, ↓A_p63, ↓A_p65, ↓A_p66, ↓A_p67, ↓A_p68, ↓A_p69, ↓A_p70, ↓A_pN, ↓A_pT, ↓F_g0_3, ↓F_g1_1, ↓F_g17_1, ↓I_X0_workOut_33, ↓J_X6_odds_92, ↓F_g33_5, ↓r_icne_t, ↓r_icne_f, ↓L_iinc3, ↓L_iinc4, ↓r_goto, ↓J_X6_odds_38, ↓L_ild_n3, ↓r_i2l, ↓I_X6_inLowestTerms, ↓U_X6_odds_0, ↓U_X6_odds_15, ↓U_X6_odds_19, ↓U_X6_odds_92, ↓zthen_v, ↓zthen_0, zU_eq, zU_nc, zU_nj, e11, k1]
      · obtain ⟨s2, C2, E⟩ := ih (v + 1) mn s1 (by omega) (by omega) ⟨v, C1⟩
        refine ⟨s2, C2, ?_⟩
        rw [if_neg (fun h => q (k2.mp h)), Int.zero_add, ← E]
        simp (disch := first | exact z_tt rfl | assumption | omega | (simp (disch := omega) only [zU_eq, zU_nc, zU_nj]; omega)) only [↓L_ald_n0, ↓L_ild_n1, ↓I_X6_isThing_0, ↓r_ifeq_t, ↓r_ifeq_f, ↓J_X6_odds_15, ↓L_ild_n2, ↓I_X6_isPart, ↓r_ifne_t, ↓r_ifne_f, ↓J_X6_odds_19, ↓r_ldc2w, ↓r_lreturn, ↓F_g0_0, ↓F_g1_2, ↓F_g17_2, ↓F_g0_5, ↓I_X6_copyPoints, ↓r_iconst, ↓L_ist_n3, ↓L_ist_n3L, ↓L_ist4, ↓L_ist4L, ↓L_ild4, ↓r_bipush, ↓r_icgt_t, ↓r_icgt_f, ↓J_X6_odds_98, ↓A_a2, ↓A_a18, ↓A_a40, ↓A_a47, ↓A_p3, ↓A_p4, ↓A_p5, ↓A_p6, ↓A_p7, ↓A_p9, ↓A_p10, ↓A_p12, ↓A_p13, ↓A_p15, ↓A_p16, ↓A_p19, ↓A_p20, ↓A_p21, ↓A_p22, ↓A_p23, ↓A_p25, ↓A_p26, ↓A_p28, ↓A_p29, ↓A_p31, ↓A_p32, ↓A_p34, ↓A_p36, ↓A_p37, ↓A_p38, ↓A_p39, ↓A_p41, ↓A_p42, ↓A_p43, ↓A_p44, ↓A_p61, ↓A_p62, ↓A_p63, ↓A_p65, ↓A_p66, ↓A_p67, ↓A_p68, ↓A_p69, ↓A_p70, ↓A_pN, ↓A_pT, ↓F_g0_3, ↓F_g1_1, ↓F_g17_1, ↓I_X0_workOut_33, ↓J_X6_odds_92, ↓F_g33_5, ↓r_icne_t, ↓r_icne_f, ↓L_iinc3, ↓L_iinc4, ↓r_goto, ↓J_X6_odds_38, ↓L_ild_n3, ↓r_i2l, ↓I_X6_inLowestTerms, ↓U_X6_odds_0, ↓U_X6_odds_15, ↓U_X6_odds_19, ↓U_X6_odds_92, ↓zthen_v, ↓zthen_0, zU_eq, zU_nc, zU_nj, e11, k1]
theorem VM_set0 {τ t : zM} {th w : Int} (v : Int) (h : VM τ 0 th w t) : VM τ 0 th v (zU t 61 (29 + th) v) := by
  have := VM_set v h
  rw [show (29 : Int) + 6 * 0 + th = 29 + th by omega] at this
  exact this
set_option maxRecDepth 20000 in
set_option maxHeartbeats 4000000 in
theorem m_od_loop {σ τ : zM} {th w was : Int} (R : Rel1 σ τ) (ho : Ow6 σ) (hF : Fl τ) (ht : 0 ≤ th ∧ th < σ 1 1) : ∀ (n : Nat) (v mn : Int) (t : zM), 1 ≤ v → v + n = 11 → (∃ v0, VM τ 0 th v0 t) → ∃ t1, (∃ v0, VM τ 0 th v0 t1) ∧ zres 174 C_X7_odds_32 [vR 60, vI th, vI w, vI was, vI mn, vI v] [] t = zres 174 C_X7_odds_83 [vR 60, vI th, vI w, vI was, vI (mn + cntI (OB τ th) v n), vI 11] [] t1 := by
  have hm := R.m
  intro n
  induction n with
  | zero =>
    intro v mn t hv hn hs
    have e : v = 11 := by omega
    subst e
    refine ⟨t, hs, ?_⟩
    rw [U_X7_odds_32, cntI, Int.add_zero]
    simp (disch := first | exact z_tt rfl | assumption | omega | (simp (disch := omega) only [zU_eq, zU_nc, zU_nj]; omega)) only [↓L_ald_n0, ↓L_ild_n1, ↓I_X7_isThing_60, ↓r_ifeq_t, ↓r_ifeq_f, ↓J_X7_odds_15, ↓L_ild_n2, ↓I_X7_isPart, ↓r_ifne_t, ↓r_ifne_f, ↓J_X7_odds_19, ↓r_ldc2w, ↓r_lreturn, ↓r_iconst, ↓I_X7_pointsOf_60, ↓L_ist_n3, ↓L_ist_n3L, ↓L_ist4, ↓L_ist4L, ↓L_ist5, ↓L_ist5L, ↓L_ild5, ↓r_bipush, ↓r_icgt_t, ↓r_icgt_f, ↓J_X7_odds_83, ↓F_g60_0, ↓r_iadd, ↓A_p3, ↓A_p4, ↓A_p5, ↓A_p6, ↓A_p7, ↓A_p9, ↓A_p10, ↓A_p12, ↓A_p13, ↓A_p15, ↓A_p16, ↓A_p19, ↓A_p20, ↓A_p21, ↓A_p22, ↓A_p23, ↓A_p25, ↓A_p26, ↓A_p28, ↓A_p29, ↓A_p31, ↓A_p32, ↓A_p34, ↓A_p36, ↓A_p37, ↓A_p38, ↓A_p39, ↓A_p41, ↓A_p42, ↓A_p43, ↓A_p44, ↓A_p61, ↓A_p62, ↓A_p63, ↓A_p65, ↓A_p66, ↓A_p67, ↓A_p68, ↓A_p69, ↓A_p70, ↓A_pN, ↓A_pT, ↓L_ild4, ↓I_X7_adjusts_60, ↓J_X7_odds_73, ↓F_g60_5, ↓r_icne_t, ↓r_icne_f, ↓r_goto, ↓J_X7_odds_74, ↓L_iinc5, ↓J_X7_odds_32, ↓L_ild_n3, ↓r_i2l, ↓I_X7_lowest, ↓U_X7_odds_0, ↓U_X7_odds_15, ↓U_X7_odds_19, ↓U_X7_odds_73, ↓U_X7_odds_74, ↓zthen_v, ↓zthen_0, zU_eq, zU_nc, zU_nj]
  | succ n ih =>
    intro v mn t hv hn hs
    obtain ⟨v0, hs⟩ := hs
    obtain ⟨t1, M1, K⟩ := odd_m R ho hF ht (v := v) (by omega) (VM_set0 (v := v) hs)
    rw [U_X7_odds_32, cntI]
    rcases K with ⟨k1, k2⟩ | ⟨k1, k2, k3⟩
    · obtain ⟨t2, M2, E⟩ := ih (v + 1) mn t1 (by omega) (by omega) ⟨v, M1⟩
      refine ⟨t2, M2, ?_⟩
      rw [if_neg (by rw [k1]; decide), Int.zero_add, ← E]
      simp (disch := first | exact z_tt rfl | assumption | omega | (simp (disch := omega) only [zU_eq, zU_nc, zU_nj]; omega)) only [↓L_ald_n0, ↓L_ild_n1, ↓I_X7_isThing_60, ↓r_ifeq_t, ↓r_ifeq_f, ↓J_X7_odds_15, ↓L_ild_n2, ↓I_X7_isPart, ↓r_ifne_t, ↓r_ifne_f, ↓J_X7_odds_19, ↓r_ldc2w, ↓r_lreturn, ↓r_iconst, ↓I_X7_pointsOf_60, ↓L_ist_n3, ↓L_ist_n3L, ↓L_ist4, ↓L_ist4L, ↓L_ist5, ↓L_ist5L, ↓L_ild5, ↓r_bipush, ↓r_icgt_t, ↓r_icgt_f, ↓J_X7_odds_83, ↓F_g60_0, ↓r_iadd, ↓A_p3, ↓A_p4, ↓A_p5, ↓A_p6, ↓A_p7, ↓A_p9, ↓A_p10, ↓A_p12, ↓A_p13, ↓A_p15, ↓A_p16, ↓A_p19, ↓A_p20, ↓A_p21, ↓A_p22, ↓A_p23, ↓A_p25, ↓A_p26, ↓A_p28, ↓A_p29, ↓A_p31, ↓A_p32, ↓A_p34, ↓A_p36, ↓A_p37, ↓A_p38, ↓A_p39, ↓A_p41, ↓A_p42, ↓A_p43, ↓A_p44, ↓A_p61, ↓A_p62, ↓A_p63, ↓A_p65, ↓A_p66, ↓A_p67, ↓A_p68, ↓A_p69, ↓A_p70, ↓A_pN, ↓A_pT, ↓L_ild4, ↓I_X7_adjusts_60, ↓J_X7_odds_73, ↓F_g60_5, ↓r_icne_t, ↓r_icne_f, ↓r_goto, ↓J_X7_odds_74, ↓L_iinc5, ↓J_X7_odds_32, ↓L_ild_n3, ↓r_i2l, ↓I_X7_lowest, ↓U_X7_odds_0, ↓U_X7_odds_15, ↓U_X7_odds_19, ↓U_X7_odds_73, ↓U_X7_odds_74, ↓zthen_v, ↓zthen_0, zU_eq, zU_nc, zU_nj, k2, Int.add_zero]
    · by_cases q : t1 60 5 = th
      · obtain ⟨t2, M2, E⟩ := ih (v + 1) (mn + 1) t1 (by omega) (by omega) ⟨v, M1⟩
        refine ⟨t2, M2, ?_⟩
        rw [if_pos (k2.mpr q), ← Int.add_assoc, ← E]
        simp (disch := first | exact z_tt rfl | assumption | omega | (simp (disch := omega) only [zU_eq, zU_nc, zU_nj]; omega)) only [↓L_ald_n0, ↓L_ild_n1, ↓I_X7_isThing_60, ↓r_ifeq_t, ↓r_ifeq_f, ↓J_X7_odds_15, ↓L_ild_n2, ↓I_X7_isPart, ↓r_ifne_t, ↓r_ifne_f, ↓J_X7_odds_19, ↓r_ldc2w, ↓r_lreturn, ↓r_iconst, ↓I_X7_pointsOf_60, ↓L_ist_n3, ↓L_ist_n3L, ↓L_ist4, ↓L_ist4L, ↓L_ist5, ↓L_ist5L, ↓L_ild5, ↓r_bipush, ↓r_icgt_t, ↓r_icgt_f, ↓J_X7_odds_83, ↓F_g60_0, ↓r_iadd, ↓A_p3, ↓A_p4, ↓A_p5, ↓A_p6, ↓A_p7, ↓A_p9, ↓A_p10, ↓A_p12, ↓A_p13, ↓A_p15, ↓A_p16, ↓A_p19, ↓A_p20, ↓A_p21, ↓A_p22, ↓A_p23, ↓A_p25, ↓A_p26, ↓A_p28, ↓A_p29, ↓A_p31, ↓A_p32, ↓A_p34, ↓A_p36, ↓A_p37, ↓A_p38, ↓A_p39, ↓A_p41, ↓A_p42, ↓A_p43, ↓A_p44, ↓A_p61, ↓A_p62, ↓A_p63, ↓A_p65, ↓A_p66, ↓A_p67, ↓A_p68, ↓A_p69, ↓A_p70, ↓A_pN, ↓A_pT, ↓L_ild4, ↓I_X7_adjusts_60, ↓J_X7_odds_73, ↓F_g60_5, ↓r_icne_t, ↓r_icne_f, ↓r_goto, ↓J_X7_odds_74, ↓L_iinc5, ↓J_X7_odds_32, ↓L_ild_n3, ↓r_i2l, ↓I_X7_lowest, ↓U_X7_odds_0, ↓U_X7_odds_15, ↓U_X7_odds_19, ↓U_X7_odds_73, ↓U_X7_odds_74, ↓zthen_v, ↓zthen_0, zU_eq, zU_nc, zU_nj, k1]
      · obtain ⟨t2, M2, E⟩ := ih (v + 1) mn t1 (by omega) (by omega) ⟨v, M1⟩
        refine ⟨t2, M2, ?_⟩
        rw [if_neg (fun h => q (k2.mp h)), Int.zero_add, ← E]
        simp (disch := first | exact z_tt rfl | assumption | omega | (simp (disch := omega) only [zU_eq, zU_nc, zU_nj]; omega)) only [↓L_ald_n0, ↓L_ild_n1, ↓I_X7_isThing_60, ↓r_ifeq_t, ↓r_ifeq_f, ↓J_X7_odds_15, ↓L_ild_n2, ↓I_X7_isPart, ↓r_ifne_t, ↓r_ifne_f, ↓J_X7_odds_19, ↓r_ldc2w, ↓r_lreturn, ↓r_iconst, ↓I_X7_pointsOf_60, ↓L_ist_n3, ↓L_ist_n3L, ↓L_ist4, ↓L_ist4L, ↓L_ist5, ↓L_ist5L, ↓L_ild5, ↓r_bipush, ↓r_icgt_t, ↓r_icgt_f, ↓J_X7_odds_83, ↓F_g60_0, ↓r_iadd, ↓A_p3, ↓A_p4, ↓A_p5, ↓A_p6, ↓A_p7, ↓A_p9, ↓A_p10, ↓A_p12, ↓A_p13, ↓A_p15, ↓A_p16, ↓A_p19, ↓A_p20, ↓A_p21, ↓A_p22, ↓A_p23, ↓A_p25, ↓A_p26, ↓A_p28, ↓A_p29, ↓A_p31, ↓A_p32, ↓A_p34, ↓A_p36, ↓A_p37, ↓A_p38, ↓A_p39, ↓A_p41, ↓A_p42, ↓A_p43, ↓A_p44, ↓A_p61, ↓A_p62, ↓A_p63, ↓A_p65, ↓A_p66, ↓A_p67, ↓A_p68, ↓A_p69, ↓A_p70, ↓A_pN, ↓A_pT, ↓L_ild4, ↓I_X7_adjusts_60, ↓J_X7_odds_73, ↓F_g60_5, ↓r_icne_t, ↓r_icne_f, ↓r_goto, ↓J_X7_odds_74, ↓L_iinc5, ↓J_X7_odds_32, ↓L_ild_n3, ↓r_i2l, ↓I_X7_lowest, ↓U_X7_odds_0, ↓U_X7_odds_15, ↓U_X7_odds_19, ↓U_X7_odds_73, ↓U_X7_odds_74, ↓zthen_v, ↓zthen_0, zU_eq, zU_nc, zU_nj, k1, Int.add_zero]
set_option maxRecDepth 20000 in
set_option maxHeartbeats 4000000 in
theorem op_odds {σ τ : zM} {th w : Int} (RR : RelA σ τ) (ht : -2147483648 ≤ th ∧ th < 2147483648) (hw : -2147483648 ≤ w ∧ w < 2147483648) : SameT vL σ τ (zcall 71 [vR 0, vI th, vI w] σ) (zcall 174 [vR 60, vI th, vI w] τ) := by
  have R := RR.1
  have hn := R.n
  have hm := R.m
  by_cases q2 : 0 ≤ th ∧ th < σ 1 1
  · have c2 := c_X6_isThing_t (σ := σ) (p := th) q2 (by omega)
    have m2 := m_isThing_t (σ := τ) (p := th) (by omega) (by omega)
    by_cases q3 : 0 ≤ w ∧ w ≤ 1
    · have c3 := c_X6_isPart_t (σ := σ) (p := w) q3
      have m3 := m_isPart_t (σ := τ) (p := w) q3
      obtain ⟨s1, ⟨v1, C1⟩, E1⟩ := c_od_loop (w := w) R RR.2.2 q2 10 1 0 (cpP σ 2 40) (by omega) (by omega) ⟨_, VC_cp R RR.2.1⟩
      obtain ⟨t1, ⟨v2, M1⟩, E2⟩ := m_od_loop (w := w) (was := τ 61 (29 + 6 * 0 + th)) R RR.2.1 RR.2.2 q2 10 1 0 τ (by omega) (by omega) ⟨_, ⟨fun _ _ _ => rfl, RR.2.2, rfl⟩⟩
      have m4 := m_pointsOf (σ := τ) (p := 0) (t := th) (by omega)
      have B := VM_back M1
      rw [show (29 : Int) + 6 * 0 + th = 29 + th by omega] at B E2 m4
      rw [Int.zero_add] at E1 E2
      have cb := cntI_bd (f := OB τ th) 10 1
      generalize cntI (OB τ th) 1 10 = K at E1 E2 cb
      have c5 := c_X6_inLowestTerms (σ := s1) (a := K) (b := 10) (part := w) (by omega) (by omega) (by omega)
      have m5 := m_lowest (σ := zU t1 61 (29 + th) (τ 61 (29 + th))) (a := K) (b := 10) (part := w) (by omega) (by omega) (by omega)
      refine ⟨(lowT K 10 w), s1, zU t1 61 (29 + th) (τ 61 (29 + th)), ?_, ?_, ⟨Rel1_fr R (fun c j a b => C1.1 _ _ (by omega)) B.2.2, C1.2.1, B.1⟩, C1.1, B.2.1⟩
      · rw [S_X6_odds]
        simp (disch := first | exact z_tt rfl | assumption | omega | (simp (disch := omega) only [zU_eq, zU_nc, zU_nj]; omega)) only [↓L_ald_n0, ↓L_ild_n1, ↓I_X6_isThing_0, ↓r_ifeq_t, ↓r_ifeq_f, ↓J_X6_odds_15, ↓L_ild_n2, ↓I_X6_isPart, ↓r_ifne_t, ↓r_ifne_f, ↓J_X6_odds_19, ↓r_ldc2w, ↓r_lreturn, ↓F_g0_0, ↓F_g1_2, ↓F_g17_2, ↓F_g0_5, ↓I_X6_copyPoints, ↓r_iconst, ↓L_ist_n3, ↓L_ist_n3L, ↓L_ist4, ↓L_ist4L, ↓L_ild4, ↓r_bipush, ↓r_icgt_t, ↓r_icgt_f, ↓J_X6_odds_98, ↓A_a2, ↓A_a18, ↓A_a40, ↓A_a47, ↓A_p3, ↓A_p4, ↓A_p5, ↓A_p6, ↓A_p7, ↓A_p9, ↓A_p10, ↓A_p12, ↓A_p13, ↓A_p15, ↓A_p16, ↓A_p19, ↓A_p20, ↓A_p21, ↓A_p22, ↓A_p23, ↓A_p25, ↓A_p26, ↓A_p28, ↓A_p29, ↓A_p31, ↓A_p32, ↓A_p34, ↓A_p36, ↓A_p37, ↓A_p38, ↓A_p39, ↓A_p41, ↓A_p42, ↓A_p43, ↓A_p44, ↓A_p61, ↓A_p62, ↓A_p63, ↓A_p65, ↓A_p66, ↓A_p67, ↓A_p68, ↓A_p69, ↓A_p70, ↓A_pN, ↓A_pT, ↓F_g0_3, ↓F_g1_1, ↓F_g17_1, ↓I_X0_workOut_33, ↓J_X6_odds_92, ↓F_g33_5, ↓r_icne_t, ↓r_icne_f, ↓L_iinc3, ↓L_iinc4, ↓r_goto, ↓J_X6_odds_38, ↓L_ild_n3, ↓r_i2l, ↓I_X6_inLowestTerms, ↓U_X6_odds_0, ↓U_X6_odds_15, ↓U_X6_odds_19, ↓U_X6_odds_92, ↓zthen_v, ↓zthen_0, zU_eq, zU_nc, zU_nj, c2, c3, c_X6_copyPoints_2_40]
        rw [E1, U_X6_odds_98]
        simp (disch := first | exact z_tt rfl | assumption | omega | (simp (disch := omega) only [zU_eq, zU_nc, zU_nj]; omega)) only [↓L_ald_n0, ↓L_ild_n1, ↓I_X6_isThing_0, ↓r_ifeq_t, ↓r_ifeq_f, ↓J_X6_odds_15, ↓L_ild_n2, ↓I_X6_isPart, ↓r_ifne_t, ↓r_ifne_f, ↓J_X6_odds_19, ↓r_ldc2w, ↓r_lreturn, ↓F_g0_0, ↓F_g1_2, ↓F_g17_2, ↓F_g0_5, ↓I_X6_copyPoints, ↓r_iconst, ↓L_ist_n3, ↓L_ist_n3L, ↓L_ist4, ↓L_ist4L, ↓L_ild4, ↓r_bipush, ↓r_icgt_t, ↓r_icgt_f, ↓J_X6_odds_98, ↓A_a2, ↓A_a18, ↓A_a40, ↓A_a47, ↓A_p3, ↓A_p4, ↓A_p5, ↓A_p6, ↓A_p7, ↓A_p9, ↓A_p10, ↓A_p12, ↓A_p13, ↓A_p15, ↓A_p16, ↓A_p19, ↓A_p20, ↓A_p21, ↓A_p22, ↓A_p23, ↓A_p25, ↓A_p26, ↓A_p28, ↓A_p29, ↓A_p31, ↓A_p32, ↓A_p34, ↓A_p36, ↓A_p37, ↓A_p38, ↓A_p39, ↓A_p41, ↓A_p42, ↓A_p43, ↓A_p44, ↓A_p61, ↓A_p62, ↓A_p63, ↓A_p65, ↓A_p66, ↓A_p67, ↓A_p68, ↓A_p69, ↓A_p70, ↓A_pN, ↓A_pT, ↓F_g0_3, ↓F_g1_1, ↓F_g17_1, ↓I_X0_workOut_33, ↓J_X6_odds_92, ↓F_g33_5, ↓r_icne_t, ↓r_icne_f, ↓L_iinc3, ↓L_iinc4, ↓r_goto, ↓J_X6_odds_38, ↓L_ild_n3, ↓r_i2l, ↓I_X6_inLowestTerms, ↓U_X6_odds_0, ↓U_X6_odds_15, ↓U_X6_odds_19, ↓U_X6_odds_92, ↓zthen_v, ↓zthen_0, zU_eq, zU_nc, zU_nj, c5]
      · rw [S_X7_odds]
        simp (disch := first | exact z_tt rfl | assumption | omega | (simp (disch := omega) only [zU_eq, zU_nc, zU_nj]; omega)) only [↓L_ald_n0, ↓L_ild_n1, ↓I_X7_isThing_60, ↓r_ifeq_t, ↓r_ifeq_f, ↓J_X7_odds_15, ↓L_ild_n2, ↓I_X7_isPart, ↓r_ifne_t, ↓r_ifne_f, ↓J_X7_odds_19, ↓r_ldc2w, ↓r_lreturn, ↓r_iconst, ↓I_X7_pointsOf_60, ↓L_ist_n3, ↓L_ist_n3L, ↓L_ist4, ↓L_ist4L, ↓L_ist5, ↓L_ist5L, ↓L_ild5, ↓r_bipush, ↓r_icgt_t, ↓r_icgt_f, ↓J_X7_odds_83, ↓F_g60_0, ↓r_iadd, ↓A_p3, ↓A_p4, ↓A_p5, ↓A_p6, ↓A_p7, ↓A_p9, ↓A_p10, ↓A_p12, ↓A_p13, ↓A_p15, ↓A_p16, ↓A_p19, ↓A_p20, ↓A_p21, ↓A_p22, ↓A_p23, ↓A_p25, ↓A_p26, ↓A_p28, ↓A_p29, ↓A_p31, ↓A_p32, ↓A_p34, ↓A_p36, ↓A_p37, ↓A_p38, ↓A_p39, ↓A_p41, ↓A_p42, ↓A_p43, ↓A_p44, ↓A_p61, ↓A_p62, ↓A_p63, ↓A_p65, ↓A_p66, ↓A_p67, ↓A_p68, ↓A_p69, ↓A_p70, ↓A_pN, ↓A_pT, ↓L_ild4, ↓I_X7_adjusts_60, ↓J_X7_odds_73, ↓F_g60_5, ↓r_icne_t, ↓r_icne_f, ↓r_goto, ↓J_X7_odds_74, ↓L_iinc5, ↓J_X7_odds_32, ↓L_ild_n3, ↓r_i2l, ↓I_X7_lowest, ↓U_X7_odds_0, ↓U_X7_odds_15, ↓U_X7_odds_19, ↓U_X7_odds_73, ↓U_X7_odds_74, ↓zthen_v, ↓zthen_0, zU_eq, zU_nc, zU_nj, m2, m3, m4]
        rw [E2, U_X7_odds_83]
        simp (disch := first | exact z_tt rfl | assumption | omega | (simp (disch := omega) only [zU_eq, zU_nc, zU_nj]; omega)) only [↓L_ald_n0, ↓L_ild_n1, ↓I_X7_isThing_60, ↓r_ifeq_t, ↓r_ifeq_f, ↓J_X7_odds_15, ↓L_ild_n2, ↓I_X7_isPart, ↓r_ifne_t, ↓r_ifne_f, ↓J_X7_odds_19, ↓r_ldc2w, ↓r_lreturn, ↓r_iconst, ↓I_X7_pointsOf_60, ↓L_ist_n3, ↓L_ist_n3L, ↓L_ist4, ↓L_ist4L, ↓L_ist5, ↓L_ist5L, ↓L_ild5, ↓r_bipush, ↓r_icgt_t, ↓r_icgt_f, ↓J_X7_odds_83, ↓F_g60_0, ↓r_iadd, ↓A_p3, ↓A_p4, ↓A_p5, ↓A_p6, ↓A_p7, ↓A_p9, ↓A_p10, ↓A_p12, ↓A_p13, ↓A_p15, ↓A_p16, ↓A_p19, ↓A_p20, ↓A_p21, ↓A_p22, ↓A_p23, ↓A_p25, ↓A_p26, ↓A_p28, ↓A_p29, ↓A_p31, ↓A_p32, ↓A_p34, ↓A_p36, ↓A_p37, ↓A_p38, ↓A_p39, ↓A_p41, ↓A_p42, ↓A_p43, ↓A_p44, ↓A_p61, ↓A_p62, ↓A_p63, ↓A_p65, ↓A_p66, ↓A_p67, ↓A_p68, ↓A_p69, ↓A_p70, ↓A_pN, ↓A_pT, ↓L_ild4, ↓I_X7_adjusts_60, ↓J_X7_odds_73, ↓F_g60_5, ↓r_icne_t, ↓r_icne_f, ↓r_goto, ↓J_X7_odds_74, ↓L_iinc5, ↓J_X7_odds_32, ↓L_ild_n3, ↓r_i2l, ↓I_X7_lowest, ↓U_X7_odds_0, ↓U_X7_odds_15, ↓U_X7_odds_19, ↓U_X7_odds_73, ↓U_X7_odds_74, ↓zthen_v, ↓zthen_0, zU_eq, zU_nc, zU_nj, m5]
    · have c3 := c_X6_isPart_f (σ := σ) (p := w) (by omega)
      have m3 := m_isPart_f (σ := τ) (p := w) (by omega)
      refine SameT_id RR (-9223372036854775808) ?_ ?_
      · rw [S_X6_odds]
        simp (disch := first | exact z_tt rfl | assumption | omega | (simp (disch := omega) only [zU_eq, zU_nc, zU_nj]; omega)) only [↓L_ald_n0, ↓L_ild_n1, ↓I_X6_isThing_0, ↓r_ifeq_t, ↓r_ifeq_f, ↓J_X6_odds_15, ↓L_ild_n2, ↓I_X6_isPart, ↓r_ifne_t, ↓r_ifne_f, ↓J_X6_odds_19, ↓r_ldc2w, ↓r_lreturn, ↓F_g0_0, ↓F_g1_2, ↓F_g17_2, ↓F_g0_5, ↓I_X6_copyPoints, ↓r_iconst, ↓L_ist_n3, ↓L_ist_n3L, ↓L_ist4, ↓L_ist4L, ↓L_ild4, ↓r_bipush, ↓r_icgt_t, ↓r_icgt_f, ↓J_X6_odds_98, ↓A_a2, ↓A_a18, ↓A_a40, ↓A_a47, ↓A_p3, ↓A_p4, ↓A_p5, ↓A_p6, ↓A_p7, ↓A_p9, ↓A_p10, ↓A_p12, ↓A_p13, ↓A_p15, ↓A_p16, ↓A_p19, ↓A_p20, ↓A_p21, ↓A_p22, ↓A_p23, ↓A_p25, ↓A_p26, ↓A_p28, ↓A_p29, ↓A_p31, ↓A_p32, ↓A_p34, ↓A_p36, ↓A_p37, ↓A_p38, ↓A_p39, ↓A_p41, ↓A_p42, ↓A_p43, ↓A_p44, ↓A_p61, ↓A_p62, ↓A_p63, ↓A_p65, ↓A_p66, ↓A_p67, ↓A_p68, ↓A_p69, ↓A_p70, ↓A_pN, ↓A_pT, ↓F_g0_3, ↓F_g1_1, ↓F_g17_1, ↓I_X0_workOut_33, ↓J_X6_odds_92, ↓F_g33_5, ↓r_icne_t, ↓r_icne_f, ↓L_iinc3, ↓L_iinc4, ↓r_goto, ↓J_X6_odds_38, ↓L_ild_n3, ↓r_i2l, ↓I_X6_inLowestTerms, ↓U_X6_odds_0, ↓U_X6_odds_15, ↓U_X6_odds_19, ↓U_X6_odds_92, ↓U_X6_odds_98, ↓zthen_v, ↓zthen_0, zU_eq, zU_nc, zU_nj, c2, c3]
      · rw [S_X7_odds]
        simp (disch := first | exact z_tt rfl | assumption | omega | (simp (disch := omega) only [zU_eq, zU_nc, zU_nj]; omega)) only [↓L_ald_n0, ↓L_ild_n1, ↓I_X7_isThing_60, ↓r_ifeq_t, ↓r_ifeq_f, ↓J_X7_odds_15, ↓L_ild_n2, ↓I_X7_isPart, ↓r_ifne_t, ↓r_ifne_f, ↓J_X7_odds_19, ↓r_ldc2w, ↓r_lreturn, ↓r_iconst, ↓I_X7_pointsOf_60, ↓L_ist_n3, ↓L_ist_n3L, ↓L_ist4, ↓L_ist4L, ↓L_ist5, ↓L_ist5L, ↓L_ild5, ↓r_bipush, ↓r_icgt_t, ↓r_icgt_f, ↓J_X7_odds_83, ↓F_g60_0, ↓r_iadd, ↓A_p3, ↓A_p4, ↓A_p5, ↓A_p6, ↓A_p7, ↓A_p9, ↓A_p10, ↓A_p12, ↓A_p13, ↓A_p15, ↓A_p16, ↓A_p19, ↓A_p20, ↓A_p21, ↓A_p22, ↓A_p23, ↓A_p25, ↓A_p26, ↓A_p28, ↓A_p29, ↓A_p31, ↓A_p32, ↓A_p34, ↓A_p36, ↓A_p37, ↓A_p38, ↓A_p39, ↓A_p41, ↓A_p42, ↓A_p43, ↓A_p44, ↓A_p61, ↓A_p62, ↓A_p63, ↓A_p65, ↓A_p66, ↓A_p67, ↓A_p68, ↓A_p69, ↓A_p70, ↓A_pN, ↓A_pT, ↓L_ild4, ↓I_X7_adjusts_60, ↓J_X7_odds_73, ↓F_g60_5, ↓r_icne_t, ↓r_icne_f, ↓r_goto, ↓J_X7_odds_74, ↓L_iinc5, ↓J_X7_odds_32, ↓L_ild_n3, ↓r_i2l, ↓I_X7_lowest, ↓U_X7_odds_0, ↓U_X7_odds_15, ↓U_X7_odds_19, ↓U_X7_odds_73, ↓U_X7_odds_74, ↓U_X7_odds_83, ↓zthen_v, ↓zthen_0, zU_eq, zU_nc, zU_nj, m2, m3]
  · have c2 := c_X6_isThing_f (σ := σ) (p := th) (by omega) (by omega)
    have m2 := m_isThing_f (σ := τ) (p := th) (by omega) (by omega)
    refine SameT_id RR (-9223372036854775808) ?_ ?_
    · rw [S_X6_odds]
      simp (disch := first | exact z_tt rfl | assumption | omega | (simp (disch := omega) only [zU_eq, zU_nc, zU_nj]; omega)) only [↓L_ald_n0, ↓L_ild_n1, ↓I_X6_isThing_0, ↓r_ifeq_t, ↓r_ifeq_f, ↓J_X6_odds_15, ↓L_ild_n2, ↓I_X6_isPart, ↓r_ifne_t, ↓r_ifne_f, ↓J_X6_odds_19, ↓r_ldc2w, ↓r_lreturn, ↓F_g0_0, ↓F_g1_2, ↓F_g17_2, ↓F_g0_5, ↓I_X6_copyPoints, ↓r_iconst, ↓L_ist_n3, ↓L_ist_n3L, ↓L_ist4, ↓L_ist4L, ↓L_ild4, ↓r_bipush, ↓r_icgt_t, ↓r_icgt_f, ↓J_X6_odds_98, ↓A_a2, ↓A_a18, ↓A_a40, ↓A_a47, ↓A_p3, ↓A_p4, ↓A_p5, ↓A_p6, ↓A_p7, ↓A_p9, ↓A_p10, ↓A_p12, ↓A_p13, ↓A_p15, ↓A_p16, ↓A_p19, ↓A_p20, ↓A_p21, ↓A_p22, ↓A_p23, ↓A_p25, ↓A_p26, ↓A_p28, ↓A_p29, ↓A_p31, ↓A_p32, ↓A_p34, ↓A_p36, ↓A_p37, ↓A_p38, ↓A_p39, ↓A_p41, ↓A_p42, ↓A_p43, ↓A_p44, ↓A_p61, ↓A_p62, ↓A_p63, ↓A_p65, ↓A_p66, ↓A_p67, ↓A_p68, ↓A_p69, ↓A_p70, ↓A_pN, ↓A_pT, ↓F_g0_3, ↓F_g1_1, ↓F_g17_1, ↓I_X0_workOut_33, ↓J_X6_odds_92, ↓F_g33_5, ↓r_icne_t, ↓r_icne_f, ↓L_iinc3, ↓L_iinc4, ↓r_goto, ↓J_X6_odds_38, ↓L_ild_n3, ↓r_i2l, ↓I_X6_inLowestTerms, ↓U_X6_odds_0, ↓U_X6_odds_15, ↓U_X6_odds_19, ↓U_X6_odds_92, ↓U_X6_odds_98, ↓zthen_v, ↓zthen_0, zU_eq, zU_nc, zU_nj, c2]
    · rw [S_X7_odds]
      simp (disch := first | exact z_tt rfl | assumption | omega | (simp (disch := omega) only [zU_eq, zU_nc, zU_nj]; omega)) only [↓L_ald_n0, ↓L_ild_n1, ↓I_X7_isThing_60, ↓r_ifeq_t, ↓r_ifeq_f, ↓J_X7_odds_15, ↓L_ild_n2, ↓I_X7_isPart, ↓r_ifne_t, ↓r_ifne_f, ↓J_X7_odds_19, ↓r_ldc2w, ↓r_lreturn, ↓r_iconst, ↓I_X7_pointsOf_60, ↓L_ist_n3, ↓L_ist_n3L, ↓L_ist4, ↓L_ist4L, ↓L_ist5, ↓L_ist5L, ↓L_ild5, ↓r_bipush, ↓r_icgt_t, ↓r_icgt_f, ↓J_X7_odds_83, ↓F_g60_0, ↓r_iadd, ↓A_p3, ↓A_p4, ↓A_p5, ↓A_p6, ↓A_p7, ↓A_p9, ↓A_p10, ↓A_p12, ↓A_p13, ↓A_p15, ↓A_p16, ↓A_p19, ↓A_p20, ↓A_p21, ↓A_p22, ↓A_p23, ↓A_p25, ↓A_p26, ↓A_p28, ↓A_p29, ↓A_p31, ↓A_p32, ↓A_p34, ↓A_p36, ↓A_p37, ↓A_p38, ↓A_p39, ↓A_p41, ↓A_p42, ↓A_p43, ↓A_p44, ↓A_p61, ↓A_p62, ↓A_p63, ↓A_p65, ↓A_p66, ↓A_p67, ↓A_p68, ↓A_p69, ↓A_p70, ↓A_pN, ↓A_pT, ↓L_ild4, ↓I_X7_adjusts_60, ↓J_X7_odds_73, ↓F_g60_5, ↓r_icne_t, ↓r_icne_f, ↓r_goto, ↓J_X7_odds_74, ↓L_iinc5, ↓J_X7_odds_32, ↓L_ild_n3, ↓r_i2l, ↓I_X7_lowest, ↓U_X7_odds_0, ↓U_X7_odds_15, ↓U_X7_odds_19, ↓U_X7_odds_73, ↓U_X7_odds_74, ↓U_X7_odds_83, ↓zthen_v, ↓zthen_0, zU_eq, zU_nc, zU_nj, m2]
