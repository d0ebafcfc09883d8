/-! jumps on an answer of which nothing is known -/
section ZJ
variable {k pc len : Nat} {x : Int} {is : List zCE} {ls st : List zV} {σ : zM}
theorem r_ifge_ct (o a : Int) (h : 0 ≤ c32 a) : zres k ((pc, len, x, .ifCond .ge o) :: is) ls (vI a :: st) σ = zres k (zjump k x) ls st σ := r_go (by
  show zif k x .ge is ls (vI a :: st) σ = _
  unfold zif
  dsimp only
  rw [if_pos rfl, if_pos (show zcd .ge (c32 a) 0 = true from decide_eq_true h)])
theorem r_ifge_cf (o a : Int) (h : c32 a < 0) : zres k ((pc, len, x, .ifCond .ge o) :: is) ls (vI a :: st) σ = zres k is ls st σ := r_go (by
  show zif k x .ge is ls (vI a :: st) σ = _
  unfold zif
  dsimp only
  rw [if_pos rfl, if_neg (show ¬ zcd .ge (c32 a) 0 = true from fun q => by
    have := of_decide_eq_true q
    omega)])
theorem r_icne_ct (o a : Int) (h : ¬ c32 a = -5) : zres k ((pc, len, x, .if_icmp .ne o) :: is) ls (vI (-5) :: vI a :: st) σ = zres k (zjump k x) ls st σ := r_go (by
  show zicmp k x .ne is ls (vI (-5) :: vI a :: st) σ = _
  unfold zicmp
  dsimp only
  rw [if_pos ⟨rfl, rfl⟩, if_pos (show zcd .ne (c32 a) (c32 (-5)) = true from decide_eq_true (by rw [c32_id (a := -5) (by omega) (by omega)]; exact h))])
theorem r_icne_cf (o a : Int) (h : c32 a = -5) : zres k ((pc, len, x, .if_icmp .ne o) :: is) ls (vI (-5) :: vI a :: st) σ = zres k is ls st σ := r_go (by
  show zicmp k x .ne is ls (vI (-5) :: vI a :: st) σ = _
  unfold zicmp
  dsimp only
  rw [if_pos ⟨rfl, rfl⟩, if_neg (show ¬ zcd .ne (c32 a) (c32 (-5)) = true from fun q => (of_decide_eq_true q) (by rw [c32_id (a := -5) (by omega) (by omega)]; exact h))])
end ZJ
theorem dgB_in {x : Int} (h : 0 ≤ dgB x) : x = 116 ∨ x = 110 ∨ x = 104 ∨ x = 115 ∨ x = 112 := by
  unfold dgB at h
  by_cases q1 : x = 116
  · exact Or.inl q1
  · rw [if_neg q1] at h
    by_cases q2 : x = 110
    · exact Or.inr (Or.inl q2)
    · rw [if_neg q2] at h
      by_cases q3 : x = 104 ∨ x = 115
      · omega
      · rw [if_neg q3] at h
        by_cases q4 : x = 112
        · omega
        · rw [if_neg q4] at h
          omega
theorem eoc_nn {σ : zM} {p : Int} (hp : 0 ≤ p) (h : 0 ≤ eoc σ p) : 0 ≤ dgB (sgn σ p) ∧ eoc σ p = eoE σ p (p + 1 + dgB (sgn σ p)) := by
  have hk := dgB_bd (sgn σ p)
  unfold eoc at h ⊢
  by_cases q : dgB (sgn σ p) < 0
  · rw [if_pos q] at h
    omega
  · rw [if_neg q] at h ⊢
    refine ⟨by omega, ?_⟩
    cases hd : eoD σ (p + 1) (dgB (sgn σ p)).toNat with
    | some j =>
      rw [hd] at h
      have := eoD_bd σ _ _ _ hd
      dsimp only at h
      omega
    | none => rfl
theorem RelA_Same {σ τ σ1 τ1 : zM} (R : RelA σ τ) (R1 : Rel1 σ1 τ1) (F1 : FrC σ σ1) (F2 : FrM τ τ1) : RelA σ1 τ1 ∧ FrC2 σ σ1 ∧ FrM2 τ τ1 := ⟨⟨R1, fun t a b => by rw [F1 _ _ (by omega)]; exact R.2.1 t a b, fun t a b => by rw [F2 _ _ (by omega)]; exact R.2.2 t a b⟩, fun c j h => F1 _ _ (by omega), fun c j h => F2 _ _ (by omega)⟩
set_option maxRecDepth 20000 in
set_option maxHeartbeats 4000000 in
theorem do_one {σ τ : zM} {p k : Int} (R : RelA σ τ) (hT : TX σ) (hp : 0 ≤ p ∧ p < 500) (h0 : 0 ≤ eoc σ p) (hC : CL σ τ k p) (hk : 0 ≤ k ∧ k < 14) : ∃ r σ1 τ1, zcall 96 [vR 0, vI p, vI (eoc σ p)] σ = some (some (vI r), σ1) ∧ zcall 169 [vR 60, vI k] τ = some (some (vI r), τ1) ∧ RelA σ1 τ1 ∧ FrC2 σ σ1 ∧ FrM2 τ τ1 := by
  obtain ⟨hd, he⟩ := eoc_nn hp.1 h0
  obtain ⟨l0, l1⟩ := hC
  have cs := c_X4_signAt hT (i := p) (by omega)
  have c1 := c_X4_digitAt hT (i := p + 1) (by omega)
  have c2 := c_X4_digitAt hT (i := p + 2) (by omega)
  have b1 := dig_bd σ (p + 1)
  have b2 := dig_bd σ (p + 2)
  rcases dgB_in hd with e | e | e | e | e
  · rw [e] at cs l0
    obtain ⟨r, σ1, τ1, o1, o2, R1, F1, F2⟩ := op_thing R.1
    obtain ⟨S1, S2, S3⟩ := RelA_Same R R1 F1 F2
    refine ⟨r, σ1, τ1, ?_, ?_, S1, S2, S3⟩
    · rw [S_X6_doClause]
      simp (disch := first | exact z_tt rfl | assumption | omega | (simp (disch := omega) only [zU_eq, zU_nc, zU_nj]; omega)) only [↓L_ald_n0, ↓F_g0_6, ↓L_ild_n1, ↓r_iconst, ↓r_iadd, ↓I_X4_digitAt_45, ↓L_ist_n3, ↓L_ist_n3L, ↓L_ist4, ↓L_ist4L, ↓I_X4_signAt_45, ↓r_lk, ↓W_X6_doClause_31_104, ↓W_X6_doClause_31_110, ↓W_X6_doClause_31_112, ↓W_X6_doClause_31_116, ↓W_X6_doClause_31_d, ↓L_ild_n3, ↓I_X6_parties_0, ↓r_ireturn, ↓I_X6_thing_0, ↓L_ild4, ↓L_ild_n2, ↓I_X4_numberIn_45, ↓I_X6_point_0, ↓I_X6_hold_0, ↓I_X6_settle_0, ↓U_X6_doClause_0, ↓U_X6_doClause_72, ↓U_X6_doClause_78, ↓U_X6_doClause_83, ↓U_X6_doClause_102, ↓U_X6_doClause_110, ↓zthen_v, ↓zthen_0, zU_eq, zU_nc, zU_nj, cs, c1, c2, o1]
    · rw [S_X7_does]
      simp (disch := first | exact z_tt rfl | assumption | omega | (simp (disch := omega) only [zU_eq, zU_nc, zU_nj]; omega)) only [↓L_ald_n0, ↓F_g60_19, ↓r_iconst, ↓L_ild_n1, ↓r_imul, ↓r_iadd, ↓A_g3, ↓A_g4, ↓A_g5, ↓A_g6, ↓A_g7, ↓A_g9, ↓A_g10, ↓A_g12, ↓A_g13, ↓A_g15, ↓A_g16, ↓A_g19, ↓A_g20, ↓A_g21, ↓A_g22, ↓A_g23, ↓A_g25, ↓A_g26, ↓A_g28, ↓A_g29, ↓A_g31, ↓A_g32, ↓A_g34, ↓A_g36, ↓A_g37, ↓A_g38, ↓A_g39, ↓A_g41, ↓A_g42, ↓A_g43, ↓A_g44, ↓A_g61, ↓A_g62, ↓A_g63, ↓A_g65, ↓A_g66, ↓A_g67, ↓A_g68, ↓A_g69, ↓A_g70, ↓A_gN, ↓A_gT, ↓A_gC, ↓L_ist_n2, ↓L_ist_n2L, ↓L_ist_n3, ↓L_ist_n3L, ↓r_lk, ↓W_X7_does_30_104, ↓W_X7_does_30_110, ↓W_X7_does_30_112, ↓W_X7_does_30_116, ↓W_X7_does_30_d, ↓L_ild_n2, ↓I_X7_parties_60, ↓r_ireturn, ↓I_X7_thing_60, ↓L_ild_n3, ↓I_X7_point_60, ↓I_X7_hold_60, ↓I_X7_settle_60, ↓U_X7_does_0, ↓U_X7_does_72, ↓U_X7_does_78, ↓U_X7_does_83, ↓U_X7_does_100, ↓U_X7_does_107, ↓zthen_v, ↓zthen_0, zU_eq, zU_nc, zU_nj, l0, o2]
  · rw [e] at cs l0
    have l1a := l1 1 (by omega) (by rw [e]; decide)
    rw [show nmX σ 1 (p + 1) = dig σ (p + 1) from if_neg (by omega)] at l1a
    obtain ⟨r, σ1, τ1, o1, o2, R1, F1, F2⟩ := op_parties (n := dig σ (p + 1)) R.1 (by omega)
    obtain ⟨S1, S2, S3⟩ := RelA_Same R R1 F1 F2
    refine ⟨r, σ1, τ1, ?_, ?_, S1, S2, S3⟩
    · rw [S_X6_doClause]
      simp (disch := first | exact z_tt rfl | assumption | omega | (simp (disch := omega) only [zU_eq, zU_nc, zU_nj]; omega)) only [↓L_ald_n0, ↓F_g0_6, ↓L_ild_n1, ↓r_iconst, ↓r_iadd, ↓I_X4_digitAt_45, ↓L_ist_n3, ↓L_ist_n3L, ↓L_ist4, ↓L_ist4L, ↓I_X4_signAt_45, ↓r_lk, ↓W_X6_doClause_31_104, ↓W_X6_doClause_31_110, ↓W_X6_doClause_31_112, ↓W_X6_doClause_31_116, ↓W_X6_doClause_31_d, ↓L_ild_n3, ↓I_X6_parties_0, ↓r_ireturn, ↓I_X6_thing_0, ↓L_ild4, ↓L_ild_n2, ↓I_X4_numberIn_45, ↓I_X6_point_0, ↓I_X6_hold_0, ↓I_X6_settle_0, ↓U_X6_doClause_0, ↓U_X6_doClause_72, ↓U_X6_doClause_78, ↓U_X6_doClause_83, ↓U_X6_doClause_102, ↓U_X6_doClause_110, ↓zthen_v, ↓zthen_0, zU_eq, zU_nc, zU_nj, cs, c1, c2, o1]
    · rw [S_X7_does]
      simp (disch := first | exact z_tt rfl | assumption | omega | (simp (disch := omega) only [zU_eq, zU_nc, zU_nj]; omega)) only [↓L_ald_n0, ↓F_g60_19, ↓r_iconst, ↓L_ild_n1, ↓r_imul, ↓r_iadd, ↓A_g3, ↓A_g4, ↓A_g5, ↓A_g6, ↓A_g7, ↓A_g9, ↓A_g10, ↓A_g12, ↓A_g13, ↓A_g15, ↓A_g16, ↓A_g19, ↓A_g20, ↓A_g21, ↓A_g22, ↓A_g23, ↓A_g25, ↓A_g26, ↓A_g28, ↓A_g29, ↓A_g31, ↓A_g32, ↓A_g34, ↓A_g36, ↓A_g37, ↓A_g38, ↓A_g39, ↓A_g41, ↓A_g42, ↓A_g43, ↓A_g44, ↓A_g61, ↓A_g62, ↓A_g63, ↓A_g65, ↓A_g66, ↓A_g67, ↓A_g68, ↓A_g69, ↓A_g70, ↓A_gN, ↓A_gT, ↓A_gC, ↓L_ist_n2, ↓L_ist_n2L, ↓L_ist_n3, ↓L_ist_n3L, ↓r_lk, ↓W_X7_does_30_104, ↓W_X7_does_30_110, ↓W_X7_does_30_112, ↓W_X7_does_30_116, ↓W_X7_does_30_d, ↓L_ild_n2, ↓I_X7_parties_60, ↓r_ireturn, ↓I_X7_thing_60, ↓L_ild_n3, ↓I_X7_point_60, ↓I_X7_hold_60, ↓I_X7_settle_60, ↓U_X7_does_0, ↓U_X7_does_72, ↓U_X7_does_78, ↓U_X7_does_83, ↓U_X7_does_100, ↓U_X7_does_107, ↓zthen_v, ↓zthen_0, zU_eq, zU_nc, zU_nj, l0, l1a, o2]
  · rw [e] at cs l0
    have l1a := l1 1 (by omega) (by rw [e]; decide)
    have l2a := l1 2 (by omega) (by rw [e]; decide)
    rw [show nmX σ 1 (p + 1) = dig σ (p + 1) from if_neg (by omega)] at l1a
    rw [show nmX σ 2 (p + 2) = dig σ (p + 2) from if_neg (by omega)] at l2a
    obtain ⟨r, σ1, τ1, o1, o2, R1, F1, F2⟩ := op_hold (t := dig σ (p + 1)) (p := dig σ (p + 2)) R.1 (by omega) (by omega)
    obtain ⟨S1, S2, S3⟩ := RelA_Same R R1 F1 F2
    refine ⟨r, σ1, τ1, ?_, ?_, S1, S2, S3⟩
    · rw [S_X6_doClause]
      simp (disch := first | exact z_tt rfl | assumption | omega | (simp (disch := omega) only [zU_eq, zU_nc, zU_nj]; omega)) only [↓L_ald_n0, ↓F_g0_6, ↓L_ild_n1, ↓r_iconst, ↓r_iadd, ↓I_X4_digitAt_45, ↓L_ist_n3, ↓L_ist_n3L, ↓L_ist4, ↓L_ist4L, ↓I_X4_signAt_45, ↓r_lk, ↓W_X6_doClause_31_104, ↓W_X6_doClause_31_110, ↓W_X6_doClause_31_112, ↓W_X6_doClause_31_116, ↓W_X6_doClause_31_d, ↓L_ild_n3, ↓I_X6_parties_0, ↓r_ireturn, ↓I_X6_thing_0, ↓L_ild4, ↓L_ild_n2, ↓I_X4_numberIn_45, ↓I_X6_point_0, ↓I_X6_hold_0, ↓I_X6_settle_0, ↓U_X6_doClause_0, ↓U_X6_doClause_72, ↓U_X6_doClause_78, ↓U_X6_doClause_83, ↓U_X6_doClause_102, ↓U_X6_doClause_110, ↓zthen_v, ↓zthen_0, zU_eq, zU_nc, zU_nj, cs, c1, c2, o1]
    · rw [S_X7_does]
      simp (disch := first | exact z_tt rfl | assumption | omega | (simp (disch := omega) only [zU_eq, zU_nc, zU_nj]; omega)) only [↓L_ald_n0, ↓F_g60_19, ↓r_iconst, ↓L_ild_n1, ↓r_imul, ↓r_iadd, ↓A_g3, ↓A_g4, ↓A_g5, ↓A_g6, ↓A_g7, ↓A_g9, ↓A_g10, ↓A_g12, ↓A_g13, ↓A_g15, ↓A_g16, ↓A_g19, ↓A_g20, ↓A_g21, ↓A_g22, ↓A_g23, ↓A_g25, ↓A_g26, ↓A_g28, ↓A_g29, ↓A_g31, ↓A_g32, ↓A_g34, ↓A_g36, ↓A_g37, ↓A_g38, ↓A_g39, ↓A_g41, ↓A_g42, ↓A_g43, ↓A_g44, ↓A_g61, ↓A_g62, ↓A_g63, ↓A_g65, ↓A_g66, ↓A_g67, ↓A_g68, ↓A_g69, ↓A_g70, ↓A_gN, ↓A_gT, ↓A_gC, ↓L_ist_n2, ↓L_ist_n2L, ↓L_ist_n3, ↓L_ist_n3L, ↓r_lk, ↓W_X7_does_30_104, ↓W_X7_does_30_110, ↓W_X7_does_30_112, ↓W_X7_does_30_116, ↓W_X7_does_30_d, ↓L_ild_n2, ↓I_X7_parties_60, ↓r_ireturn, ↓I_X7_thing_60, ↓L_ild_n3, ↓I_X7_point_60, ↓I_X7_hold_60, ↓I_X7_settle_60, ↓U_X7_does_0, ↓U_X7_does_72, ↓U_X7_does_78, ↓U_X7_does_83, ↓U_X7_does_100, ↓U_X7_does_107, ↓zthen_v, ↓zthen_0, zU_eq, zU_nc, zU_nj, l0, l1a, l2a, o2]
  · rw [e] at cs l0
    have l1a := l1 1 (by omega) (by rw [e]; decide)
    have l2a := l1 2 (by omega) (by rw [e]; decide)
    rw [show nmX σ 1 (p + 1) = dig σ (p + 1) from if_neg (by omega)] at l1a
    rw [show nmX σ 2 (p + 2) = dig σ (p + 2) from if_neg (by omega)] at l2a
    obtain ⟨r, σ1, τ1, o1, o2, R1, F1, F2⟩ := op_settle (i := dig σ (p + 1)) (j := dig σ (p + 2)) R (by omega) (by omega)
    refine ⟨r, σ1, τ1, ?_, ?_, R1, F1, F2⟩
    · rw [S_X6_doClause]
      simp (disch := first | exact z_tt rfl | assumption | omega | (simp (disch := omega) only [zU_eq, zU_nc, zU_nj]; omega)) only [↓L_ald_n0, ↓F_g0_6, ↓L_ild_n1, ↓r_iconst, ↓r_iadd, ↓I_X4_digitAt_45, ↓L_ist_n3, ↓L_ist_n3L, ↓L_ist4, ↓L_ist4L, ↓I_X4_signAt_45, ↓r_lk, ↓W_X6_doClause_31_104, ↓W_X6_doClause_31_110, ↓W_X6_doClause_31_112, ↓W_X6_doClause_31_116, ↓W_X6_doClause_31_d, ↓L_ild_n3, ↓I_X6_parties_0, ↓r_ireturn, ↓I_X6_thing_0, ↓L_ild4, ↓L_ild_n2, ↓I_X4_numberIn_45, ↓I_X6_point_0, ↓I_X6_hold_0, ↓I_X6_settle_0, ↓U_X6_doClause_0, ↓U_X6_doClause_72, ↓U_X6_doClause_78, ↓U_X6_doClause_83, ↓U_X6_doClause_102, ↓U_X6_doClause_110, ↓zthen_v, ↓zthen_0, zU_eq, zU_nc, zU_nj, cs, c1, c2, o1]
    · rw [S_X7_does]
      simp (disch := first | exact z_tt rfl | assumption | omega | (simp (disch := omega) only [zU_eq, zU_nc, zU_nj]; omega)) only [↓L_ald_n0, ↓F_g60_19, ↓r_iconst, ↓L_ild_n1, ↓r_imul, ↓r_iadd, ↓A_g3, ↓A_g4, ↓A_g5, ↓A_g6, ↓A_g7, ↓A_g9, ↓A_g10, ↓A_g12, ↓A_g13, ↓A_g15, ↓A_g16, ↓A_g19, ↓A_g20, ↓A_g21, ↓A_g22, ↓A_g23, ↓A_g25, ↓A_g26, ↓A_g28, ↓A_g29, ↓A_g31, ↓A_g32, ↓A_g34, ↓A_g36, ↓A_g37, ↓A_g38, ↓A_g39, ↓A_g41, ↓A_g42, ↓A_g43, ↓A_g44, ↓A_g61, ↓A_g62, ↓A_g63, ↓A_g65, ↓A_g66, ↓A_g67, ↓A_g68, ↓A_g69, ↓A_g70, ↓A_gN, ↓A_gT, ↓A_gC, ↓L_ist_n2, ↓L_ist_n2L, ↓L_ist_n3, ↓L_ist_n3L, ↓r_lk, ↓W_X7_does_30_104, ↓W_X7_does_30_110, ↓W_X7_does_30_112, ↓W_X7_does_30_116, ↓W_X7_does_30_d, ↓L_ild_n2, ↓I_X7_parties_60, ↓r_ireturn, ↓I_X7_thing_60, ↓L_ild_n3, ↓I_X7_point_60, ↓I_X7_hold_60, ↓I_X7_settle_60, ↓U_X7_does_0, ↓U_X7_does_72, ↓U_X7_does_78, ↓U_X7_does_83, ↓U_X7_does_100, ↓U_X7_does_107, ↓zthen_v, ↓zthen_0, zU_eq, zU_nc, zU_nj, l0, l1a, l2a, o2]
  · rw [e, show dgB 112 = 3 from rfl] at he
    rw [e] at cs l0
    have l1a := l1 1 (by omega) (by rw [e]; decide)
    have l2a := l1 2 (by omega) (by rw [e]; decide)
    have l3a := l1 3 (by omega) (by rw [e]; decide)
    rw [show nmX σ 1 (p + 1) = dig σ (p + 1) from if_neg (by omega)] at l1a
    rw [show nmX σ 2 (p + 2) = dig σ (p + 2) from if_neg (by omega)] at l2a
    have b3 := dig_bd σ (p + 3)
    have b4 := dig_bd σ (p + 4)
    unfold eoE at he
    unfold nmX at l3a
    by_cases g : 0 ≤ dig σ (p + 4)
    · rw [if_pos ⟨e, by rw [show p + 1 + 3 = p + 4 by omega]; exact g⟩] at he
      rw [if_pos ⟨rfl, by rw [show p + 3 + 1 = p + 4 by omega]; exact g⟩, show p + 3 + 1 = p + 4 by omega] at l3a
      have c3 := c_X4_numberIn2 hT (i := p + 3) (by omega)
      rw [show p + 3 + 1 = p + 4 by omega, show p + 3 + 2 = eoc σ p by omega] at c3
      obtain ⟨r, σ1, τ1, o1, o2, R1, F1, F2⟩ := op_point (p := dig σ (p + 1)) (t := dig σ (p + 2)) (x := 10 * dig σ (p + 3) + dig σ (p + 4)) R.1 (by omega) (by omega) (by omega)
      obtain ⟨S1, S2, S3⟩ := RelA_Same R R1 F1 F2
      refine ⟨r, σ1, τ1, ?_, ?_, S1, S2, S3⟩
      · rw [S_X6_doClause]
        simp (disch := first | exact z_tt rfl | assumption | omega | (simp (disch := omega) only [zU_eq, zU_nc, zU_nj]; omega)) only [↓L_ald_n0, ↓F_g0_6, ↓L_ild_n1, ↓r_iconst, ↓r_iadd, ↓I_X4_digitAt_45, ↓L_ist_n3, ↓L_ist_n3L, ↓L_ist4, ↓L_ist4L, ↓I_X4_signAt_45, ↓r_lk, ↓W_X6_doClause_31_104, ↓W_X6_doClause_31_110, ↓W_X6_doClause_31_112, ↓W_X6_doClause_31_116, ↓W_X6_doClause_31_d, ↓L_ild_n3, ↓I_X6_parties_0, ↓r_ireturn, ↓I_X6_thing_0, ↓L_ild4, ↓L_ild_n2, ↓I_X4_numberIn_45, ↓I_X6_point_0, ↓I_X6_hold_0, ↓I_X6_settle_0, ↓U_X6_doClause_0, ↓U_X6_doClause_72, ↓U_X6_doClause_78, ↓U_X6_doClause_83, ↓U_X6_doClause_102, ↓U_X6_doClause_110, ↓zthen_v, ↓zthen_0, zU_eq, zU_nc, zU_nj, cs, c1, c2, c3, o1]
      · rw [S_X7_does]
        simp (disch := first | exact z_tt rfl | assumption | omega | (simp (disch := omega) only [zU_eq, zU_nc, zU_nj]; omega)) only [↓L_ald_n0, ↓F_g60_19, ↓r_iconst, ↓L_ild_n1, ↓r_imul, ↓r_iadd, ↓A_g3, ↓A_g4, ↓A_g5, ↓A_g6, ↓A_g7, ↓A_g9, ↓A_g10, ↓A_g12, ↓A_g13, ↓A_g15, ↓A_g16, ↓A_g19, ↓A_g20, ↓A_g21, ↓A_g22, ↓A_g23, ↓A_g25, ↓A_g26, ↓A_g28, ↓A_g29, ↓A_g31, ↓A_g32, ↓A_g34, ↓A_g36, ↓A_g37, ↓A_g38, ↓A_g39, ↓A_g41, ↓A_g42, ↓A_g43, ↓A_g44, ↓A_g61, ↓A_g62, ↓A_g63, ↓A_g65, ↓A_g66, ↓A_g67, ↓A_g68, ↓A_g69, ↓A_g70, ↓A_gN, ↓A_gT, ↓A_gC, ↓L_ist_n2, ↓L_ist_n2L, ↓L_ist_n3, ↓L_ist_n3L, ↓r_lk, ↓W_X7_does_30_104, ↓W_X7_does_30_110, ↓W_X7_does_30_112, ↓W_X7_does_30_116, ↓W_X7_does_30_d, ↓L_ild_n2, ↓I_X7_parties_60, ↓r_ireturn, ↓I_X7_thing_60, ↓L_ild_n3, ↓I_X7_point_60, ↓I_X7_hold_60, ↓I_X7_settle_60, ↓U_X7_does_0, ↓U_X7_does_72, ↓U_X7_does_78, ↓U_X7_does_83, ↓U_X7_does_100, ↓U_X7_does_107, ↓zthen_v, ↓zthen_0, zU_eq, zU_nc, zU_nj, l0, l1a, l2a, l3a, o2]
    · rw [if_neg (fun h => g (by rw [show p + 4 = p + 1 + 3 by omega]; exact h.2))] at he
      rw [if_neg (fun h => g (by rw [show p + 4 = p + 3 + 1 by omega]; exact h.2))] at l3a
      have c3 := c_X4_numberIn1 hT (i := p + 3) (by omega)
      rw [show p + 3 + 1 = eoc σ p by omega] at c3
      obtain ⟨r, σ1, τ1, o1, o2, R1, F1, F2⟩ := op_point (p := dig σ (p + 1)) (t := dig σ (p + 2)) (x := dig σ (p + 3)) R.1 (by omega) (by omega) (by omega)
      obtain ⟨S1, S2, S3⟩ := RelA_Same R R1 F1 F2
      refine ⟨r, σ1, τ1, ?_, ?_, S1, S2, S3⟩
      · rw [S_X6_doClause]
        simp (disch := first | exact z_tt rfl | assumption | omega | (simp (disch := omega) only [zU_eq, zU_nc, zU_nj]; omega)) only [↓L_ald_n0, ↓F_g0_6, ↓L_ild_n1, ↓r_iconst, ↓r_iadd, ↓I_X4_digitAt_45, ↓L_ist_n3, ↓L_ist_n3L, ↓L_ist4, ↓L_ist4L, ↓I_X4_signAt_45, ↓r_lk, ↓W_X6_doClause_31_104, ↓W_X6_doClause_31_110, ↓W_X6_doClause_31_112, ↓W_X6_doClause_31_116, ↓W_X6_doClause_31_d, ↓L_ild_n3, ↓I_X6_parties_0, ↓r_ireturn, ↓I_X6_thing_0, ↓L_ild4, ↓L_ild_n2, ↓I_X4_numberIn_45, ↓I_X6_point_0, ↓I_X6_hold_0, ↓I_X6_settle_0, ↓U_X6_doClause_0, ↓U_X6_doClause_72, ↓U_X6_doClause_78, ↓U_X6_doClause_83, ↓U_X6_doClause_102, ↓U_X6_doClause_110, ↓zthen_v, ↓zthen_0, zU_eq, zU_nc, zU_nj, cs, c1, c2, c3, o1]
      · rw [S_X7_does]
        simp (disch := first | exact z_tt rfl | assumption | omega | (simp (disch := omega) only [zU_eq, zU_nc, zU_nj]; omega)) only [↓L_ald_n0, ↓F_g60_19, ↓r_iconst, ↓L_ild_n1, ↓r_imul, ↓r_iadd, ↓A_g3, ↓A_g4, ↓A_g5, ↓A_g6, ↓A_g7, ↓A_g9, ↓A_g10, ↓A_g12, ↓A_g13, ↓A_g15, ↓A_g16, ↓A_g19, ↓A_g20, ↓A_g21, ↓A_g22, ↓A_g23, ↓A_g25, ↓A_g26, ↓A_g28, ↓A_g29, ↓A_g31, ↓A_g32, ↓A_g34, ↓A_g36, ↓A_g37, ↓A_g38, ↓A_g39, ↓A_g41, ↓A_g42, ↓A_g43, ↓A_g44, ↓A_g61, ↓A_g62, ↓A_g63, ↓A_g65, ↓A_g66, ↓A_g67, ↓A_g68, ↓A_g69, ↓A_g70, ↓A_gN, ↓A_gT, ↓A_gC, ↓L_ist_n2, ↓L_ist_n2L, ↓L_ist_n3, ↓L_ist_n3L, ↓r_lk, ↓W_X7_does_30_104, ↓W_X7_does_30_110, ↓W_X7_does_30_112, ↓W_X7_does_30_116, ↓W_X7_does_30_d, ↓L_ild_n2, ↓I_X7_parties_60, ↓r_ireturn, ↓I_X7_thing_60, ↓L_ild_n3, ↓I_X7_point_60, ↓I_X7_hold_60, ↓I_X7_settle_60, ↓U_X7_does_0, ↓U_X7_does_72, ↓U_X7_does_78, ↓U_X7_does_83, ↓U_X7_does_100, ↓U_X7_does_107, ↓zthen_v, ↓zthen_0, zU_eq, zU_nc, zU_nj, l0, l1a, l2a, l3a, o2]
