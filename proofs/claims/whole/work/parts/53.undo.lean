/-! the set-up that stands and the one that is kept -/
def RelT (σ τ : zM) : Prop := Rel1 σ τ ∧ ((σ 0 2 = 1 ∧ τ 60 3 = 1 ∧ RelK σ τ) ∨ (σ 0 2 = 0 ∧ τ 60 3 = 0))
set_option maxRecDepth 20000 in
set_option maxHeartbeats 4000000 in
theorem op_image {σ τ : zM} (R : RelT σ τ) : ∃ r σ1 τ1, zcall 78 [vR 0] σ = some (some (vI r), σ1) ∧ zcall 182 [vR 60] τ = some (some (vI r), τ1) ∧ RelT σ1 τ1 ∧ (∀ c j, (c < 0 ∨ 32 < c) → σ1 c j = σ c j) ∧ (∀ c j, c < 60 ∨ 62 < c → τ1 c j = τ c j) ∧ (∀ j, (j < 2 ∨ 2 < j) → σ1 0 j = σ 0 j) ∧ (∀ j, (j < 3 ∨ 3 < j) → τ1 60 j = τ 60 j) := by
  have hm := R.1.m
  have e11 : becS σ 17 1 1 1 = σ 1 1 := becS_Kfr σ 1 1 (by omega)
  have et : zCpy τ 61 0 62 0 82 61 1 = τ 61 1 := zCpy_nc _ _ _ _ _ _ _ _ (by omega)
  refine ⟨σ 1 1, zU (becS σ 17 1) 0 2 1, zU (zCpy τ 61 0 62 0 82) 60 3 1, ?_, ?_, ⟨?_, Or.inl ⟨zU_eq _ _ _ _, zU_eq _ _ _ _, ?_⟩⟩, fun c j h => ?_, fun c j h => ?_, fun j h => ?_, fun j h => ?_⟩
  · rw [S_X6_image]
    simp (disch := first | exact z_tt rfl | assumption | omega | (simp (disch := omega) only [zU_eq, zU_nc, zU_nj]; omega)) only [↓L_ald_n0, ↓F_g0_1, ↓F_g0_0, ↓I_X2_become_1, ↓I_X2_become_17, ↓r_iconst, ↓F_p0_2, ↓F_g1_1, ↓F_g17_1, ↓r_ireturn, ↓U_X6_image_0, ↓zthen_v, ↓zthen_0, zU_eq, zU_nc, zU_nj, c_X2_become_17, e11]
  · rw [S_X7_image, ← hm.2.2]
    simp (disch := first | exact z_tt rfl | assumption | omega | (simp (disch := omega) only [zU_eq, zU_nc, zU_nj]; omega)) only [↓L_ald_n0, ↓F_g60_0, ↓r_iconst, ↓F_g60_1, ↓r_bipush, ↓A_c6, ↓A_c5, ↓A_c8, ↓A_c82, ↓A_c60, ↓A_c360, ↓F_p60_3, ↓A_g3, ↓A_g4, ↓A_g5, ↓A_g6, ↓A_g7, ↓A_g9, ↓A_g10, ↓A_g12, ↓A_g13, ↓A_g15, ↓A_g16, ↓A_g19, ↓A_g20, ↓A_g21, ↓A_g22, ↓A_g23, ↓A_g25, ↓A_g26, ↓A_g28, ↓A_g29, ↓A_g31, ↓A_g32, ↓A_g34, ↓A_g36, ↓A_g37, ↓A_g38, ↓A_g39, ↓A_g41, ↓A_g42, ↓A_g43, ↓A_g44, ↓A_g61, ↓A_g62, ↓A_g63, ↓A_g65, ↓A_g66, ↓A_g67, ↓A_g68, ↓A_g69, ↓A_g70, ↓A_gN, ↓A_gT, ↓A_gC, ↓r_ireturn, ↓U_X7_image_0, ↓zthen_v, ↓zthen_0, zU_eq, zU_nc, zU_nj, et]
  · have F : ∀ c j, 1 ≤ c → c ≤ 16 → zU (becS σ 17 1) 0 2 1 c j = σ c j := fun c j h1 h2 => by
      rw [zU_nc _ _ _ _ _ _ (by omega), becS_Kfr _ _ _ (by omega)]
    have G : ∀ j, zU (zCpy τ 61 0 62 0 82) 60 3 1 61 j = τ 61 j := fun j => by
      rw [zU_nc _ _ _ _ _ _ (by omega), zCpy_nc _ _ _ _ _ _ _ _ (by omega)]
    exact ⟨RSa_fr R.1.1 (fun j _ => F _ _ (by omega) (by omega)) (fun p j h1 h2 => F _ _ (by omega) (by omega)) (fun j => F _ _ (by omega) (by omega)) (fun j _ => G j), RSs_fr R.1.2.1 (F _ _ (by omega) (by omega)) (fun k => F _ _ (by omega) (by omega)) (fun k => F _ _ (by omega) (by omega)) (fun j _ => G j), RSe_fr R.1.2.2.1 (F _ _ (by omega) (by omega)) (fun k => F _ _ (by omega) (by omega)) (fun k => F _ _ (by omega) (by omega)) (fun j _ => G j), RSb_fr R.1.2.2.2 (F _ _ (by omega) (by omega)) (fun k => F _ _ (by omega) (by omega)) (fun k => F _ _ (by omega) (by omega)) (fun j _ => G j)⟩
  · refine becS_Krel R.1 (fun c j h1 h2 => zU_nc _ _ _ _ _ _ (by omega)) (fun j h1 h2 => ?_)
    rw [zU_nc _ _ _ _ _ _ (by omega), zCpy_in _ _ _ _ _ _ _ (by omega)]
    congr 1
    omega
  · rw [zU_nc _ _ _ _ _ _ (by omega), becS_Kfr _ _ _ (by omega)]
  · rw [zU_nc _ _ _ _ _ _ (by omega), zCpy_nc _ _ _ _ _ _ _ _ (by omega)]
  · rw [zU_nj _ _ _ _ _ (by omega), becS_Kfr _ _ _ (by omega)]
  · rw [zU_nj _ _ _ _ _ (by omega), zCpy_nc _ _ _ _ _ _ _ _ (by omega)]
set_option maxRecDepth 20000 in
set_option maxHeartbeats 4000000 in
theorem op_undo {σ τ : zM} (R : RelT σ τ) : ∃ r σ1 τ1, zcall 79 [vR 0] σ = some (some (vI r), σ1) ∧ zcall 183 [vR 60] τ = some (some (vI r), τ1) ∧ RelT σ1 τ1 ∧ FrC σ σ1 ∧ FrM τ τ1 := by
  rcases R.2 with ⟨k1, k2, K⟩ | ⟨k1, k2⟩
  · have hm := K.m
    have e11 : becS σ 1 17 1 1 = σ 17 1 := becS_N0 σ 1 (by omega)
    have et : zCpy τ 62 0 61 0 82 61 1 = τ 62 1 := by
      rw [zCpy_in _ _ _ _ _ _ _ (by omega)]
      congr 1
    refine ⟨σ 17 1, becS σ 1 17, zCpy τ 62 0 61 0 82, ?_, ?_, ⟨?_, Or.inl ⟨?_, ?_, ?_⟩⟩, fun c j h => ?_, fun c j h => ?_⟩
    · rw [S_X6_undo]
      simp (disch := first | exact z_tt rfl | assumption | omega | (simp (disch := omega) only [zU_eq, zU_nc, zU_nj]; omega)) only [↓L_ald_n0, ↓F_g0_2, ↓r_ifne_t, ↓r_ifne_f, ↓J_X6_undo_10, ↓r_bipush, ↓r_ireturn, ↓F_g0_0, ↓F_g0_1, ↓I_X2_become_1, ↓I_X2_become_17, ↓F_g1_1, ↓F_g17_1, ↓U_X6_undo_0, ↓U_X6_undo_10, ↓zthen_v, ↓zthen_0, zU_eq, zU_nc, zU_nj, c_X2_become_1, e11, k1]
    · rw [S_X7_undo, ← hm.2.2]
      simp (disch := first | exact z_tt rfl | assumption | omega | (simp (disch := omega) only [zU_eq, zU_nc, zU_nj]; omega)) only [↓L_ald_n0, ↓F_g60_3, ↓r_ifne_t, ↓r_ifne_f, ↓J_X7_undo_10, ↓r_bipush, ↓r_ireturn, ↓F_g60_1, ↓r_iconst, ↓F_g60_0, ↓A_c6, ↓A_c5, ↓A_c8, ↓A_c82, ↓A_c60, ↓A_c360, ↓A_g3, ↓A_g4, ↓A_g5, ↓A_g6, ↓A_g7, ↓A_g9, ↓A_g10, ↓A_g12, ↓A_g13, ↓A_g15, ↓A_g16, ↓A_g19, ↓A_g20, ↓A_g21, ↓A_g22, ↓A_g23, ↓A_g25, ↓A_g26, ↓A_g28, ↓A_g29, ↓A_g31, ↓A_g32, ↓A_g34, ↓A_g36, ↓A_g37, ↓A_g38, ↓A_g39, ↓A_g41, ↓A_g42, ↓A_g43, ↓A_g44, ↓A_g61, ↓A_g62, ↓A_g63, ↓A_g65, ↓A_g66, ↓A_g67, ↓A_g68, ↓A_g69, ↓A_g70, ↓A_gN, ↓A_gT, ↓A_gC, ↓U_X7_undo_0, ↓U_X7_undo_10, ↓zthen_v, ↓zthen_0, zU_eq, zU_nc, zU_nj, et, k2]
    · refine becS_Nrel K (fun c j h1 h2 => rfl) (fun j h1 h2 => ?_)
      rw [zCpy_in _ _ _ _ _ _ _ (by omega)]
      congr 1
      omega
    · rw [becS_Nfr _ _ _ (by omega)]; exact k1
    · rw [zCpy_nc _ _ _ _ _ _ _ _ (by omega)]; exact k2
    · have F : ∀ c j, 17 ≤ c → c ≤ 32 → becS σ 1 17 c j = σ c j := fun c j h1 h2 => becS_Nfr _ _ _ (by omega)
      have G : ∀ j, zCpy τ 62 0 61 0 82 62 j = τ 62 j := fun j => zCpy_nc _ _ _ _ _ _ _ _ (by omega)
      exact ⟨RSa_fr K.1 (fun j _ => F _ _ (by omega) (by omega)) (fun p j h1 h2 => F _ _ (by omega) (by omega)) (fun j => F _ _ (by omega) (by omega)) (fun j _ => G j), RSs_fr K.2.1 (F _ _ (by omega) (by omega)) (fun k => F _ _ (by omega) (by omega)) (fun k => F _ _ (by omega) (by omega)) (fun j _ => G j), RSe_fr K.2.2.1 (F _ _ (by omega) (by omega)) (fun k => F _ _ (by omega) (by omega)) (fun k => F _ _ (by omega) (by omega)) (fun j _ => G j), RSb_fr K.2.2.2 (F _ _ (by omega) (by omega)) (fun k => F _ _ (by omega) (by omega)) (fun k => F _ _ (by omega) (by omega)) (fun j _ => G j)⟩
    · exact becS_Nfr _ _ _ (by omega)
    · exact zCpy_nc _ _ _ _ _ _ _ _ (by omega)
  · refine ⟨-3, σ, τ, ?_, ?_, R, FrC_rfl σ, FrM_rfl τ⟩
    · rw [S_X6_undo]
      simp (disch := first | exact z_tt rfl | assumption | omega | (simp (disch := omega) only [zU_eq, zU_nc, zU_nj]; omega)) only [↓L_ald_n0, ↓F_g0_2, ↓r_ifne_t, ↓r_ifne_f, ↓J_X6_undo_10, ↓r_bipush, ↓r_ireturn, ↓F_g0_0, ↓F_g0_1, ↓I_X2_become_1, ↓I_X2_become_17, ↓F_g1_1, ↓F_g17_1, ↓U_X6_undo_0, ↓U_X6_undo_10, ↓zthen_v, ↓zthen_0, zU_eq, zU_nc, zU_nj, k1]
    · rw [S_X7_undo]
      simp (disch := first | exact z_tt rfl | assumption | omega | (simp (disch := omega) only [zU_eq, zU_nc, zU_nj]; omega)) only [↓L_ald_n0, ↓F_g60_3, ↓r_ifne_t, ↓r_ifne_f, ↓J_X7_undo_10, ↓r_bipush, ↓r_ireturn, ↓F_g60_1, ↓r_iconst, ↓F_g60_0, ↓A_c6, ↓A_c5, ↓A_c8, ↓A_c82, ↓A_c60, ↓A_c360, ↓A_g3, ↓A_g4, ↓A_g5, ↓A_g6, ↓A_g7, ↓A_g9, ↓A_g10, ↓A_g12, ↓A_g13, ↓A_g15, ↓A_g16, ↓A_g19, ↓A_g20, ↓A_g21, ↓A_g22, ↓A_g23, ↓A_g25, ↓A_g26, ↓A_g28, ↓A_g29, ↓A_g31, ↓A_g32, ↓A_g34, ↓A_g36, ↓A_g37, ↓A_g38, ↓A_g39, ↓A_g41, ↓A_g42, ↓A_g43, ↓A_g44, ↓A_g61, ↓A_g62, ↓A_g63, ↓A_g65, ↓A_g66, ↓A_g67, ↓A_g68, ↓A_g69, ↓A_g70, ↓A_gN, ↓A_gT, ↓A_gC, ↓U_X7_undo_0, ↓U_X7_undo_10, ↓zthen_v, ↓zthen_0, zU_eq, zU_nc, zU_nj, k2]
