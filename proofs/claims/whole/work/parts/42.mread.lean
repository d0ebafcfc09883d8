/-! a clause, and all clauses, in the reference -/
theorem dgB_112 (x : Int) : dgB x = 3 ↔ x = 112 := by
  unfold dgB
  by_cases h1 : x = 116
  · rw [if_pos h1]; omega
  · rw [if_neg h1]
    by_cases h2 : x = 110
    · rw [if_pos h2]; omega
    · rw [if_neg h2]
      by_cases h3 : x = 104 ∨ x = 115
      · rw [if_pos h3]; omega
      · rw [if_neg h3]
        by_cases h4 : x = 112
        · rw [if_pos h4]; omega
        · rw [if_neg h4]; omega
theorem vw_TX {τ : zM} (h : TV τ) : TX (vw τ) := h
def CL (v s' : zM) (k p : Int) : Prop := s' 68 (4 * k) = sgn v p ∧ (∀ i : Int, 1 ≤ i → i ≤ dgB (sgn v p) → s' 68 (4 * k + i) = nmX v i (p + i))
theorem m_rc {τ : zM} {k : Int} (hT : TV τ) (hk : 0 ≤ k ∧ k < 14) (ha : 0 ≤ τ 60 18 ∧ τ 60 18 ≤ τ 60 17) :
    (eoc (vw τ) (τ 60 18) < 0 → ∃ s', zcall 167 [vR 60, vI k] τ = some (some (vI 0), s') ∧ s' 60 18 = -1 - eoc (vw τ) (τ 60 18) ∧ FrJ k 0 τ s') ∧
    (0 ≤ eoc (vw τ) (τ 60 18) → ∃ s', zcall 167 [vR 60, vI k] τ = some (some (vI 1), s') ∧ s' 60 18 = eoc (vw τ) (τ 60 18) ∧ s' 60 18 ≤ τ 60 17 ∧ FrJ k 0 τ s' ∧ CL (vw τ) s' k (τ 60 18)) := by
  have hfr : FrJ k 0 τ τ := fun c i _ _ => rfl
  by_cases q : τ 60 18 = τ 60 17
  · have e1 : eoc (vw τ) (τ 60 18) = -1 - τ 60 18 := by
      unfold eoc
      rw [vsgn_out (by omega), if_pos (by decide)]
    rw [e1]
    exact ⟨fun _ => ⟨τ, m_rc_end hT q, by omega, hfr⟩, fun h => by omega⟩
  · have es := vsgn (τ := τ) (b := τ 60 18) (by omega)
    have hm := dgB_bd (τ 67 (τ 60 18))
    have hx := hT.2 (τ 60 18) (by omega) (by have := hT.1; omega)
    have h3 := dgB_112 (τ 67 (τ 60 18))
    by_cases qm : dgB (τ 67 (τ 60 18)) = -1
    · have e1 : eoc (vw τ) (τ 60 18) = -1 - τ 60 18 := by
        unfold eoc
        rw [es, if_pos (by omega)]
      rw [e1]
      exact ⟨fun _ => ⟨τ, m_rc_bad hT (by omega) qm, by omega, hfr⟩, fun h => by omega⟩
    · have hst := m_rc_0 hT hk (by omega) _ rfl (by omega)
      have hF := rc0_fr τ k
      have e18 : rc0 τ k 60 18 = τ 60 18 + 1 := by
        unfold rc0
        rw [zU_eq]
      have e17 : rc0 τ k 60 17 = τ 60 17 := hF 60 17 (by omega) (by omega)
      have e68 : rc0 τ k 68 (4 * k) = τ 67 (τ 60 18) := by
        unfold rc0
        rw [zU_ow _ _ _ _ _ _ (by omega), zU_eq]
      have eV := FrJ_vw hF
      have I := m_rc_loop (k := k) (x := τ 67 (τ 60 18)) (m := dgB (τ 67 (τ 60 18))) hk (by omega) rfl (by omega) (dgB (τ 67 (τ 60 18))).toNat 1 (τ 60 18 + 1) vU (rc0 τ k) (FrJ_TV hF hT) e18 (by omega) (by rw [e17]; omega) (by omega) (by omega) (by omega)
      rw [eV, e17] at I
      have e1 : eoc (vw τ) (τ 60 18) = eoR (vw τ) (τ 60 18) (τ 60 18 + 1 + dgB (τ 67 (τ 60 18))) (eoD (vw τ) (τ 60 18 + 1) (dgB (τ 67 (τ 60 18))).toNat) := by
        unfold eoc
        rw [es, if_neg (by omega)]
        cases eoD (vw τ) (τ 60 18 + 1) (dgB (τ 67 (τ 60 18))).toNat <;> rfl
      rw [e1]
      cases hd : eoD (vw τ) (τ 60 18 + 1) (dgB (τ 67 (τ 60 18))).toNat with
      | some j =>
        have hjb := eoD_bd _ _ _ _ hd
        obtain ⟨s', r1, r2, r3, r4⟩ := I.1 j hd
        unfold eoR
        dsimp only
        exact ⟨fun _ => ⟨s', by rw [hst, r1], by omega, FrJ_trans (by omega) hF r4⟩, fun h => by omega⟩
      | none =>
        obtain ⟨s', r1, r2, r3, r4, r5⟩ := I.2 hd
        have hX : eoE (vw τ) (τ 60 18) (τ 60 18 + 1 + dgB (τ 67 (τ 60 18))) = eoX (dgB (τ 67 (τ 60 18))) (vw τ) (τ 60 18 + 1 + ((dgB (τ 67 (τ 60 18))).toNat : Int)) := by
          unfold eoE eoX
          rw [es, show (((dgB (τ 67 (τ 60 18))).toNat : Nat) : Int) = dgB (τ 67 (τ 60 18)) from by omega]
          by_cases q3 : τ 67 (τ 60 18) = 112
          · by_cases q4 : 0 ≤ dig (vw τ) (τ 60 18 + 1 + dgB (τ 67 (τ 60 18)))
            · rw [if_pos ⟨q3, q4⟩, if_pos ⟨h3.2 q3, q4⟩]
            · rw [if_neg (fun h => q4 h.2), if_neg (fun h => q4 h.2)]
          · rw [if_neg (fun h => q3 h.1), if_neg (fun h => q3 (h3.1 h.1))]
        have hEb := eoE_bd (vw τ) (τ 60 18) (τ 60 18 + 1 + dgB (τ 67 (τ 60 18)))
        unfold eoR
        dsimp only
        refine ⟨fun h => by omega, fun _ => ⟨s', by rw [hst, r1], by rw [r2, hX], r3, FrJ_trans (by omega) hF r4, ?_, ?_⟩⟩
        · rw [r4 68 _ (by omega) (by omega), e68, es]
        · intro i a1 a2
          rw [es] at a2
          rw [r5 i a1 a2]
          congr 1
          omega
def psn (v : zM) : Int → Nat → Int
  | a, 0 => a
  | a, q + 1 => psn v (eoc v a + 1) q
def nCl (v : zM) : Int → Nat → Nat
  | _, 0 => 0
  | a, n + 1 => if eoc v a = v 45 1 then 1 else nCl v (eoc v a + 1) n + 1
def Fr2 (s s' : zM) : Prop := ∀ c i : Int, (c = 60 → ¬ i = 18) → ¬ c = 68 → s' c i = s c i
theorem FrJ_Fr2 {k : Int} {s s' : zM} (h : FrJ k 0 s s') : Fr2 s s' := fun c i a b => h c i a (fun h => absurd h b)
theorem Fr2_trans {s s' s'' : zM} (h : Fr2 s s') (h' : Fr2 s' s'') : Fr2 s s'' := fun c i a b => by rw [h' c i a b, h c i a b]
theorem Fr2_vw {s s' : zM} (h : Fr2 s s') : vw s' = vw s := vw_eq (h 60 17 (by omega) (by omega)) (fun i => h 67 i (by omega) (by omega))
theorem Fr2_TV {s s' : zM} (h : Fr2 s s') (hT : TV s) : TV s' := by
  refine ⟨by rw [h 60 17 (by omega) (by omega)]; exact hT.1, fun i a b => by rw [h 67 i (by omega) (by omega)]; exact hT.2 i a b⟩
set_option maxRecDepth 20000 in
theorem m_ra_f0 {s s' : zM} {i : Int} (hc : zcall 167 [vR 60, vI i] s = some (some (vI 0), s')) : zres 168 C_X7_readsAll_7 [vR 60, vI i] [] s = some (some (vI (-1)), s') := by
  simp (disch := first | exact z_tt rfl | assumption | omega | (simp (disch := omega) only [zU_eq, zU_nc, zU_nj]; omega)) only [↓L_ald_n0, ↓r_iconst, ↓F_p60_18, ↓L_ist_n1, ↓L_ist_n1L, ↓L_ild_n1, ↓I_X7_readsClause_60, ↓r_ifeq_t, ↓r_ifeq_f, ↓J_X7_readsAll_66, ↓L_iinc1, ↓F_g60_18, ↓F_g60_17, ↓r_icne_t, ↓r_icne_f, ↓J_X7_readsAll_31, ↓r_ireturn, ↓F_g60_16, ↓A_g3, ↓A_g4, ↓A_g5, ↓A_g6, ↓A_g7, ↓A_g9, ↓A_g10, ↓A_g12, ↓A_g13, ↓A_g15, ↓A_g16, ↓A_g19, ↓A_g20, ↓A_g21, ↓A_g22, ↓A_g23, ↓A_g25, ↓A_g26, ↓A_g28, ↓A_g29, ↓A_g31, ↓A_g32, ↓A_g34, ↓A_g36, ↓A_g37, ↓A_g38, ↓A_g39, ↓A_g41, ↓A_g42, ↓A_g43, ↓A_g44, ↓A_g61, ↓A_g62, ↓A_g63, ↓A_g65, ↓A_g66, ↓A_g67, ↓A_g68, ↓A_g69, ↓A_g70, ↓A_gN, ↓A_gT, ↓A_gC, ↓r_bipush, ↓J_X7_readsAll_51, ↓J_X7_readsAll_53, ↓r_dupI, ↓r_dupR, ↓r_iadd, ↓r_goto, ↓J_X7_readsAll_7, ↓U_X7_readsAll_0, ↓U_X7_readsAll_7, ↓U_X7_readsAll_31, ↓U_X7_readsAll_51, ↓U_X7_readsAll_53, ↓U_X7_readsAll_66, ↓zthen_v, ↓zthen_0, zU_eq, zU_nc, zU_nj, hc]
set_option maxRecDepth 20000 in
theorem m_ra_end {s s' : zM} {i : Int} (hi : 0 ≤ i ∧ i < 14) (hc : zcall 167 [vR 60, vI i] s = some (some (vI 1), s')) (hT : TV s') (h : s' 60 18 = s' 60 17) : zres 168 C_X7_readsAll_7 [vR 60, vI i] [] s = some (some (vI (i + 1)), s') := by
  have h1 := hT.1
  simp (disch := first | exact z_tt rfl | assumption | omega | (simp (disch := omega) only [zU_eq, zU_nc, zU_nj]; omega)) only [↓L_ald_n0, ↓r_iconst, ↓F_p60_18, ↓L_ist_n1, ↓L_ist_n1L, ↓L_ild_n1, ↓I_X7_readsClause_60, ↓r_ifeq_t, ↓r_ifeq_f, ↓J_X7_readsAll_66, ↓L_iinc1, ↓F_g60_18, ↓F_g60_17, ↓r_icne_t, ↓r_icne_f, ↓J_X7_readsAll_31, ↓r_ireturn, ↓F_g60_16, ↓A_g3, ↓A_g4, ↓A_g5, ↓A_g6, ↓A_g7, ↓A_g9, ↓A_g10, ↓A_g12, ↓A_g13, ↓A_g15, ↓A_g16, ↓A_g19, ↓A_g20, ↓A_g21, ↓A_g22, ↓A_g23, ↓A_g25, ↓A_g26, ↓A_g28, ↓A_g29, ↓A_g31, ↓A_g32, ↓A_g34, ↓A_g36, ↓A_g37, ↓A_g38, ↓A_g39, ↓A_g41, ↓A_g42, ↓A_g43, ↓A_g44, ↓A_g61, ↓A_g62, ↓A_g63, ↓A_g65, ↓A_g66, ↓A_g67, ↓A_g68, ↓A_g69, ↓A_g70, ↓A_gN, ↓A_gT, ↓A_gC, ↓r_bipush, ↓J_X7_readsAll_51, ↓J_X7_readsAll_53, ↓r_dupI, ↓r_dupR, ↓r_iadd, ↓r_goto, ↓J_X7_readsAll_7, ↓U_X7_readsAll_0, ↓U_X7_readsAll_7, ↓U_X7_readsAll_31, ↓U_X7_readsAll_51, ↓U_X7_readsAll_53, ↓U_X7_readsAll_66, ↓zthen_v, ↓zthen_0, zU_eq, zU_nc, zU_nj, hc]
set_option maxRecDepth 20000 in
theorem m_ra_f1 {s s' : zM} {i : Int} (hi : 0 ≤ i ∧ i < 14) (hc : zcall 167 [vR 60, vI i] s = some (some (vI 1), s')) (hT : TV s') (h : 0 ≤ s' 60 18 ∧ s' 60 18 < s' 60 17) (hg : ¬ s' 67 (s' 60 18) = 59) : zres 168 C_X7_readsAll_7 [vR 60, vI i] [] s = some (some (vI (-1)), s') := by
  have h1 := hT.1
  have h2 := hT.2 (s' 60 18) (by omega) (by omega)
  simp (disch := first | exact z_tt rfl | assumption | omega | (simp (disch := omega) only [zU_eq, zU_nc, zU_nj]; omega)) only [↓L_ald_n0, ↓r_iconst, ↓F_p60_18, ↓L_ist_n1, ↓L_ist_n1L, ↓L_ild_n1, ↓I_X7_readsClause_60, ↓r_ifeq_t, ↓r_ifeq_f, ↓J_X7_readsAll_66, ↓L_iinc1, ↓F_g60_18, ↓F_g60_17, ↓r_icne_t, ↓r_icne_f, ↓J_X7_readsAll_31, ↓r_ireturn, ↓F_g60_16, ↓A_g3, ↓A_g4, ↓A_g5, ↓A_g6, ↓A_g7, ↓A_g9, ↓A_g10, ↓A_g12, ↓A_g13, ↓A_g15, ↓A_g16, ↓A_g19, ↓A_g20, ↓A_g21, ↓A_g22, ↓A_g23, ↓A_g25, ↓A_g26, ↓A_g28, ↓A_g29, ↓A_g31, ↓A_g32, ↓A_g34, ↓A_g36, ↓A_g37, ↓A_g38, ↓A_g39, ↓A_g41, ↓A_g42, ↓A_g43, ↓A_g44, ↓A_g61, ↓A_g62, ↓A_g63, ↓A_g65, ↓A_g66, ↓A_g67, ↓A_g68, ↓A_g69, ↓A_g70, ↓A_gN, ↓A_gT, ↓A_gC, ↓r_bipush, ↓J_X7_readsAll_51, ↓J_X7_readsAll_53, ↓r_dupI, ↓r_dupR, ↓r_iadd, ↓r_goto, ↓J_X7_readsAll_7, ↓U_X7_readsAll_0, ↓U_X7_readsAll_7, ↓U_X7_readsAll_31, ↓U_X7_readsAll_51, ↓U_X7_readsAll_53, ↓U_X7_readsAll_66, ↓zthen_v, ↓zthen_0, zU_eq, zU_nc, zU_nj, hc]
set_option maxRecDepth 20000 in
theorem m_ra_f2 {s s' : zM} {i : Int} (hi : i = 13) (hc : zcall 167 [vR 60, vI i] s = some (some (vI 1), s')) (hT : TV s') (h : 0 ≤ s' 60 18 ∧ s' 60 18 < s' 60 17) : zres 168 C_X7_readsAll_7 [vR 60, vI i] [] s = some (some (vI (-1)), s') := by
  have h1 := hT.1
  have h2 := hT.2 (s' 60 18) (by omega) (by omega)
  by_cases hg : s' 67 (s' 60 18) = 59
  · simp (disch := first | exact z_tt rfl | assumption | omega | (simp (disch := omega) only [zU_eq, zU_nc, zU_nj]; omega)) only [↓L_ald_n0, ↓r_iconst, ↓F_p60_18, ↓L_ist_n1, ↓L_ist_n1L, ↓L_ild_n1, ↓I_X7_readsClause_60, ↓r_ifeq_t, ↓r_ifeq_f, ↓J_X7_readsAll_66, ↓L_iinc1, ↓F_g60_18, ↓F_g60_17, ↓r_icne_t, ↓r_icne_f, ↓J_X7_readsAll_31, ↓r_ireturn, ↓F_g60_16, ↓A_g3, ↓A_g4, ↓A_g5, ↓A_g6, ↓A_g7, ↓A_g9, ↓A_g10, ↓A_g12, ↓A_g13, ↓A_g15, ↓A_g16, ↓A_g19, ↓A_g20, ↓A_g21, ↓A_g22, ↓A_g23, ↓A_g25, ↓A_g26, ↓A_g28, ↓A_g29, ↓A_g31, ↓A_g32, ↓A_g34, ↓A_g36, ↓A_g37, ↓A_g38, ↓A_g39, ↓A_g41, ↓A_g42, ↓A_g43, ↓A_g44, ↓A_g61, ↓A_g62, ↓A_g63, ↓A_g65, ↓A_g66, ↓A_g67, ↓A_g68, ↓A_g69, ↓A_g70, ↓A_gN, ↓A_gT, ↓A_gC, ↓r_bipush, ↓J_X7_readsAll_51, ↓J_X7_readsAll_53, ↓r_dupI, ↓r_dupR, ↓r_iadd, ↓r_goto, ↓J_X7_readsAll_7, ↓U_X7_readsAll_0, ↓U_X7_readsAll_7, ↓U_X7_readsAll_31, ↓U_X7_readsAll_51, ↓U_X7_readsAll_53, ↓U_X7_readsAll_66, ↓zthen_v, ↓zthen_0, zU_eq, zU_nc, zU_nj, hc]
  · simp (disch := first | exact z_tt rfl | assumption | omega | (simp (disch := omega) only [zU_eq, zU_nc, zU_nj]; omega)) only [↓L_ald_n0, ↓r_iconst, ↓F_p60_18, ↓L_ist_n1, ↓L_ist_n1L, ↓L_ild_n1, ↓I_X7_readsClause_60, ↓r_ifeq_t, ↓r_ifeq_f, ↓J_X7_readsAll_66, ↓L_iinc1, ↓F_g60_18, ↓F_g60_17, ↓r_icne_t, ↓r_icne_f, ↓J_X7_readsAll_31, ↓r_ireturn, ↓F_g60_16, ↓A_g3, ↓A_g4, ↓A_g5, ↓A_g6, ↓A_g7, ↓A_g9, ↓A_g10, ↓A_g12, ↓A_g13, ↓A_g15, ↓A_g16, ↓A_g19, ↓A_g20, ↓A_g21, ↓A_g22, ↓A_g23, ↓A_g25, ↓A_g26, ↓A_g28, ↓A_g29, ↓A_g31, ↓A_g32, ↓A_g34, ↓A_g36, ↓A_g37, ↓A_g38, ↓A_g39, ↓A_g41, ↓A_g42, ↓A_g43, ↓A_g44, ↓A_g61, ↓A_g62, ↓A_g63, ↓A_g65, ↓A_g66, ↓A_g67, ↓A_g68, ↓A_g69, ↓A_g70, ↓A_gN, ↓A_gT, ↓A_gC, ↓r_bipush, ↓J_X7_readsAll_51, ↓J_X7_readsAll_53, ↓r_dupI, ↓r_dupR, ↓r_iadd, ↓r_goto, ↓J_X7_readsAll_7, ↓U_X7_readsAll_0, ↓U_X7_readsAll_7, ↓U_X7_readsAll_31, ↓U_X7_readsAll_51, ↓U_X7_readsAll_53, ↓U_X7_readsAll_66, ↓zthen_v, ↓zthen_0, zU_eq, zU_nc, zU_nj, hc]
set_option maxRecDepth 20000 in
theorem m_ra_go {s s' : zM} {i : Int} (hi : 0 ≤ i ∧ i < 13) (hc : zcall 167 [vR 60, vI i] s = some (some (vI 1), s')) (hT : TV s') (h : 0 ≤ s' 60 18 ∧ s' 60 18 < s' 60 17) (hg : s' 67 (s' 60 18) = 59) : zres 168 C_X7_readsAll_7 [vR 60, vI i] [] s = zres 168 C_X7_readsAll_7 [vR 60, vI (i + 1)] [] (zU s' 60 18 (s' 60 18 + 1)) := by
  have h1 := hT.1
  have h2 := hT.2 (s' 60 18) (by omega) (by omega)
  rw [U_X7_readsAll_7]
  simp (disch := first | exact z_tt rfl | assumption | omega | (simp (disch := omega) only [zU_eq, zU_nc, zU_nj]; omega)) only [↓L_ald_n0, ↓r_iconst, ↓F_p60_18, ↓L_ist_n1, ↓L_ist_n1L, ↓L_ild_n1, ↓I_X7_readsClause_60, ↓r_ifeq_t, ↓r_ifeq_f, ↓J_X7_readsAll_66, ↓L_iinc1, ↓F_g60_18, ↓F_g60_17, ↓r_icne_t, ↓r_icne_f, ↓J_X7_readsAll_31, ↓r_ireturn, ↓F_g60_16, ↓A_g3, ↓A_g4, ↓A_g5, ↓A_g6, ↓A_g7, ↓A_g9, ↓A_g10, ↓A_g12, ↓A_g13, ↓A_g15, ↓A_g16, ↓A_g19, ↓A_g20, ↓A_g21, ↓A_g22, ↓A_g23, ↓A_g25, ↓A_g26, ↓A_g28, ↓A_g29, ↓A_g31, ↓A_g32, ↓A_g34, ↓A_g36, ↓A_g37, ↓A_g38, ↓A_g39, ↓A_g41, ↓A_g42, ↓A_g43, ↓A_g44, ↓A_g61, ↓A_g62, ↓A_g63, ↓A_g65, ↓A_g66, ↓A_g67, ↓A_g68, ↓A_g69, ↓A_g70, ↓A_gN, ↓A_gT, ↓A_gC, ↓r_bipush, ↓J_X7_readsAll_51, ↓J_X7_readsAll_53, ↓r_dupI, ↓r_dupR, ↓r_iadd, ↓r_goto, ↓J_X7_readsAll_7, ↓U_X7_readsAll_0, ↓U_X7_readsAll_31, ↓U_X7_readsAll_51, ↓U_X7_readsAll_53, ↓U_X7_readsAll_66, ↓zthen_v, ↓zthen_0, zU_eq, zU_nc, zU_nj, hc]
theorem m_ra_loop : ∀ (n : Nat) (i : Int) (s : zM), TV s → 0 ≤ s 60 18 → s 60 18 ≤ s 60 17 → 0 ≤ i → i + (n + 1 : Nat) = 14 →
    (0 ≤ flt (vw s) (s 60 18) (n + 1) → ∃ s', zres 168 C_X7_readsAll_7 [vR 60, vI i] [] s = some (some (vI (-1)), s') ∧ s' 60 18 = flt (vw s) (s 60 18) (n + 1) ∧ Fr2 s s') ∧
    (flt (vw s) (s 60 18) (n + 1) < 0 → ∃ s', zres 168 C_X7_readsAll_7 [vR 60, vI i] [] s = some (some (vI (i + (nCl (vw s) (s 60 18) (n + 1) : Nat))), s') ∧ Fr2 s s' ∧ (∀ c, c < 4 * i → s' 68 c = s 68 c) ∧ (∀ q : Nat, q < nCl (vw s) (s 60 18) (n + 1) → CL (vw s) s' (i + q) (psn (vw s) (s 60 18) q))) := by
  intro n
  induction n with
  | zero =>
    intro i s hT ha hl hi hn
    have M := m_rc (k := i) hT (by omega) ⟨ha, hl⟩
    have e45 : vw s 45 1 = s 60 17 := rfl
    unfold flt
    by_cases q1 : eoc (vw s) (s 60 18) < 0
    · rw [if_pos q1]
      obtain ⟨s', r1, r2, r3⟩ := M.1 q1
      exact ⟨fun _ => ⟨s', m_ra_f0 r1, r2, FrJ_Fr2 r3⟩, fun h => by omega⟩
    · rw [if_neg q1]
      obtain ⟨s', r1, r2, r3, r4, r5⟩ := M.2 (by omega)
      have hT' := FrJ_TV r4 hT
      have e17 : s' 60 17 = s 60 17 := r4 60 17 (by omega) (by omega)
      by_cases q2 : eoc (vw s) (s 60 18) = vw s 45 1
      · rw [if_pos q2]
        have hN : nCl (vw s) (s 60 18) (0 + 1) = 1 := by
          unfold nCl
          rw [if_pos q2]
        rw [hN]
        refine ⟨fun h => by omega, fun _ => ⟨s', m_ra_end (by omega) r1 hT' (by omega), FrJ_Fr2 r4, fun c hc => r4 68 c (by omega) (by omega), fun q hq => ?_⟩⟩
        have hq0 : q = 0 := by omega
        subst hq0
        rw [show i + ((0 : Nat) : Int) = i from by omega]
        exact r5
      · rw [if_neg q2, if_pos (Or.inl rfl)]
        exact ⟨fun _ => ⟨s', m_ra_f2 (by omega) r1 hT' (by omega), r2, FrJ_Fr2 r4⟩, fun h => absurd h q1⟩
  | succ n ih =>
    intro i s hT ha hl hi hn
    have M := m_rc (k := i) hT (by omega) ⟨ha, hl⟩
    have e45 : vw s 45 1 = s 60 17 := rfl
    rw [flt]
    by_cases q1 : eoc (vw s) (s 60 18) < 0
    · rw [if_pos q1]
      obtain ⟨s', r1, r2, r3⟩ := M.1 q1
      exact ⟨fun _ => ⟨s', m_ra_f0 r1, r2, FrJ_Fr2 r3⟩, fun h => by omega⟩
    · rw [if_neg q1]
      obtain ⟨s', r1, r2, r3, r4, r5⟩ := M.2 (by omega)
      have hT' := FrJ_TV r4 hT
      have e17 : s' 60 17 = s 60 17 := r4 60 17 (by omega) (by omega)
      have e67 : ∀ j, s' 67 j = s 67 j := fun j => r4 67 j (by omega) (by omega)
      by_cases q2 : eoc (vw s) (s 60 18) = vw s 45 1
      · rw [if_pos q2]
        have hN : nCl (vw s) (s 60 18) (n + 1 + 1) = 1 := by
          rw [nCl, if_pos q2]
        rw [hN]
        refine ⟨fun h => by omega, fun _ => ⟨s', m_ra_end (by omega) r1 hT' (by omega), FrJ_Fr2 r4, fun c hc => r4 68 c (by omega) (by omega), fun q hq => ?_⟩⟩
        have hq0 : q = 0 := by omega
        subst hq0
        rw [show i + ((0 : Nat) : Int) = i from by omega]
        exact r5
      · rw [if_neg q2]
        have eg : sgn (vw s) (eoc (vw s) (s 60 18)) = s' 67 (s' 60 18) := by
          rw [vsgn (by omega), e67, r2]
        by_cases q3 : sgn (vw s) (eoc (vw s) (s 60 18)) = 59
        · rw [if_neg (by omega)]
          have hgo := m_ra_go (i := i) (by omega) r1 hT' (by omega) (by omega)
          have hF : Fr2 s (zU s' 60 18 (s' 60 18 + 1)) := fun c j h1 h2 => by
            rw [zU_ow _ _ _ _ _ _ h1]
            exact FrJ_Fr2 r4 c j h1 h2
          have e18 : zU s' 60 18 (s' 60 18 + 1) 60 18 = eoc (vw s) (s 60 18) + 1 := by rw [zU_eq, r2]
          have e17' : zU s' 60 18 (s' 60 18 + 1) 60 17 = s 60 17 := hF 60 17 (by omega) (by omega)
          have I := ih (i + 1) (zU s' 60 18 (s' 60 18 + 1)) (Fr2_TV hF hT) (by rw [e18]; omega) (by rw [e18, e17']; omega) (by omega) (by omega)
          rw [e18, Fr2_vw hF] at I
          have hN : nCl (vw s) (s 60 18) (n + 1 + 1) = nCl (vw s) (eoc (vw s) (s 60 18) + 1) (n + 1) + 1 := by
            rw [nCl, if_neg q2]
          refine ⟨fun h => ?_, fun h => ?_⟩
          · obtain ⟨s2, t1, t2, t3⟩ := I.1 h
            exact ⟨s2, by rw [hgo, t1], t2, Fr2_trans hF t3⟩
          · obtain ⟨s2, t1, t2, t3, t4⟩ := I.2 h
            rw [hN]
            refine ⟨s2, by rw [hgo, t1, show i + ((nCl (vw s) (eoc (vw s) (s 60 18) + 1) (n + 1) + 1 : Nat) : Int) = i + 1 + (nCl (vw s) (eoc (vw s) (s 60 18) + 1) (n + 1) : Nat) from by push_cast; omega], Fr2_trans hF t2, fun c hc => ?_, fun q hq => ?_⟩
            · rw [t3 c (by omega), zU_nc _ _ _ _ _ _ (by omega), r4 68 c (by omega) (by omega)]
            · cases q with
              | zero =>
                rw [show i + ((0 : Nat) : Int) = i from by omega]
                refine ⟨?_, fun j j1 j2 => ?_⟩
                · rw [t3 _ (by omega), zU_nc _ _ _ _ _ _ (by omega)]
                  exact r5.1
                · have hd3 := dgB_bd (sgn (vw s) (s 60 18))
                  rw [t3 _ (by have : psn (vw s) (s 60 18) 0 = s 60 18 := rfl
                               rw [this] at j2
                               omega), zU_nc _ _ _ _ _ _ (by omega)]
                  exact r5.2 j j1 j2
              | succ q =>
                have := t4 q (by omega)
                rw [show i + ((q + 1 : Nat) : Int) = i + 1 + (q : Int) from by push_cast; omega]
                exact this
        · rw [if_pos (Or.inr q3)]
          exact ⟨fun _ => ⟨s', m_ra_f1 (by omega) r1 hT' (by omega) (by omega), r2, FrJ_Fr2 r4⟩, fun h => absurd h q1⟩
set_option maxRecDepth 20000 in
theorem m_readsAll {s : zM} (hT : TV s) :
    (0 ≤ flt (vw s) 0 14 → ∃ s', zcall 168 [vR 60] s = some (some (vI (-1)), s') ∧ s' 60 18 = flt (vw s) 0 14 ∧ Fr2 s s') ∧
    (flt (vw s) 0 14 < 0 → ∃ s', zcall 168 [vR 60] s = some (some (vI (nCl (vw s) 0 14 : Nat)), s') ∧ Fr2 s s' ∧ (∀ q : Nat, q < nCl (vw s) 0 14 → CL (vw s) s' q (psn (vw s) 0 q))) := by
  have h1 := hT.1
  have hst : zcall 168 [vR 60] s = zres 168 C_X7_readsAll_7 [vR 60, vI 0] [] (zU s 60 18 0) := by
    rw [S_X7_readsAll]
    simp (disch := first | exact z_tt rfl | assumption | omega | (simp (disch := omega) only [zU_eq, zU_nc, zU_nj]; omega)) only [↓L_ald_n0, ↓r_iconst, ↓F_p60_18, ↓L_ist_n1, ↓L_ist_n1L, ↓L_ild_n1, ↓I_X7_readsClause_60, ↓r_ifeq_t, ↓r_ifeq_f, ↓J_X7_readsAll_66, ↓L_iinc1, ↓F_g60_18, ↓F_g60_17, ↓r_icne_t, ↓r_icne_f, ↓J_X7_readsAll_31, ↓r_ireturn, ↓F_g60_16, ↓A_g3, ↓A_g4, ↓A_g5, ↓A_g6, ↓A_g7, ↓A_g9, ↓A_g10, ↓A_g12, ↓A_g13, ↓A_g15, ↓A_g16, ↓A_g19, ↓A_g20, ↓A_g21, ↓A_g22, ↓A_g23, ↓A_g25, ↓A_g26, ↓A_g28, ↓A_g29, ↓A_g31, ↓A_g32, ↓A_g34, ↓A_g36, ↓A_g37, ↓A_g38, ↓A_g39, ↓A_g41, ↓A_g42, ↓A_g43, ↓A_g44, ↓A_g61, ↓A_g62, ↓A_g63, ↓A_g65, ↓A_g66, ↓A_g67, ↓A_g68, ↓A_g69, ↓A_g70, ↓A_gN, ↓A_gT, ↓A_gC, ↓r_bipush, ↓J_X7_readsAll_51, ↓J_X7_readsAll_53, ↓r_dupI, ↓r_dupR, ↓r_iadd, ↓r_goto, ↓J_X7_readsAll_7, ↓U_X7_readsAll_0, ↓U_X7_readsAll_31, ↓U_X7_readsAll_51, ↓U_X7_readsAll_53, ↓U_X7_readsAll_66, ↓zthen_v, ↓zthen_0, zU_eq, zU_nc, zU_nj]
  have hF : Fr2 s (zU s 60 18 0) := fun c j h1 h2 => zU_ow _ _ _ _ _ _ h1
  have e18 : zU s 60 18 0 60 18 = 0 := zU_eq _ _ _ _
  have e17 : zU s 60 18 0 60 17 = s 60 17 := hF 60 17 (by omega) (by omega)
  have I := m_ra_loop 13 0 (zU s 60 18 0) (Fr2_TV hF hT) (by rw [e18]; omega) (by rw [e18, e17]; omega) (by omega) (by omega)
  rw [e18, Fr2_vw hF] at I
  refine ⟨fun h => ?_, fun h => ?_⟩
  · obtain ⟨s2, t1, t2, t3⟩ := I.1 h
    exact ⟨s2, by rw [hst, t1], t2, Fr2_trans hF t3⟩
  · obtain ⟨s2, t1, t2, t3, t4⟩ := I.2 h
    refine ⟨s2, by rw [hst, t1, show (0 : Int) + (nCl (vw s) 0 (13 + 1) : Nat) = (nCl (vw s) 0 14 : Nat) from Int.zero_add _], Fr2_trans hF t2, fun q hq => ?_⟩
    have := t4 q hq
    rw [show (0 : Int) + (q : Int) = q from by omega] at this
    exact this
