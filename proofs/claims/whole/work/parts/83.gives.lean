/-! each level of the search -/
set_option maxRecDepth 20000 in
set_option maxHeartbeats 4000000 in
theorem c_gF6 {P : Int → Int → Int} {m n : Int} (hP : PN P m n) (hm : 0 ≤ m ∧ m ≤ 6) (hn : 1 ≤ n ∧ n ≤ 4) (d : Nat) (hd : m = 6 + d) : ∀ (s : zM) (w : Int → Int) (B : Bst), CWs s P m n → CWv s P m n w 6 B → GB B → ∃ s1, CWv s1 P m n w 6 (scn P m n d w B) ∧ FrW s s1 ∧ zcall 42 [vR 35, vI 6] s = some (none, s1) := by
  intro s w B hs hv hB
  have cp := c_poorest hP hm hn (k := 6) (by omega) hs hv
  have hT : ∀ p : Int, 0 ≤ p → p < n → 0 < toP P m p := fun p a b => by
    have := toP_bd hP hm (p := p) ⟨a, b⟩
    omega
  obtain ⟨s1, s2⟩ := pst_spec (r := rch P m w 6) (T := toP P m) hn.1 hT
  have e2 := hs.2.2.1
  have er := hv.2.1 _ s1.1 s1.2
  have eT := hs.2.2.2.1 _ s1.1 s1.2
  have bT := toP_bd hP hm s1
  have br := rch_bd hP hm w (k := 6) (by omega) s1
  have hm7 := hv.2.2.1
  have hm8 := hv.2.2.2.1
  obtain ⟨⟨g1, g2⟩, g3, g4⟩ := hB
  have k1 := mul_bd br (show 0 ≤ B.2.1 ∧ B.2.1 ≤ 594 by omega)
  have k2 : -594 ≤ B.1 * toP P m (pst (rch P m w 6) (toP P m) n) ∧ B.1 * toP P m (pst (rch P m w 6) (toP P m) n) ≤ 352836 := by
    by_cases h : 0 ≤ B.1
    · have := mul_bd (show 0 ≤ B.1 ∧ B.1 ≤ 594 by omega) (show 0 ≤ toP P m (pst (rch P m w 6) (toP P m) n) ∧ toP P m (pst (rch P m w 6) (toP P m) n) ≤ 594 by omega)
      omega
    · rw [show B.1 = -1 by omega]
      omega
  by_cases q1 : rch P m w 6 (pst (rch P m w 6) (toP P m) n) * B.2.1 ≤ B.1 * toP P m (pst (rch P m w 6) (toP P m) n)
  · rw [scn_prune hP hm hn.1 (by omega) d w (by omega) ⟨_, s1, by rw [show m - (d : Int) = 6 by omega]; exact q1⟩]
    refine ⟨s, hv, fun _ _ _ => rfl, ?_⟩
    rw [S_X5_giveFrom6]
    generalize pst (rch P m w 6) (toP P m) n = q at *
    simp (disch := first | exact z_tt rfl | assumption | omega | (simp (disch := omega) only [zU_eq, zU_nc, zU_nj]; omega)) only [↓L_ald_n0, ↓I_X5_poorest_35, ↓L_ist_n2, ↓L_ist_n2L, ↓F_g35_5, ↓L_ild_n2, ↓A_g3, ↓A_g4, ↓A_g5, ↓A_g6, ↓A_g7, ↓A_g9, ↓A_g10, ↓A_g12, ↓A_g13, ↓A_g15, ↓A_g16, ↓A_g19, ↓A_g20, ↓A_g21, ↓A_g22, ↓A_g23, ↓A_g25, ↓A_g26, ↓A_g28, ↓A_g29, ↓A_g31, ↓A_g32, ↓A_g34, ↓A_g36, ↓A_g37, ↓A_g38, ↓A_g39, ↓A_g41, ↓A_g42, ↓A_g43, ↓A_g44, ↓A_g61, ↓A_g62, ↓A_g63, ↓A_g65, ↓A_g66, ↓A_g67, ↓A_g68, ↓A_g69, ↓A_g70, ↓A_gN, ↓A_gT, ↓A_gC, ↓r_i2l, ↓F_g35_8, ↓r_lmul, ↓F_g35_7, ↓F_g35_4, ↓r_ifgt_t, ↓r_ifgt_f, ↓J_X5_giveFrom6_34, ↓r_lgt_t, ↓r_lgt_f, ↓r_return, ↓L_ild_n1, ↓F_g35_2, ↓r_iclt_t, ↓r_iclt_f, ↓J_X5_giveFrom6_48, ↓I_X5_keep_35, ↓r_iconst, ↓L_ist_n3, ↓L_ist_n3L, ↓L_ild_n3, ↓F_g35_1, ↓r_icge_t, ↓r_icge_f, ↓J_X5_giveFrom6_92, ↓F_g35_3, ↓A_p3, ↓A_p4, ↓A_p5, ↓A_p6, ↓A_p7, ↓A_p9, ↓A_p10, ↓A_p12, ↓A_p13, ↓A_p15, ↓A_p16, ↓A_p19, ↓A_p20, ↓A_p21, ↓A_p22, ↓A_p23, ↓A_p25, ↓A_p26, ↓A_p28, ↓A_p29, ↓A_p31, ↓A_p32, ↓A_p34, ↓A_p36, ↓A_p37, ↓A_p38, ↓A_p39, ↓A_p41, ↓A_p42, ↓A_p43, ↓A_p44, ↓A_p61, ↓A_p62, ↓A_p63, ↓A_p65, ↓A_p66, ↓A_p67, ↓A_p68, ↓A_p69, ↓A_p70, ↓A_pN, ↓A_pT, ↓I_X5_denyOthers_35, ↓r_iadd, ↓I_X5_giveFrom7, ↓L_iinc3, ↓r_goto, ↓J_X5_giveFrom6_50, ↓U_X5_giveFrom6_0, ↓U_X5_giveFrom6_34, ↓U_X5_giveFrom6_48, ↓U_X5_giveFrom6_92, ↓zthen_v, ↓zthen_0, zU_eq, zU_nc, zU_nj, cp, er, eT, hm7, hm8]
  · have q1' : B.1 * toP P m (pst (rch P m w m) (toP P m) n) < rch P m w m (pst (rch P m w m) (toP P m) n) * B.2.1 := by
      rw [show (6 : Int) = m by omega] at q1
      omega
    rw [show d = 0 by omega, scn, stp, if_pos q1']
    rw [show (6 : Int) = m by omega] at cp er eT bT br s1 k2 ⊢
    generalize pst (rch P m w m) (toP P m) n = q at *
    have ck := c_keepW (s := s) (q := q) (by omega) (by omega) (by omega)
    refine ⟨zU (zU (zU (zCpy s 36 0 39 0 6) 35 7 (s 38 q)) 35 8 (s 37 q)) 35 9 q, ⟨fun t a b => ?_, fun x a b => ?_, ?_, ?_, ?_⟩, fun c i h => ?_, ?_⟩
    · simp (disch := omega) only [zU_ow, zCpy_nc]
      exact hv.1 t a (by omega)
    · simp (disch := omega) only [zU_ow, zCpy_nc]
      rw [hv.2.1 x a b, show (6 : Int) = m by omega]
    · simp (disch := omega) only [zU_ow, zU_eq]
      exact er
    · simp (disch := omega) only [zU_ow, zU_eq]
      exact eT
    · right
      refine ⟨zU_eq _ _ _ _, fun t a b => ?_⟩
      simp (disch := omega) only [zU_ow]
      rw [zCpy_in _ _ _ _ _ _ _ (by omega), show (0 : Int) + (t - 0) = t by omega]
      exact hv.1 t a (by omega)
    · simp (disch := omega) only [zU_ow, zCpy_nc]
    · rw [S_X5_giveFrom6]
      have k1' := mul_bd (show 0 ≤ s 38 q ∧ s 38 q ≤ 594 by omega) (show 0 ≤ B.2.1 ∧ B.2.1 ≤ 594 by omega)
      rw [← er, ← eT] at q1'
      rw [← eT] at k2
      simp (disch := first | exact z_tt rfl | assumption | omega | (simp (disch := omega) only [zU_eq, zU_nc, zU_nj]; omega)) only [↓L_ald_n0, ↓I_X5_poorest_35, ↓L_ist_n2, ↓L_ist_n2L, ↓F_g35_5, ↓L_ild_n2, ↓A_g3, ↓A_g4, ↓A_g5, ↓A_g6, ↓A_g7, ↓A_g9, ↓A_g10, ↓A_g12, ↓A_g13, ↓A_g15, ↓A_g16, ↓A_g19, ↓A_g20, ↓A_g21, ↓A_g22, ↓A_g23, ↓A_g25, ↓A_g26, ↓A_g28, ↓A_g29, ↓A_g31, ↓A_g32, ↓A_g34, ↓A_g36, ↓A_g37, ↓A_g38, ↓A_g39, ↓A_g41, ↓A_g42, ↓A_g43, ↓A_g44, ↓A_g61, ↓A_g62, ↓A_g63, ↓A_g65, ↓A_g66, ↓A_g67, ↓A_g68, ↓A_g69, ↓A_g70, ↓A_gN, ↓A_gT, ↓A_gC, ↓r_i2l, ↓F_g35_8, ↓r_lmul, ↓F_g35_7, ↓F_g35_4, ↓r_ifgt_t, ↓r_ifgt_f, ↓J_X5_giveFrom6_34, ↓r_lgt_t, ↓r_lgt_f, ↓r_return, ↓L_ild_n1, ↓F_g35_2, ↓r_iclt_t, ↓r_iclt_f, ↓J_X5_giveFrom6_48, ↓I_X5_keep_35, ↓r_iconst, ↓L_ist_n3, ↓L_ist_n3L, ↓L_ild_n3, ↓F_g35_1, ↓r_icge_t, ↓r_icge_f, ↓J_X5_giveFrom6_92, ↓F_g35_3, ↓A_p3, ↓A_p4, ↓A_p5, ↓A_p6, ↓A_p7, ↓A_p9, ↓A_p10, ↓A_p12, ↓A_p13, ↓A_p15, ↓A_p16, ↓A_p19, ↓A_p20, ↓A_p21, ↓A_p22, ↓A_p23, ↓A_p25, ↓A_p26, ↓A_p28, ↓A_p29, ↓A_p31, ↓A_p32, ↓A_p34, ↓A_p36, ↓A_p37, ↓A_p38, ↓A_p39, ↓A_p41, ↓A_p42, ↓A_p43, ↓A_p44, ↓A_p61, ↓A_p62, ↓A_p63, ↓A_p65, ↓A_p66, ↓A_p67, ↓A_p68, ↓A_p69, ↓A_p70, ↓A_pN, ↓A_pT, ↓I_X5_denyOthers_35, ↓r_iadd, ↓I_X5_giveFrom7, ↓L_iinc3, ↓r_goto, ↓J_X5_giveFrom6_50, ↓U_X5_giveFrom6_0, ↓U_X5_giveFrom6_34, ↓U_X5_giveFrom6_48, ↓U_X5_giveFrom6_92, ↓zthen_v, ↓zthen_0, zU_eq, zU_nc, zU_nj, cp, hm7, hm8, ck]
set_option maxRecDepth 20000 in
set_option maxHeartbeats 4000000 in
theorem c_gL5 {P : Int → Int → Int} {m n q : Int} (hP : PN P m n) (hm : 0 ≤ m ∧ m ≤ 6) (hn : 1 ≤ n ∧ n ≤ 4) (d : Nat) (hd : m = 6 + d) (w : Int → Int) : ∀ (j : Nat) (p : Int) (s : zM) (B : Bst), 0 ≤ p → p + j = n → CWs s P m n → CWv s P m n w 5 B → GB B → ∃ s1, CWv s1 P m n w 5 (foldP (fun p B => scn P m n d (updW w 5 p) B) p j B) ∧ FrW s s1 ∧ zres 41 C_X5_giveFrom5_50 [vR 35, vI 5, vI q, vI p] [] s = some (none, s1) := by
  intro j
  induction j with
  | zero =>
    intro p s B hp hj hs hv hB
    refine ⟨s, hv, fun _ _ _ => rfl, ?_⟩
    have e1 := hs.2.1
    simp (disch := first | exact z_tt rfl | assumption | omega | (simp (disch := omega) only [zU_eq, zU_nc, zU_nj]; omega)) only [↓L_ald_n0, ↓I_X5_poorest_35, ↓L_ist_n2, ↓L_ist_n2L, ↓F_g35_5, ↓L_ild_n2, ↓A_g3, ↓A_g4, ↓A_g5, ↓A_g6, ↓A_g7, ↓A_g9, ↓A_g10, ↓A_g12, ↓A_g13, ↓A_g15, ↓A_g16, ↓A_g19, ↓A_g20, ↓A_g21, ↓A_g22, ↓A_g23, ↓A_g25, ↓A_g26, ↓A_g28, ↓A_g29, ↓A_g31, ↓A_g32, ↓A_g34, ↓A_g36, ↓A_g37, ↓A_g38, ↓A_g39, ↓A_g41, ↓A_g42, ↓A_g43, ↓A_g44, ↓A_g61, ↓A_g62, ↓A_g63, ↓A_g65, ↓A_g66, ↓A_g67, ↓A_g68, ↓A_g69, ↓A_g70, ↓A_gN, ↓A_gT, ↓A_gC, ↓r_i2l, ↓F_g35_8, ↓r_lmul, ↓F_g35_7, ↓F_g35_4, ↓r_ifgt_t, ↓r_ifgt_f, ↓J_X5_giveFrom5_34, ↓r_lgt_t, ↓r_lgt_f, ↓r_return, ↓L_ild_n1, ↓F_g35_2, ↓r_iclt_t, ↓r_iclt_f, ↓J_X5_giveFrom5_48, ↓I_X5_keep_35, ↓r_iconst, ↓L_ist_n3, ↓L_ist_n3L, ↓L_ild_n3, ↓F_g35_1, ↓r_icge_t, ↓r_icge_f, ↓J_X5_giveFrom5_92, ↓F_g35_3, ↓A_p3, ↓A_p4, ↓A_p5, ↓A_p6, ↓A_p7, ↓A_p9, ↓A_p10, ↓A_p12, ↓A_p13, ↓A_p15, ↓A_p16, ↓A_p19, ↓A_p20, ↓A_p21, ↓A_p22, ↓A_p23, ↓A_p25, ↓A_p26, ↓A_p28, ↓A_p29, ↓A_p31, ↓A_p32, ↓A_p34, ↓A_p36, ↓A_p37, ↓A_p38, ↓A_p39, ↓A_p41, ↓A_p42, ↓A_p43, ↓A_p44, ↓A_p61, ↓A_p62, ↓A_p63, ↓A_p65, ↓A_p66, ↓A_p67, ↓A_p68, ↓A_p69, ↓A_p70, ↓A_pN, ↓A_pT, ↓I_X5_denyOthers_35, ↓r_iadd, ↓I_X5_giveFrom6, ↓L_iinc3, ↓r_goto, ↓J_X5_giveFrom5_50, ↓U_X5_giveFrom5_0, ↓U_X5_giveFrom5_34, ↓U_X5_giveFrom5_48, ↓U_X5_giveFrom5_50, ↓U_X5_giveFrom5_92, ↓zthen_v, ↓zthen_0, zU_eq, zU_nc, zU_nj]
  | succ j ih =>
    intro p s B hp hj hs hv hB
    have e0 := hs.1
    have e1 := hs.2.1
    have e4 := hs.2.2.2.2
    obtain ⟨v1, v2, v3, v4, v5⟩ := hv
    obtain ⟨sb, H1, F1, C1⟩ := c_deny (s := zU s 36 5 p) (th := 5) (p := p) (c := 1) (n := n) (by omega) (by omega) (by omega) (by rw [zU_ow _ _ _ _ _ _ (by omega)]; exact e0) (by rw [zU_ow _ _ _ _ _ _ (by omega)]; exact e1)
    have FW1 : FrW s sb := fun c i h => by rw [F1 _ _ (by omega), zU_ow _ _ _ _ _ _ (by omega)]
    have V1' : CWv sb P m n (updW w 5 p) 6 B := by
      refine ⟨fun t a b => ?_, fun x a b => ?_, ?_, ?_, ?_⟩
      · rw [F1 _ _ (by omega)]
        unfold updW
        by_cases g : t = 5
        · rw [if_pos g, g, zU_eq]
        · rw [if_neg g, zU_ow _ _ _ _ _ _ (by omega)]
          exact v1 t a (by omega)
      · have r := rch_succ (P := P) (m := m) (updW w 5 p) (k := 5) (by omega) x
        rw [show (5 : Int) + 1 = 6 from rfl, rch_upd, upd_at] at r
        rw [r, H1 x a b, zU_ow _ _ _ _ _ _ (by omega), zU_ow _ _ _ _ _ _ (by omega), v2 x a b, e4 x _ a b (by omega) (by omega)]
        by_cases g : x = p
        · rw [if_pos g, if_pos g.symm]; omega
        · rw [if_neg g, if_neg (fun h => g h.symm)]; omega
      · rw [F1 _ _ (by omega), zU_ow _ _ _ _ _ _ (by omega)]; exact v3
      · rw [F1 _ _ (by omega), zU_ow _ _ _ _ _ _ (by omega)]; exact v4
      · rcases v5 with h | ⟨h, g⟩
        · exact Or.inl h
        · refine Or.inr ⟨by rw [F1 _ _ (by omega), zU_ow _ _ _ _ _ _ (by omega)]; exact h, fun t a b => ?_⟩
          rw [F1 _ _ (by omega), zU_ow _ _ _ _ _ _ (by omega)]; exact g t a b
    obtain ⟨sc, V2', FW2, C2⟩ := c_gF6 hP hm hn d hd sb (updW w 5 p) B (CWs_fr hn.2 hs FW1) V1' hB
    have hs2 := CWs_fr hn.2 (CWs_fr hn.2 hs FW1) FW2
    obtain ⟨sd, H3, F3, C3⟩ := c_deny (s := sc) (th := 5) (p := p) (c := -1) (n := n) (by omega) (by omega) (by omega) hs2.1 hs2.2.1
    obtain ⟨u1, u2, u3, u4, u5⟩ := V2'
    have FW3 : FrW sc sd := fun c i h => F3 _ _ (by omega)
    have V3 : CWv sd P m n w 5 (scn P m n d (updW w 5 p) B) := by
      refine ⟨fun t a b => ?_, fun x a b => ?_, ?_, ?_, ?_⟩
      · rw [F3 _ _ (by omega), u1 t a (by omega)]
        unfold updW
        rw [if_neg (by omega)]
      · have r := rch_succ (P := P) (m := m) (updW w 5 p) (k := 5) (by omega) x
        rw [show (5 : Int) + 1 = 6 from rfl, rch_upd, upd_at] at r
        rw [H3 x a b, u2 x a b, r, hs2.2.2.2.2 x _ a b (by omega) (by omega)]
        by_cases g : x = p
        · rw [if_pos g, if_pos g.symm]; omega
        · rw [if_neg g, if_neg (fun h => g h.symm)]; omega
      · rw [F3 _ _ (by omega)]; exact u3
      · rw [F3 _ _ (by omega)]; exact u4
      · rcases u5 with h | ⟨h, g⟩
        · exact Or.inl h
        · exact Or.inr ⟨by rw [F3 _ _ (by omega)]; exact h, fun t a b => by rw [F3 _ _ (by omega)]; exact g t a b⟩
    obtain ⟨s1, V4, FW4, E⟩ := ih (p + 1) sd _ (by omega) (by omega) (CWs_fr hn.2 hs2 FW3) V3 (scn_GB hP hm hn.1 d _ B hB).1
    refine ⟨s1, V4, fun c i h => by rw [FW4 c i h, FW3 c i h, FW2 c i h, FW1 c i h], ?_⟩
    have C2' : zcall 42 [vR 35, vI (5 + 1)] sb = some (none, sc) := C2
    rw [U_X5_giveFrom5_50]
    simp (disch := first | exact z_tt rfl | assumption | omega | (simp (disch := omega) only [zU_eq, zU_nc, zU_nj]; omega)) only [↓L_ald_n0, ↓I_X5_poorest_35, ↓L_ist_n2, ↓L_ist_n2L, ↓F_g35_5, ↓L_ild_n2, ↓A_g3, ↓A_g4, ↓A_g5, ↓A_g6, ↓A_g7, ↓A_g9, ↓A_g10, ↓A_g12, ↓A_g13, ↓A_g15, ↓A_g16, ↓A_g19, ↓A_g20, ↓A_g21, ↓A_g22, ↓A_g23, ↓A_g25, ↓A_g26, ↓A_g28, ↓A_g29, ↓A_g31, ↓A_g32, ↓A_g34, ↓A_g36, ↓A_g37, ↓A_g38, ↓A_g39, ↓A_g41, ↓A_g42, ↓A_g43, ↓A_g44, ↓A_g61, ↓A_g62, ↓A_g63, ↓A_g65, ↓A_g66, ↓A_g67, ↓A_g68, ↓A_g69, ↓A_g70, ↓A_gN, ↓A_gT, ↓A_gC, ↓r_i2l, ↓F_g35_8, ↓r_lmul, ↓F_g35_7, ↓F_g35_4, ↓r_ifgt_t, ↓r_ifgt_f, ↓J_X5_giveFrom5_34, ↓r_lgt_t, ↓r_lgt_f, ↓r_return, ↓L_ild_n1, ↓F_g35_2, ↓r_iclt_t, ↓r_iclt_f, ↓J_X5_giveFrom5_48, ↓I_X5_keep_35, ↓r_iconst, ↓L_ist_n3, ↓L_ist_n3L, ↓L_ild_n3, ↓F_g35_1, ↓r_icge_t, ↓r_icge_f, ↓J_X5_giveFrom5_92, ↓F_g35_3, ↓A_p3, ↓A_p4, ↓A_p5, ↓A_p6, ↓A_p7, ↓A_p9, ↓A_p10, ↓A_p12, ↓A_p13, ↓A_p15, ↓A_p16, ↓A_p19, ↓A_p20, ↓A_p21, ↓A_p22, ↓A_p23, ↓A_p25, ↓A_p26, ↓A_p28, ↓A_p29, ↓A_p31, ↓A_p32, ↓A_p34, ↓A_p36, ↓A_p37, ↓A_p38, ↓A_p39, ↓A_p41, ↓A_p42, ↓A_p43, ↓A_p44, ↓A_p61, ↓A_p62, ↓A_p63, ↓A_p65, ↓A_p66, ↓A_p67, ↓A_p68, ↓A_p69, ↓A_p70, ↓A_pN, ↓A_pT, ↓I_X5_denyOthers_35, ↓r_iadd, ↓I_X5_giveFrom6, ↓L_iinc3, ↓r_goto, ↓J_X5_giveFrom5_50, ↓U_X5_giveFrom5_0, ↓U_X5_giveFrom5_34, ↓U_X5_giveFrom5_48, ↓U_X5_giveFrom5_92, ↓zthen_v, ↓zthen_0, zU_eq, zU_nc, zU_nj, C1, C2', C3]
    exact E
set_option maxRecDepth 20000 in
set_option maxHeartbeats 4000000 in
theorem c_gF5 {P : Int → Int → Int} {m n : Int} (hP : PN P m n) (hm : 0 ≤ m ∧ m ≤ 6) (hn : 1 ≤ n ∧ n ≤ 4) (d : Nat) (hd : m = 5 + d) : ∀ (s : zM) (w : Int → Int) (B : Bst), CWs s P m n → CWv s P m n w 5 B → GB B → ∃ s1, CWv s1 P m n w 5 (scn P m n d w B) ∧ FrW s s1 ∧ zcall 41 [vR 35, vI 5] s = some (none, s1) := by
  intro s w B hs hv hB
  have cp := c_poorest hP hm hn (k := 5) (by omega) hs hv
  have hT : ∀ p : Int, 0 ≤ p → p < n → 0 < toP P m p := fun p a b => by
    have := toP_bd hP hm (p := p) ⟨a, b⟩
    omega
  obtain ⟨s1, s2⟩ := pst_spec (r := rch P m w 5) (T := toP P m) hn.1 hT
  have e2 := hs.2.2.1
  have er := hv.2.1 _ s1.1 s1.2
  have eT := hs.2.2.2.1 _ s1.1 s1.2
  have bT := toP_bd hP hm s1
  have br := rch_bd hP hm w (k := 5) (by omega) s1
  have hm7 := hv.2.2.1
  have hm8 := hv.2.2.2.1
  obtain ⟨⟨g1, g2⟩, g3, g4⟩ := hB
  have k1 := mul_bd br (show 0 ≤ B.2.1 ∧ B.2.1 ≤ 594 by omega)
  have k2 : -594 ≤ B.1 * toP P m (pst (rch P m w 5) (toP P m) n) ∧ B.1 * toP P m (pst (rch P m w 5) (toP P m) n) ≤ 352836 := by
    by_cases h : 0 ≤ B.1
    · have := mul_bd (show 0 ≤ B.1 ∧ B.1 ≤ 594 by omega) (show 0 ≤ toP P m (pst (rch P m w 5) (toP P m) n) ∧ toP P m (pst (rch P m w 5) (toP P m) n) ≤ 594 by omega)
      omega
    · rw [show B.1 = -1 by omega]
      omega
  by_cases q1 : rch P m w 5 (pst (rch P m w 5) (toP P m) n) * B.2.1 ≤ B.1 * toP P m (pst (rch P m w 5) (toP P m) n)
  · rw [scn_prune hP hm hn.1 (by omega) d w (by omega) ⟨_, s1, by rw [show m - (d : Int) = 5 by omega]; exact q1⟩]
    refine ⟨s, hv, fun _ _ _ => rfl, ?_⟩
    rw [S_X5_giveFrom5]
    generalize pst (rch P m w 5) (toP P m) n = q at *
    simp (disch := first | exact z_tt rfl | assumption | omega | (simp (disch := omega) only [zU_eq, zU_nc, zU_nj]; omega)) only [↓L_ald_n0, ↓I_X5_poorest_35, ↓L_ist_n2, ↓L_ist_n2L, ↓F_g35_5, ↓L_ild_n2, ↓A_g3, ↓A_g4, ↓A_g5, ↓A_g6, ↓A_g7, ↓A_g9, ↓A_g10, ↓A_g12, ↓A_g13, ↓A_g15, ↓A_g16, ↓A_g19, ↓A_g20, ↓A_g21, ↓A_g22, ↓A_g23, ↓A_g25, ↓A_g26, ↓A_g28, ↓A_g29, ↓A_g31, ↓A_g32, ↓A_g34, ↓A_g36, ↓A_g37, ↓A_g38, ↓A_g39, ↓A_g41, ↓A_g42, ↓A_g43, ↓A_g44, ↓A_g61, ↓A_g62, ↓A_g63, ↓A_g65, ↓A_g66, ↓A_g67, ↓A_g68, ↓A_g69, ↓A_g70, ↓A_gN, ↓A_gT, ↓A_gC, ↓r_i2l, ↓F_g35_8, ↓r_lmul, ↓F_g35_7, ↓F_g35_4, ↓r_ifgt_t, ↓r_ifgt_f, ↓J_X5_giveFrom5_34, ↓r_lgt_t, ↓r_lgt_f, ↓r_return, ↓L_ild_n1, ↓F_g35_2, ↓r_iclt_t, ↓r_iclt_f, ↓J_X5_giveFrom5_48, ↓I_X5_keep_35, ↓r_iconst, ↓L_ist_n3, ↓L_ist_n3L, ↓L_ild_n3, ↓F_g35_1, ↓r_icge_t, ↓r_icge_f, ↓J_X5_giveFrom5_92, ↓F_g35_3, ↓A_p3, ↓A_p4, ↓A_p5, ↓A_p6, ↓A_p7, ↓A_p9, ↓A_p10, ↓A_p12, ↓A_p13, ↓A_p15, ↓A_p16, ↓A_p19, ↓A_p20, ↓A_p21, ↓A_p22, ↓A_p23, ↓A_p25, ↓A_p26, ↓A_p28, ↓A_p29, ↓A_p31, ↓A_p32, ↓A_p34, ↓A_p36, ↓A_p37, ↓A_p38, ↓A_p39, ↓A_p41, ↓A_p42, ↓A_p43, ↓A_p44, ↓A_p61, ↓A_p62, ↓A_p63, ↓A_p65, ↓A_p66, ↓A_p67, ↓A_p68, ↓A_p69, ↓A_p70, ↓A_pN, ↓A_pT, ↓I_X5_denyOthers_35, ↓r_iadd, ↓I_X5_giveFrom6, ↓L_iinc3, ↓r_goto, ↓J_X5_giveFrom5_50, ↓U_X5_giveFrom5_0, ↓U_X5_giveFrom5_34, ↓U_X5_giveFrom5_48, ↓U_X5_giveFrom5_92, ↓zthen_v, ↓zthen_0, zU_eq, zU_nc, zU_nj, cp, er, eT, hm7, hm8]
  · by_cases q2 : d = 0
    · have q1' : B.1 * toP P m (pst (rch P m w m) (toP P m) n) < rch P m w m (pst (rch P m w m) (toP P m) n) * B.2.1 := by
        rw [show (5 : Int) = m by omega] at q1
        omega
      rw [show d = 0 by omega, scn, stp, if_pos q1']
      rw [show (5 : Int) = m by omega] at cp er eT bT br s1 k2 ⊢
      generalize pst (rch P m w m) (toP P m) n = q at *
      have ck := c_keepW (s := s) (q := q) (by omega) (by omega) (by omega)
      refine ⟨zU (zU (zU (zCpy s 36 0 39 0 6) 35 7 (s 38 q)) 35 8 (s 37 q)) 35 9 q, ⟨fun t a b => ?_, fun x a b => ?_, ?_, ?_, ?_⟩, fun c i h => ?_, ?_⟩
      · simp (disch := omega) only [zU_ow, zCpy_nc]
        exact hv.1 t a (by omega)
      · simp (disch := omega) only [zU_ow, zCpy_nc]
        rw [hv.2.1 x a b, show (5 : Int) = m by omega]
      · simp (disch := omega) only [zU_ow, zU_eq]
        exact er
      · simp (disch := omega) only [zU_ow, zU_eq]
        exact eT
      · right
        refine ⟨zU_eq _ _ _ _, fun t a b => ?_⟩
        simp (disch := omega) only [zU_ow]
        rw [zCpy_in _ _ _ _ _ _ _ (by omega), show (0 : Int) + (t - 0) = t by omega]
        exact hv.1 t a (by omega)
      · simp (disch := omega) only [zU_ow, zCpy_nc]
      · rw [S_X5_giveFrom5]
        have k1' := mul_bd (show 0 ≤ s 38 q ∧ s 38 q ≤ 594 by omega) (show 0 ≤ B.2.1 ∧ B.2.1 ≤ 594 by omega)
        rw [← er, ← eT] at q1'
        rw [← eT] at k2
        simp (disch := first | exact z_tt rfl | assumption | omega | (simp (disch := omega) only [zU_eq, zU_nc, zU_nj]; omega)) only [↓L_ald_n0, ↓I_X5_poorest_35, ↓L_ist_n2, ↓L_ist_n2L, ↓F_g35_5, ↓L_ild_n2, ↓A_g3, ↓A_g4, ↓A_g5, ↓A_g6, ↓A_g7, ↓A_g9, ↓A_g10, ↓A_g12, ↓A_g13, ↓A_g15, ↓A_g16, ↓A_g19, ↓A_g20, ↓A_g21, ↓A_g22, ↓A_g23, ↓A_g25, ↓A_g26, ↓A_g28, ↓A_g29, ↓A_g31, ↓A_g32, ↓A_g34, ↓A_g36, ↓A_g37, ↓A_g38, ↓A_g39, ↓A_g41, ↓A_g42, ↓A_g43, ↓A_g44, ↓A_g61, ↓A_g62, ↓A_g63, ↓A_g65, ↓A_g66, ↓A_g67, ↓A_g68, ↓A_g69, ↓A_g70, ↓A_gN, ↓A_gT, ↓A_gC, ↓r_i2l, ↓F_g35_8, ↓r_lmul, ↓F_g35_7, ↓F_g35_4, ↓r_ifgt_t, ↓r_ifgt_f, ↓J_X5_giveFrom5_34, ↓r_lgt_t, ↓r_lgt_f, ↓r_return, ↓L_ild_n1, ↓F_g35_2, ↓r_iclt_t, ↓r_iclt_f, ↓J_X5_giveFrom5_48, ↓I_X5_keep_35, ↓r_iconst, ↓L_ist_n3, ↓L_ist_n3L, ↓L_ild_n3, ↓F_g35_1, ↓r_icge_t, ↓r_icge_f, ↓J_X5_giveFrom5_92, ↓F_g35_3, ↓A_p3, ↓A_p4, ↓A_p5, ↓A_p6, ↓A_p7, ↓A_p9, ↓A_p10, ↓A_p12, ↓A_p13, ↓A_p15, ↓A_p16, ↓A_p19, ↓A_p20, ↓A_p21, ↓A_p22, ↓A_p23, ↓A_p25, ↓A_p26, ↓A_p28, ↓A_p29, ↓A_p31, ↓A_p32, ↓A_p34, ↓A_p36, ↓A_p37, ↓A_p38, ↓A_p39, ↓A_p41, ↓A_p42, ↓A_p43, ↓A_p44, ↓A_p61, ↓A_p62, ↓A_p63, ↓A_p65, ↓A_p66, ↓A_p67, ↓A_p68, ↓A_p69, ↓A_p70, ↓A_pN, ↓A_pT, ↓I_X5_denyOthers_35, ↓r_iadd, ↓I_X5_giveFrom6, ↓L_iinc3, ↓r_goto, ↓J_X5_giveFrom5_50, ↓U_X5_giveFrom5_0, ↓U_X5_giveFrom5_34, ↓U_X5_giveFrom5_48, ↓U_X5_giveFrom5_92, ↓zthen_v, ↓zthen_0, zU_eq, zU_nc, zU_nj, cp, hm7, hm8, ck]
    · obtain ⟨d1, rfl⟩ : ∃ d1, d = d1 + 1 := ⟨d - 1, by omega⟩
      obtain ⟨s3, V3, F3, E3⟩ := c_gL5 (q := pst (rch P m w 5) (toP P m) n) hP hm hn d1 (by omega) w n.toNat 0 s B (by omega) (by omega) hs hv ⟨⟨g1, g2⟩, g3, g4⟩
      refine ⟨s3, ?_, F3, ?_⟩
      · rw [scn, show m - ((d1 : Int) + 1) = 5 by omega]
        exact V3
      · rw [S_X5_giveFrom5]
        generalize pst (rch P m w 5) (toP P m) n = q at *
        simp (disch := first | exact z_tt rfl | assumption | omega | (simp (disch := omega) only [zU_eq, zU_nc, zU_nj]; omega)) only [↓L_ald_n0, ↓I_X5_poorest_35, ↓L_ist_n2, ↓L_ist_n2L, ↓F_g35_5, ↓L_ild_n2, ↓A_g3, ↓A_g4, ↓A_g5, ↓A_g6, ↓A_g7, ↓A_g9, ↓A_g10, ↓A_g12, ↓A_g13, ↓A_g15, ↓A_g16, ↓A_g19, ↓A_g20, ↓A_g21, ↓A_g22, ↓A_g23, ↓A_g25, ↓A_g26, ↓A_g28, ↓A_g29, ↓A_g31, ↓A_g32, ↓A_g34, ↓A_g36, ↓A_g37, ↓A_g38, ↓A_g39, ↓A_g41, ↓A_g42, ↓A_g43, ↓A_g44, ↓A_g61, ↓A_g62, ↓A_g63, ↓A_g65, ↓A_g66, ↓A_g67, ↓A_g68, ↓A_g69, ↓A_g70, ↓A_gN, ↓A_gT, ↓A_gC, ↓r_i2l, ↓F_g35_8, ↓r_lmul, ↓F_g35_7, ↓F_g35_4, ↓r_ifgt_t, ↓r_ifgt_f, ↓J_X5_giveFrom5_34, ↓r_lgt_t, ↓r_lgt_f, ↓r_return, ↓L_ild_n1, ↓F_g35_2, ↓r_iclt_t, ↓r_iclt_f, ↓J_X5_giveFrom5_48, ↓I_X5_keep_35, ↓r_iconst, ↓L_ist_n3, ↓L_ist_n3L, ↓L_ild_n3, ↓F_g35_1, ↓r_icge_t, ↓r_icge_f, ↓J_X5_giveFrom5_92, ↓F_g35_3, ↓A_p3, ↓A_p4, ↓A_p5, ↓A_p6, ↓A_p7, ↓A_p9, ↓A_p10, ↓A_p12, ↓A_p13, ↓A_p15, ↓A_p16, ↓A_p19, ↓A_p20, ↓A_p21, ↓A_p22, ↓A_p23, ↓A_p25, ↓A_p26, ↓A_p28, ↓A_p29, ↓A_p31, ↓A_p32, ↓A_p34, ↓A_p36, ↓A_p37, ↓A_p38, ↓A_p39, ↓A_p41, ↓A_p42, ↓A_p43, ↓A_p44, ↓A_p61, ↓A_p62, ↓A_p63, ↓A_p65, ↓A_p66, ↓A_p67, ↓A_p68, ↓A_p69, ↓A_p70, ↓A_pN, ↓A_pT, ↓I_X5_denyOthers_35, ↓r_iadd, ↓I_X5_giveFrom6, ↓L_iinc3, ↓r_goto, ↓J_X5_giveFrom5_50, ↓U_X5_giveFrom5_0, ↓U_X5_giveFrom5_34, ↓U_X5_giveFrom5_48, ↓U_X5_giveFrom5_92, ↓zthen_v, ↓zthen_0, zU_eq, zU_nc, zU_nj, cp, er, eT, hm7, hm8]
        exact E3
set_option maxRecDepth 20000 in
set_option maxHeartbeats 4000000 in
theorem c_gL4 {P : Int → Int → Int} {m n q : Int} (hP : PN P m n) (hm : 0 ≤ m ∧ m ≤ 6) (hn : 1 ≤ n ∧ n ≤ 4) (d : Nat) (hd : m = 5 + d) (w : Int → Int) : ∀ (j : Nat) (p : Int) (s : zM) (B : Bst), 0 ≤ p → p + j = n → CWs s P m n → CWv s P m n w 4 B → GB B → ∃ s1, CWv s1 P m n w 4 (foldP (fun p B => scn P m n d (updW w 4 p) B) p j B) ∧ FrW s s1 ∧ zres 40 C_X5_giveFrom4_50 [vR 35, vI 4, vI q, vI p] [] s = some (none, s1) := by
  intro j
  induction j with
  | zero =>
    intro p s B hp hj hs hv hB
    refine ⟨s, hv, fun _ _ _ => rfl, ?_⟩
    have e1 := hs.2.1
    simp (disch := first | exact z_tt rfl | assumption | omega | (simp (disch := omega) only [zU_eq, zU_nc, zU_nj]; omega)) only [↓L_ald_n0, ↓I_X5_poorest_35, ↓L_ist_n2, ↓L_ist_n2L, ↓F_g35_5, ↓L_ild_n2, ↓A_g3, ↓A_g4, ↓A_g5, ↓A_g6, ↓A_g7, ↓A_g9, ↓A_g10, ↓A_g12, ↓A_g13, ↓A_g15, ↓A_g16, ↓A_g19, ↓A_g20, ↓A_g21, ↓A_g22, ↓A_g23, ↓A_g25, ↓A_g26, ↓A_g28, ↓A_g29, ↓A_g31, ↓A_g32, ↓A_g34, ↓A_g36, ↓A_g37, ↓A_g38, ↓A_g39, ↓A_g41, ↓A_g42, ↓A_g43, ↓A_g44, ↓A_g61, ↓A_g62, ↓A_g63, ↓A_g65, ↓A_g66, ↓A_g67, ↓A_g68, ↓A_g69, ↓A_g70, ↓A_gN, ↓A_gT, ↓A_gC, ↓r_i2l, ↓F_g35_8, ↓r_lmul, ↓F_g35_7, ↓F_g35_4, ↓r_ifgt_t, ↓r_ifgt_f, ↓J_X5_giveFrom4_34, ↓r_lgt_t, ↓r_lgt_f, ↓r_return, ↓L_ild_n1, ↓F_g35_2, ↓r_iclt_t, ↓r_iclt_f, ↓J_X5_giveFrom4_48, ↓I_X5_keep_35, ↓r_iconst, ↓L_ist_n3, ↓L_ist_n3L, ↓L_ild_n3, ↓F_g35_1, ↓r_icge_t, ↓r_icge_f, ↓J_X5_giveFrom4_92, ↓F_g35_3, ↓A_p3, ↓A_p4, ↓A_p5, ↓A_p6, ↓A_p7, ↓A_p9, ↓A_p10, ↓A_p12, ↓A_p13, ↓A_p15, ↓A_p16, ↓A_p19, ↓A_p20, ↓A_p21, ↓A_p22, ↓A_p23, ↓A_p25, ↓A_p26, ↓A_p28, ↓A_p29, ↓A_p31, ↓A_p32, ↓A_p34, ↓A_p36, ↓A_p37, ↓A_p38, ↓A_p39, ↓A_p41, ↓A_p42, ↓A_p43, ↓A_p44, ↓A_p61, ↓A_p62, ↓A_p63, ↓A_p65, ↓A_p66, ↓A_p67, ↓A_p68, ↓A_p69, ↓A_p70, ↓A_pN, ↓A_pT, ↓I_X5_denyOthers_35, ↓r_iadd, ↓I_X5_giveFrom5, ↓L_iinc3, ↓r_goto, ↓J_X5_giveFrom4_50, ↓U_X5_giveFrom4_0, ↓U_X5_giveFrom4_34, ↓U_X5_giveFrom4_48, ↓U_X5_giveFrom4_50, ↓U_X5_giveFrom4_92, ↓zthen_v, ↓zthen_0, zU_eq, zU_nc, zU_nj]
  | succ j ih =>
    intro p s B hp hj hs hv hB
    have e0 := hs.1
    have e1 := hs.2.1
    have e4 := hs.2.2.2.2
    obtain ⟨v1, v2, v3, v4, v5⟩ := hv
    obtain ⟨sb, H1, F1, C1⟩ := c_deny (s := zU s 36 4 p) (th := 4) (p := p) (c := 1) (n := n) (by omega) (by omega) (by omega) (by rw [zU_ow _ _ _ _ _ _ (by omega)]; exact e0) (by rw [zU_ow _ _ _ _ _ _ (by omega)]; exact e1)
    have FW1 : FrW s sb := fun c i h => by rw [F1 _ _ (by omega), zU_ow _ _ _ _ _ _ (by omega)]
    have V1' : CWv sb P m n (updW w 4 p) 5 B := by
      refine ⟨fun t a b => ?_, fun x a b => ?_, ?_, ?_, ?_⟩
      · rw [F1 _ _ (by omega)]
        unfold updW
        by_cases g : t = 4
        · rw [if_pos g, g, zU_eq]
        · rw [if_neg g, zU_ow _ _ _ _ _ _ (by omega)]
          exact v1 t a (by omega)
      · have r := rch_succ (P := P) (m := m) (updW w 4 p) (k := 4) (by omega) x
        rw [show (4 : Int) + 1 = 5 from rfl, rch_upd, upd_at] at r
        rw [r, H1 x a b, zU_ow _ _ _ _ _ _ (by omega), zU_ow _ _ _ _ _ _ (by omega), v2 x a b, e4 x _ a b (by omega) (by omega)]
        by_cases g : x = p
        · rw [if_pos g, if_pos g.symm]; omega
        · rw [if_neg g, if_neg (fun h => g h.symm)]; omega
      · rw [F1 _ _ (by omega), zU_ow _ _ _ _ _ _ (by omega)]; exact v3
      · rw [F1 _ _ (by omega), zU_ow _ _ _ _ _ _ (by omega)]; exact v4
      · rcases v5 with h | ⟨h, g⟩
        · exact Or.inl h
        · refine Or.inr ⟨by rw [F1 _ _ (by omega), zU_ow _ _ _ _ _ _ (by omega)]; exact h, fun t a b => ?_⟩
          rw [F1 _ _ (by omega), zU_ow _ _ _ _ _ _ (by omega)]; exact g t a b
    obtain ⟨sc, V2', FW2, C2⟩ := c_gF5 hP hm hn d hd sb (updW w 4 p) B (CWs_fr hn.2 hs FW1) V1' hB
    have hs2 := CWs_fr hn.2 (CWs_fr hn.2 hs FW1) FW2
    obtain ⟨sd, H3, F3, C3⟩ := c_deny (s := sc) (th := 4) (p := p) (c := -1) (n := n) (by omega) (by omega) (by omega) hs2.1 hs2.2.1
    obtain ⟨u1, u2, u3, u4, u5⟩ := V2'
    have FW3 : FrW sc sd := fun c i h => F3 _ _ (by omega)
    have V3 : CWv sd P m n w 4 (scn P m n d (updW w 4 p) B) := by
      refine ⟨fun t a b => ?_, fun x a b => ?_, ?_, ?_, ?_⟩
      · rw [F3 _ _ (by omega), u1 t a (by omega)]
        unfold updW
        rw [if_neg (by omega)]
      · have r := rch_succ (P := P) (m := m) (updW w 4 p) (k := 4) (by omega) x
        rw [show (4 : Int) + 1 = 5 from rfl, rch_upd, upd_at] at r
        rw [H3 x a b, u2 x a b, r, hs2.2.2.2.2 x _ a b (by omega) (by omega)]
        by_cases g : x = p
        · rw [if_pos g, if_pos g.symm]; omega
        · rw [if_neg g, if_neg (fun h => g h.symm)]; omega
      · rw [F3 _ _ (by omega)]; exact u3
      · rw [F3 _ _ (by omega)]; exact u4
      · rcases u5 with h | ⟨h, g⟩
        · exact Or.inl h
        · exact Or.inr ⟨by rw [F3 _ _ (by omega)]; exact h, fun t a b => by rw [F3 _ _ (by omega)]; exact g t a b⟩
    obtain ⟨s1, V4, FW4, E⟩ := ih (p + 1) sd _ (by omega) (by omega) (CWs_fr hn.2 hs2 FW3) V3 (scn_GB hP hm hn.1 d _ B hB).1
    refine ⟨s1, V4, fun c i h => by rw [FW4 c i h, FW3 c i h, FW2 c i h, FW1 c i h], ?_⟩
    have C2' : zcall 41 [vR 35, vI (4 + 1)] sb = some (none, sc) := C2
    rw [U_X5_giveFrom4_50]
    simp (disch := first | exact z_tt rfl | assumption | omega | (simp (disch := omega) only [zU_eq, zU_nc, zU_nj]; omega)) only [↓L_ald_n0, ↓I_X5_poorest_35, ↓L_ist_n2, ↓L_ist_n2L, ↓F_g35_5, ↓L_ild_n2, ↓A_g3, ↓A_g4, ↓A_g5, ↓A_g6, ↓A_g7, ↓A_g9, ↓A_g10, ↓A_g12, ↓A_g13, ↓A_g15, ↓A_g16, ↓A_g19, ↓A_g20, ↓A_g21, ↓A_g22, ↓A_g23, ↓A_g25, ↓A_g26, ↓A_g28, ↓A_g29, ↓A_g31, ↓A_g32, ↓A_g34, ↓A_g36, ↓A_g37, ↓A_g38, ↓A_g39, ↓A_g41, ↓A_g42, ↓A_g43, ↓A_g44, ↓A_g61, ↓A_g62, ↓A_g63, ↓A_g65, ↓A_g66, ↓A_g67, ↓A_g68, ↓A_g69, ↓A_g70, ↓A_gN, ↓A_gT, ↓A_gC, ↓r_i2l, ↓F_g35_8, ↓r_lmul, ↓F_g35_7, ↓F_g35_4, ↓r_ifgt_t, ↓r_ifgt_f, ↓J_X5_giveFrom4_34, ↓r_lgt_t, ↓r_lgt_f, ↓r_return, ↓L_ild_n1, ↓F_g35_2, ↓r_iclt_t, ↓r_iclt_f, ↓J_X5_giveFrom4_48, ↓I_X5_keep_35, ↓r_iconst, ↓L_ist_n3, ↓L_ist_n3L, ↓L_ild_n3, ↓F_g35_1, ↓r_icge_t, ↓r_icge_f, ↓J_X5_giveFrom4_92, ↓F_g35_3, ↓A_p3, ↓A_p4, ↓A_p5, ↓A_p6, ↓A_p7, ↓A_p9, ↓A_p10, ↓A_p12, ↓A_p13, ↓A_p15, ↓A_p16, ↓A_p19, ↓A_p20, ↓A_p21, ↓A_p22, ↓A_p23, ↓A_p25, ↓A_p26, ↓A_p28, ↓A_p29, ↓A_p31, ↓A_p32, ↓A_p34, ↓A_p36, ↓A_p37, ↓A_p38, ↓A_p39, ↓A_p41, ↓A_p42, ↓A_p43, ↓A_p44, ↓A_p61, ↓A_p62, ↓A_p63, ↓A_p65, ↓A_p66, ↓A_p67, ↓A_p68, ↓A_p69, ↓A_p70, ↓A_pN, ↓A_pT, ↓I_X5_denyOthers_35, ↓r_iadd, ↓I_X5_giveFrom5, ↓L_iinc3, ↓r_goto, ↓J_X5_giveFrom4_50, ↓U_X5_giveFrom4_0, ↓U_X5_giveFrom4_34, ↓U_X5_giveFrom4_48, ↓U_X5_giveFrom4_92, ↓zthen_v, ↓zthen_0, zU_eq, zU_nc, zU_nj, C1, C2', C3]
    exact E
set_option maxRecDepth 20000 in
set_option maxHeartbeats 4000000 in
theorem c_gF4 {P : Int → Int → Int} {m n : Int} (hP : PN P m n) (hm : 0 ≤ m ∧ m ≤ 6) (hn : 1 ≤ n ∧ n ≤ 4) (d : Nat) (hd : m = 4 + d) : ∀ (s : zM) (w : Int → Int) (B : Bst), CWs s P m n → CWv s P m n w 4 B → GB B → ∃ s1, CWv s1 P m n w 4 (scn P m n d w B) ∧ FrW s s1 ∧ zcall 40 [vR 35, vI 4] s = some (none, s1) := by
  intro s w B hs hv hB
  have cp := c_poorest hP hm hn (k := 4) (by omega) hs hv
  have hT : ∀ p : Int, 0 ≤ p → p < n → 0 < toP P m p := fun p a b => by
    have := toP_bd hP hm (p := p) ⟨a, b⟩
    omega
  obtain ⟨s1, s2⟩ := pst_spec (r := rch P m w 4) (T := toP P m) hn.1 hT
  have e2 := hs.2.2.1
  have er := hv.2.1 _ s1.1 s1.2
  have eT := hs.2.2.2.1 _ s1.1 s1.2
  have bT := toP_bd hP hm s1
  have br := rch_bd hP hm w (k := 4) (by omega) s1
  have hm7 := hv.2.2.1
  have hm8 := hv.2.2.2.1
  obtain ⟨⟨g1, g2⟩, g3, g4⟩ := hB
  have k1 := mul_bd br (show 0 ≤ B.2.1 ∧ B.2.1 ≤ 594 by omega)
  have k2 : -594 ≤ B.1 * toP P m (pst (rch P m w 4) (toP P m) n) ∧ B.1 * toP P m (pst (rch P m w 4) (toP P m) n) ≤ 352836 := by
    by_cases h : 0 ≤ B.1
    · have := mul_bd (show 0 ≤ B.1 ∧ B.1 ≤ 594 by omega) (show 0 ≤ toP P m (pst (rch P m w 4) (toP P m) n) ∧ toP P m (pst (rch P m w 4) (toP P m) n) ≤ 594 by omega)
      omega
    · rw [show B.1 = -1 by omega]
      omega
  by_cases q1 : rch P m w 4 (pst (rch P m w 4) (toP P m) n) * B.2.1 ≤ B.1 * toP P m (pst (rch P m w 4) (toP P m) n)
  · rw [scn_prune hP hm hn.1 (by omega) d w (by omega) ⟨_, s1, by rw [show m - (d : Int) = 4 by omega]; exact q1⟩]
    refine ⟨s, hv, fun _ _ _ => rfl, ?_⟩
    rw [S_X5_giveFrom4]
    generalize pst (rch P m w 4) (toP P m) n = q at *
    simp (disch := first | exact z_tt rfl | assumption | omega | (simp (disch := omega) only [zU_eq, zU_nc, zU_nj]; omega)) only [↓L_ald_n0, ↓I_X5_poorest_35, ↓L_ist_n2, ↓L_ist_n2L, ↓F_g35_5, ↓L_ild_n2, ↓A_g3, ↓A_g4, ↓A_g5, ↓A_g6, ↓A_g7, ↓A_g9, ↓A_g10, ↓A_g12, ↓A_g13, ↓A_g15, ↓A_g16, ↓A_g19, ↓A_g20, ↓A_g21, ↓A_g22, ↓A_g23, ↓A_g25, ↓A_g26, ↓A_g28, ↓A_g29, ↓A_g31, ↓A_g32, ↓A_g34, ↓A_g36, ↓A_g37, ↓A_g38, ↓A_g39, ↓A_g41, ↓A_g42, ↓A_g43, ↓A_g44, ↓A_g61, ↓A_g62, ↓A_g63, ↓A_g65, ↓A_g66, ↓A_g67, ↓A_g68, ↓A_g69, ↓A_g70, ↓A_gN, ↓A_gT, ↓A_gC, ↓r_i2l, ↓F_g35_8, ↓r_lmul, ↓F_g35_7, ↓F_g35_4, ↓r_ifgt_t, ↓r_ifgt_f, ↓J_X5_giveFrom4_34, ↓r_lgt_t, ↓r_lgt_f, ↓r_return, ↓L_ild_n1, ↓F_g35_2, ↓r_iclt_t, ↓r_iclt_f, ↓J_X5_giveFrom4_48, ↓I_X5_keep_35, ↓r_iconst, ↓L_ist_n3, ↓L_ist_n3L, ↓L_ild_n3, ↓F_g35_1, ↓r_icge_t, ↓r_icge_f, ↓J_X5_giveFrom4_92, ↓F_g35_3, ↓A_p3, ↓A_p4, ↓A_p5, ↓A_p6, ↓A_p7, ↓A_p9, ↓A_p10, ↓A_p12, ↓A_p13, ↓A_p15, ↓A_p16, ↓A_p19, ↓A_p20, ↓A_p21, ↓A_p22, ↓A_p23, ↓A_p25, ↓A_p26, ↓A_p28, ↓A_p29, ↓A_p31, ↓A_p32, ↓A_p34, ↓A_p36, ↓A_p37, ↓A_p38, ↓A_p39, ↓A_p41, ↓A_p42, ↓A_p43, ↓A_p44, ↓A_p61, ↓A_p62, ↓A_p63, ↓A_p65, ↓A_p66, ↓A_p67, ↓A_p68, ↓A_p69, ↓A_p70, ↓A_pN, ↓A_pT, ↓I_X5_denyOthers_35, ↓r_iadd, ↓I_X5_giveFrom5, ↓L_iinc3, ↓r_goto, ↓J_X5_giveFrom4_50, ↓U_X5_giveFrom4_0, ↓U_X5_giveFrom4_34, ↓U_X5_giveFrom4_48, ↓U_X5_giveFrom4_92, ↓zthen_v, ↓zthen_0, zU_eq, zU_nc, zU_nj, cp, er, eT, hm7, hm8]
  · by_cases q2 : d = 0
    · have q1' : B.1 * toP P m (pst (rch P m w m) (toP P m) n) < rch P m w m (pst (rch P m w m) (toP P m) n) * B.2.1 := by
        rw [show (4 : Int) = m by omega] at q1
        omega
      rw [show d = 0 by omega, scn, stp, if_pos q1']
      rw [show (4 : Int) = m by omega] at cp er eT bT br s1 k2 ⊢
      generalize pst (rch P m w m) (toP P m) n = q at *
      have ck := c_keepW (s := s) (q := q) (by omega) (by omega) (by omega)
      refine ⟨zU (zU (zU (zCpy s 36 0 39 0 6) 35 7 (s 38 q)) 35 8 (s 37 q)) 35 9 q, ⟨fun t a b => ?_, fun x a b => ?_, ?_, ?_, ?_⟩, fun c i h => ?_, ?_⟩
      · simp (disch := omega) only [zU_ow, zCpy_nc]
        exact hv.1 t a (by omega)
      · simp (disch := omega) only [zU_ow, zCpy_nc]
        rw [hv.2.1 x a b, show (4 : Int) = m by omega]
      · simp (disch := omega) only [zU_ow, zU_eq]
        exact er
      · simp (disch := omega) only [zU_ow, zU_eq]
        exact eT
      · right
        refine ⟨zU_eq _ _ _ _, fun t a b => ?_⟩
        simp (disch := omega) only [zU_ow]
        rw [zCpy_in _ _ _ _ _ _ _ (by omega), show (0 : Int) + (t - 0) = t by omega]
        exact hv.1 t a (by omega)
      · simp (disch := omega) only [zU_ow, zCpy_nc]
      · rw [S_X5_giveFrom4]
        have k1' := mul_bd (show 0 ≤ s 38 q ∧ s 38 q ≤ 594 by omega) (show 0 ≤ B.2.1 ∧ B.2.1 ≤ 594 by omega)
        rw [← er, ← eT] at q1'
        rw [← eT] at k2
        simp (disch := first | exact z_tt rfl | assumption | omega | (simp (disch := omega) only [zU_eq, zU_nc, zU_nj]; omega)) only [↓L_ald_n0, ↓I_X5_poorest_35, ↓L_ist_n2, ↓L_ist_n2L, ↓F_g35_5, ↓L_ild_n2, ↓A_g3, ↓A_g4, ↓A_g5, ↓A_g6, ↓A_g7, ↓A_g9, ↓A_g10, ↓A_g12, ↓A_g13, ↓A_g15, ↓A_g16, ↓A_g19, ↓A_g20, ↓A_g21, ↓A_g22, ↓A_g23, ↓A_g25, ↓A_g26, ↓A_g28, ↓A_g29, ↓A_g31, ↓A_g32, ↓A_g34, ↓A_g36, ↓A_g37, ↓A_g38, ↓A_g39, ↓A_g41, ↓A_g42, ↓A_g43, ↓A_g44, ↓A_g61, ↓A_g62, ↓A_g63, ↓A_g65, ↓A_g66, ↓A_g67, ↓A_g68, ↓A_g69, ↓A_g70, ↓A_gN, ↓A_gT, ↓A_gC, ↓r_i2l, ↓F_g35_8, ↓r_lmul, ↓F_g35_7, ↓F_g35_4, ↓r_ifgt_t, ↓r_ifgt_f, ↓J_X5_giveFrom4_34, ↓r_lgt_t, ↓r_lgt_f, ↓r_return, ↓L_ild_n1, ↓F_g35_2, ↓r_iclt_t, ↓r_iclt_f, ↓J_X5_giveFrom4_48, ↓I_X5_keep_35, ↓r_iconst, ↓L_ist_n3, ↓L_ist_n3L, ↓L_ild_n3, ↓F_g35_1, ↓r_icge_t, ↓r_icge_f, ↓J_X5_giveFrom4_92, ↓F_g35_3, ↓A_p3, ↓A_p4, ↓A_p5, ↓A_p6, ↓A_p7, ↓A_p9, ↓A_p10, ↓A_p12, ↓A_p13, ↓A_p15, ↓A_p16, ↓A_p19, ↓A_p20, ↓A_p21, ↓A_p22, ↓A_p23, ↓A_p25, ↓A_p26, ↓A_p28, ↓A_p29, ↓A_p31, ↓A_p32, ↓A_p34, ↓A_p36, ↓A_p37, ↓A_p38, ↓A_p39, ↓A_p41, ↓A_p42, ↓A_p43, ↓A_p44, ↓A_p61, ↓A_p62, ↓A_p63, ↓A_p65, ↓A_p66, ↓A_p67, ↓A_p68, ↓A_p69, ↓A_p70, ↓A_pN, ↓A_pT, ↓I_X5_denyOthers_35, ↓r_iadd, ↓I_X5_giveFrom5, ↓L_iinc3, ↓r_goto, ↓J_X5_giveFrom4_50, ↓U_X5_giveFrom4_0, ↓U_X5_giveFrom4_34, ↓U_X5_giveFrom4_48, ↓U_X5_giveFrom4_92, ↓zthen_v, ↓zthen_0, zU_eq, zU_nc, zU_nj, cp, hm7, hm8, ck]
    · obtain ⟨d1, rfl⟩ : ∃ d1, d = d1 + 1 := ⟨d - 1, by omega⟩
      obtain ⟨s3, V3, F3, E3⟩ := c_gL4 (q := pst (rch P m w 4) (toP P m) n) hP hm hn d1 (by omega) w n.toNat 0 s B (by omega) (by omega) hs hv ⟨⟨g1, g2⟩, g3, g4⟩
      refine ⟨s3, ?_, F3, ?_⟩
      · rw [scn, show m - ((d1 : Int) + 1) = 4 by omega]
        exact V3
      · rw [S_X5_giveFrom4]
        generalize pst (rch P m w 4) (toP P m) n = q at *
        simp (disch := first | exact z_tt rfl | assumption | omega | (simp (disch := omega) only [zU_eq, zU_nc, zU_nj]; omega)) only [↓L_ald_n0, ↓I_X5_poorest_35, ↓L_ist_n2, ↓L_ist_n2L, ↓F_g35_5, ↓L_ild_n2, ↓A_g3, ↓A_g4, ↓A_g5, ↓A_g6, ↓A_g7, ↓A_g9, ↓A_g10, ↓A_g12, ↓A_g13, ↓A_g15, ↓A_g16, ↓A_g19, ↓A_g20, ↓A_g21, ↓A_g22, ↓A_g23, ↓A_g25, ↓A_g26, ↓A_g28, ↓A_g29, ↓A_g31, ↓A_g32, ↓A_g34, ↓A_g36, ↓A_g37, ↓A_g38, ↓A_g39, ↓A_g41, ↓A_g42, ↓A_g43, ↓A_g44, ↓A_g61, ↓A_g62, ↓A_g63, ↓A_g65, ↓A_g66, ↓A_g67, ↓A_g68, ↓A_g69, ↓A_g70, ↓A_gN, ↓A_gT, ↓A_gC, ↓r_i2l, ↓F_g35_8, ↓r_lmul, ↓F_g35_7, ↓F_g35_4, ↓r_ifgt_t, ↓r_ifgt_f, ↓J_X5_giveFrom4_34, ↓r_lgt_t, ↓r_lgt_f, ↓r_return, ↓L_ild_n1, ↓F_g35_2, ↓r_iclt_t, ↓r_iclt_f, ↓J_X5_giveFrom4_48, ↓I_X5_keep_35, ↓r_iconst, ↓L_ist_n3, ↓L_ist_n3L, ↓L_ild_n3, ↓F_g35_1, ↓r_icge_t, ↓r_icge_f, ↓J_X5_giveFrom4_92, ↓F_g35_3, ↓A_p3, ↓A_p4, ↓A_p5, ↓A_p6, ↓A_p7, ↓A_p9, ↓A_p10, ↓A_p12, ↓A_p13, ↓A_p15, ↓A_p16, ↓A_p19, ↓A_p20, ↓A_p21, ↓A_p22, ↓A_p23, ↓A_p25, ↓A_p26, ↓A_p28, ↓A_p29, ↓A_p31, ↓A_p32, ↓A_p34, ↓A_p36, ↓A_p37, ↓A_p38, ↓A_p39, ↓A_p41, ↓A_p42, ↓A_p43, ↓A_p44, ↓A_p61, ↓A_p62, ↓A_p63, ↓A_p65, ↓A_p66, ↓A_p67, ↓A_p68, ↓A_p69, ↓A_p70, ↓A_pN, ↓A_pT, ↓I_X5_denyOthers_35, ↓r_iadd, ↓I_X5_giveFrom5, ↓L_iinc3, ↓r_goto, ↓J_X5_giveFrom4_50, ↓U_X5_giveFrom4_0, ↓U_X5_giveFrom4_34, ↓U_X5_giveFrom4_48, ↓U_X5_giveFrom4_92, ↓zthen_v, ↓zthen_0, zU_eq, zU_nc, zU_nj, cp, er, eT, hm7, hm8]
        exact E3
set_option maxRecDepth 20000 in
set_option maxHeartbeats 4000000 in
theorem c_gL3 {P : Int → Int → Int} {m n q : Int} (hP : PN P m n) (hm : 0 ≤ m ∧ m ≤ 6) (hn : 1 ≤ n ∧ n ≤ 4) (d : Nat) (hd : m = 4 + d) (w : Int → Int) : ∀ (j : Nat) (p : Int) (s : zM) (B : Bst), 0 ≤ p → p + j = n → CWs s P m n → CWv s P m n w 3 B → GB B → ∃ s1, CWv s1 P m n w 3 (foldP (fun p B => scn P m n d (updW w 3 p) B) p j B) ∧ FrW s s1 ∧ zres 39 C_X5_giveFrom3_50 [vR 35, vI 3, vI q, vI p] [] s = some (none, s1) := by
  intro j
  induction j with
  | zero =>
    intro p s B hp hj hs hv hB
    refine ⟨s, hv, fun _ _ _ => rfl, ?_⟩
    have e1 := hs.2.1
    simp (disch := first | exact z_tt rfl | assumption | omega | (simp (disch := omega) only [zU_eq, zU_nc, zU_nj]; omega)) only [↓L_ald_n0, ↓I_X5_poorest_35, ↓L_ist_n2, ↓L_ist_n2L, ↓F_g35_5, ↓L_ild_n2, ↓A_g3, ↓A_g4, ↓A_g5, ↓A_g6, ↓A_g7, ↓A_g9, ↓A_g10, ↓A_g12, ↓A_g13, ↓A_g15, ↓A_g16, ↓A_g19, ↓A_g20, ↓A_g21, ↓A_g22, ↓A_g23, ↓A_g25, ↓A_g26, ↓A_g28, ↓A_g29, ↓A_g31, ↓A_g32, ↓A_g34, ↓A_g36, ↓A_g37, ↓A_g38, ↓A_g39, ↓A_g41, ↓A_g42, ↓A_g43, ↓A_g44, ↓A_g61, ↓A_g62, ↓A_g63, ↓A_g65, ↓A_g66, ↓A_g67, ↓A_g68, ↓A_g69, ↓A_g70, ↓A_gN, ↓A_gT, ↓A_gC, ↓r_i2l, ↓F_g35_8, ↓r_lmul, ↓F_g35_7, ↓F_g35_4, ↓r_ifgt_t, ↓r_ifgt_f, ↓J_X5_giveFrom3_34, ↓r_lgt_t, ↓r_lgt_f, ↓r_return, ↓L_ild_n1, ↓F_g35_2, ↓r_iclt_t, ↓r_iclt_f, ↓J_X5_giveFrom3_48, ↓I_X5_keep_35, ↓r_iconst, ↓L_ist_n3, ↓L_ist_n3L, ↓L_ild_n3, ↓F_g35_1, ↓r_icge_t, ↓r_icge_f, ↓J_X5_giveFrom3_92, ↓F_g35_3, ↓A_p3, ↓A_p4, ↓A_p5, ↓A_p6, ↓A_p7, ↓A_p9, ↓A_p10, ↓A_p12, ↓A_p13, ↓A_p15, ↓A_p16, ↓A_p19, ↓A_p20, ↓A_p21, ↓A_p22, ↓A_p23, ↓A_p25, ↓A_p26, ↓A_p28, ↓A_p29, ↓A_p31, ↓A_p32, ↓A_p34, ↓A_p36, ↓A_p37, ↓A_p38, ↓A_p39, ↓A_p41, ↓A_p42, ↓A_p43, ↓A_p44, ↓A_p61, ↓A_p62, ↓A_p63, ↓A_p65, ↓A_p66, ↓A_p67, ↓A_p68, ↓A_p69, ↓A_p70, ↓A_pN, ↓A_pT, ↓I_X5_denyOthers_35, ↓r_iadd, ↓I_X5_giveFrom4, ↓L_iinc3, ↓r_goto, ↓J_X5_giveFrom3_50, ↓U_X5_giveFrom3_0, ↓U_X5_giveFrom3_34, ↓U_X5_giveFrom3_48, ↓U_X5_giveFrom3_50, ↓U_X5_giveFrom3_92, ↓zthen_v, ↓zthen_0, zU_eq, zU_nc, zU_nj]
  | succ j ih =>
    intro p s B hp hj hs hv hB
    have e0 := hs.1
    have e1 := hs.2.1
    have e4 := hs.2.2.2.2
    obtain ⟨v1, v2, v3, v4, v5⟩ := hv
    obtain ⟨sb, H1, F1, C1⟩ := c_deny (s := zU s 36 3 p) (th := 3) (p := p) (c := 1) (n := n) (by omega) (by omega) (by omega) (by rw [zU_ow _ _ _ _ _ _ (by omega)]; exact e0) (by rw [zU_ow _ _ _ _ _ _ (by omega)]; exact e1)
    have FW1 : FrW s sb := fun c i h => by rw [F1 _ _ (by omega), zU_ow _ _ _ _ _ _ (by omega)]
    have V1' : CWv sb P m n (updW w 3 p) 4 B := by
      refine ⟨fun t a b => ?_, fun x a b => ?_, ?_, ?_, ?_⟩
      · rw [F1 _ _ (by omega)]
        unfold updW
        by_cases g : t = 3
        · rw [if_pos g, g, zU_eq]
        · rw [if_neg g, zU_ow _ _ _ _ _ _ (by omega)]
          exact v1 t a (by omega)
      · have r := rch_succ (P := P) (m := m) (updW w 3 p) (k := 3) (by omega) x
        rw [show (3 : Int) + 1 = 4 from rfl, rch_upd, upd_at] at r
        rw [r, H1 x a b, zU_ow _ _ _ _ _ _ (by omega), zU_ow _ _ _ _ _ _ (by omega), v2 x a b, e4 x _ a b (by omega) (by omega)]
        by_cases g : x = p
        · rw [if_pos g, if_pos g.symm]; omega
        · rw [if_neg g, if_neg (fun h => g h.symm)]; omega
      · rw [F1 _ _ (by omega), zU_ow _ _ _ _ _ _ (by omega)]; exact v3
      · rw [F1 _ _ (by omega), zU_ow _ _ _ _ _ _ (by omega)]; exact v4
      · rcases v5 with h | ⟨h, g⟩
        · exact Or.inl h
        · refine Or.inr ⟨by rw [F1 _ _ (by omega), zU_ow _ _ _ _ _ _ (by omega)]; exact h, fun t a b => ?_⟩
          rw [F1 _ _ (by omega), zU_ow _ _ _ _ _ _ (by omega)]; exact g t a b
    obtain ⟨sc, V2', FW2, C2⟩ := c_gF4 hP hm hn d hd sb (updW w 3 p) B (CWs_fr hn.2 hs FW1) V1' hB
    have hs2 := CWs_fr hn.2 (CWs_fr hn.2 hs FW1) FW2
    obtain ⟨sd, H3, F3, C3⟩ := c_deny (s := sc) (th := 3) (p := p) (c := -1) (n := n) (by omega) (by omega) (by omega) hs2.1 hs2.2.1
    obtain ⟨u1, u2, u3, u4, u5⟩ := V2'
    have FW3 : FrW sc sd := fun c i h => F3 _ _ (by omega)
    have V3 : CWv sd P m n w 3 (scn P m n d (updW w 3 p) B) := by
      refine ⟨fun t a b => ?_, fun x a b => ?_, ?_, ?_, ?_⟩
      · rw [F3 _ _ (by omega), u1 t a (by omega)]
        unfold updW
        rw [if_neg (by omega)]
      · have r := rch_succ (P := P) (m := m) (updW w 3 p) (k := 3) (by omega) x
        rw [show (3 : Int) + 1 = 4 from rfl, rch_upd, upd_at] at r
        rw [H3 x a b, u2 x a b, r, hs2.2.2.2.2 x _ a b (by omega) (by omega)]
        by_cases g : x = p
        · rw [if_pos g, if_pos g.symm]; omega
        · rw [if_neg g, if_neg (fun h => g h.symm)]; omega
      · rw [F3 _ _ (by omega)]; exact u3
      · rw [F3 _ _ (by omega)]; exact u4
      · rcases u5 with h | ⟨h, g⟩
        · exact Or.inl h
        · exact Or.inr ⟨by rw [F3 _ _ (by omega)]; exact h, fun t a b => by rw [F3 _ _ (by omega)]; exact g t a b⟩
    obtain ⟨s1, V4, FW4, E⟩ := ih (p + 1) sd _ (by omega) (by omega) (CWs_fr hn.2 hs2 FW3) V3 (scn_GB hP hm hn.1 d _ B hB).1
    refine ⟨s1, V4, fun c i h => by rw [FW4 c i h, FW3 c i h, FW2 c i h, FW1 c i h], ?_⟩
    have C2' : zcall 40 [vR 35, vI (3 + 1)] sb = some (none, sc) := C2
    rw [U_X5_giveFrom3_50]
    simp (disch := first | exact z_tt rfl | assumption | omega | (simp (disch := omega) only [zU_eq, zU_nc, zU_nj]; omega)) only [↓L_ald_n0, ↓I_X5_poorest_35, ↓L_ist_n2, ↓L_ist_n2L, ↓F_g35_5, ↓L_ild_n2, ↓A_g3, ↓A_g4, ↓A_g5, ↓A_g6, ↓A_g7, ↓A_g9, ↓A_g10, ↓A_g12, ↓A_g13, ↓A_g15, ↓A_g16, ↓A_g19, ↓A_g20, ↓A_g21, ↓A_g22, ↓A_g23, ↓A_g25, ↓A_g26, ↓A_g28, ↓A_g29, ↓A_g31, ↓A_g32, ↓A_g34, ↓A_g36, ↓A_g37, ↓A_g38, ↓A_g39, ↓A_g41, ↓A_g42, ↓A_g43, ↓A_g44, ↓A_g61, ↓A_g62, ↓A_g63, ↓A_g65, ↓A_g66, ↓A_g67, ↓A_g68, ↓A_g69, ↓A_g70, ↓A_gN, ↓A_gT, ↓A_gC, ↓r_i2l, ↓F_g35_8, ↓r_lmul, ↓F_g35_7, ↓F_g35_4, ↓r_ifgt_t, ↓r_ifgt_f, ↓J_X5_giveFrom3_34, ↓r_lgt_t, ↓r_lgt_f, ↓r_return, ↓L_ild_n1, ↓F_g35_2, ↓r_iclt_t, ↓r_iclt_f, ↓J_X5_giveFrom3_48, ↓I_X5_keep_35, ↓r_iconst, ↓L_ist_n3, ↓L_ist_n3L, ↓L_ild_n3, ↓F_g35_1, ↓r_icge_t, ↓r_icge_f, ↓J_X5_giveFrom3_92, ↓F_g35_3, ↓A_p3, ↓A_p4, ↓A_p5, ↓A_p6, ↓A_p7, ↓A_p9, ↓A_p10, ↓A_p12, ↓A_p13, ↓A_p15, ↓A_p16, ↓A_p19, ↓A_p20, ↓A_p21, ↓A_p22, ↓A_p23, ↓A_p25, ↓A_p26, ↓A_p28, ↓A_p29, ↓A_p31, ↓A_p32, ↓A_p34, ↓A_p36, ↓A_p37, ↓A_p38, ↓A_p39, ↓A_p41, ↓A_p42, ↓A_p43, ↓A_p44, ↓A_p61, ↓A_p62, ↓A_p63, ↓A_p65, ↓A_p66, ↓A_p67, ↓A_p68, ↓A_p69, ↓A_p70, ↓A_pN, ↓A_pT, ↓I_X5_denyOthers_35, ↓r_iadd, ↓I_X5_giveFrom4, ↓L_iinc3, ↓r_goto, ↓J_X5_giveFrom3_50, ↓U_X5_giveFrom3_0, ↓U_X5_giveFrom3_34, ↓U_X5_giveFrom3_48, ↓U_X5_giveFrom3_92, ↓zthen_v, ↓zthen_0, zU_eq, zU_nc, zU_nj, C1, C2', C3]
    exact E
set_option maxRecDepth 20000 in
set_option maxHeartbeats 4000000 in
theorem c_gF3 {P : Int → Int → Int} {m n : Int} (hP : PN P m n) (hm : 0 ≤ m ∧ m ≤ 6) (hn : 1 ≤ n ∧ n ≤ 4) (d : Nat) (hd : m = 3 + d) : ∀ (s : zM) (w : Int → Int) (B : Bst), CWs s P m n → CWv s P m n w 3 B → GB B → ∃ s1, CWv s1 P m n w 3 (scn P m n d w B) ∧ FrW s s1 ∧ zcall 39 [vR 35, vI 3] s = some (none, s1) := by
  intro s w B hs hv hB
  have cp := c_poorest hP hm hn (k := 3) (by omega) hs hv
  have hT : ∀ p : Int, 0 ≤ p → p < n → 0 < toP P m p := fun p a b => by
    have := toP_bd hP hm (p := p) ⟨a, b⟩
    omega
  obtain ⟨s1, s2⟩ := pst_spec (r := rch P m w 3) (T := toP P m) hn.1 hT
  have e2 := hs.2.2.1
  have er := hv.2.1 _ s1.1 s1.2
  have eT := hs.2.2.2.1 _ s1.1 s1.2
  have bT := toP_bd hP hm s1
  have br := rch_bd hP hm w (k := 3) (by omega) s1
  have hm7 := hv.2.2.1
  have hm8 := hv.2.2.2.1
  obtain ⟨⟨g1, g2⟩, g3, g4⟩ := hB
  have k1 := mul_bd br (show 0 ≤ B.2.1 ∧ B.2.1 ≤ 594 by omega)
  have k2 : -594 ≤ B.1 * toP P m (pst (rch P m w 3) (toP P m) n) ∧ B.1 * toP P m (pst (rch P m w 3) (toP P m) n) ≤ 352836 := by
    by_cases h : 0 ≤ B.1
    · have := mul_bd (show 0 ≤ B.1 ∧ B.1 ≤ 594 by omega) (show 0 ≤ toP P m (pst (rch P m w 3) (toP P m) n) ∧ toP P m (pst (rch P m w 3) (toP P m) n) ≤ 594 by omega)
      omega
    · rw [show B.1 = -1 by omega]
      omega
  by_cases q1 : rch P m w 3 (pst (rch P m w 3) (toP P m) n) * B.2.1 ≤ B.1 * toP P m (pst (rch P m w 3) (toP P m) n)
  · rw [scn_prune hP hm hn.1 (by omega) d w (by omega) ⟨_, s1, by rw [show m - (d : Int) = 3 by omega]; exact q1⟩]
    refine ⟨s, hv, fun _ _ _ => rfl, ?_⟩
    rw [S_X5_giveFrom3]
    generalize pst (rch P m w 3) (toP P m) n = q at *
    simp (disch := first | exact z_tt rfl | assumption | omega | (simp (disch := omega) only [zU_eq, zU_nc, zU_nj]; omega)) only [↓L_ald_n0, ↓I_X5_poorest_35, ↓L_ist_n2, ↓L_ist_n2L, ↓F_g35_5, ↓L_ild_n2, ↓A_g3, ↓A_g4, ↓A_g5, ↓A_g6, ↓A_g7, ↓A_g9, ↓A_g10, ↓A_g12, ↓A_g13, ↓A_g15, ↓A_g16, ↓A_g19, ↓A_g20, ↓A_g21, ↓A_g22, ↓A_g23, ↓A_g25, ↓A_g26, ↓A_g28, ↓A_g29, ↓A_g31, ↓A_g32, ↓A_g34, ↓A_g36, ↓A_g37, ↓A_g38, ↓A_g39, ↓A_g41, ↓A_g42, ↓A_g43, ↓A_g44, ↓A_g61, ↓A_g62, ↓A_g63, ↓A_g65, ↓A_g66, ↓A_g67, ↓A_g68, ↓A_g69, ↓A_g70, ↓A_gN, ↓A_gT, ↓A_gC, ↓r_i2l, ↓F_g35_8, ↓r_lmul, ↓F_g35_7, ↓F_g35_4, ↓r_ifgt_t, ↓r_ifgt_f, ↓J_X5_giveFrom3_34, ↓r_lgt_t, ↓r_lgt_f, ↓r_return, ↓L_ild_n1, ↓F_g35_2, ↓r_iclt_t, ↓r_iclt_f, ↓J_X5_giveFrom3_48, ↓I_X5_keep_35, ↓r_iconst, ↓L_ist_n3, ↓L_ist_n3L, ↓L_ild_n3, ↓F_g35_1, ↓r_icge_t, ↓r_icge_f, ↓J_X5_giveFrom3_92, ↓F_g35_3, ↓A_p3, ↓A_p4, ↓A_p5, ↓A_p6, ↓A_p7, ↓A_p9, ↓A_p10, ↓A_p12, ↓A_p13, ↓A_p15, ↓A_p16, ↓A_p19, ↓A_p20, ↓A_p21, ↓A_p22, ↓A_p23, ↓A_p25, ↓A_p26, ↓A_p28, ↓A_p29, ↓A_p31, ↓A_p32, ↓A_p34, ↓A_p36, ↓A_p37, ↓A_p38, ↓A_p39, ↓A_p41, ↓A_p42, ↓A_p43, ↓A_p44, ↓A_p61, ↓A_p62, ↓A_p63, ↓A_p65, ↓A_p66, ↓A_p67, ↓A_p68, ↓A_p69, ↓A_p70, ↓A_pN, ↓A_pT, ↓I_X5_denyOthers_35, ↓r_iadd, ↓I_X5_giveFrom4, ↓L_iinc3, ↓r_goto, ↓J_X5_giveFrom3_50, ↓U_X5_giveFrom3_0, ↓U_X5_giveFrom3_34, ↓U_X5_giveFrom3_48, ↓U_X5_giveFrom3_92, ↓zthen_v, ↓zthen_0, zU_eq, zU_nc, zU_nj, cp, er, eT, hm7, hm8]
  · by_cases q2 : d = 0
    · have q1' : B.1 * toP P m (pst (rch P m w m) (toP P m) n) < rch P m w m (pst (rch P m w m) (toP P m) n) * B.2.1 := by
        rw [show (3 : Int) = m by omega] at q1
        omega
      rw [show d = 0 by omega, scn, stp, if_pos q1']
      rw [show (3 : Int) = m by omega] at cp er eT bT br s1 k2 ⊢
      generalize pst (rch P m w m) (toP P m) n = q at *
      have ck := c_keepW (s := s) (q := q) (by omega) (by omega) (by omega)
      refine ⟨zU (zU (zU (zCpy s 36 0 39 0 6) 35 7 (s 38 q)) 35 8 (s 37 q)) 35 9 q, ⟨fun t a b => ?_, fun x a b => ?_, ?_, ?_, ?_⟩, fun c i h => ?_, ?_⟩
      · simp (disch := omega) only [zU_ow, zCpy_nc]
        exact hv.1 t a (by omega)
      · simp (disch := omega) only [zU_ow, zCpy_nc]
        rw [hv.2.1 x a b, show (3 : Int) = m by omega]
      · simp (disch := omega) only [zU_ow, zU_eq]
        exact er
      · simp (disch := omega) only [zU_ow, zU_eq]
        exact eT
      · right
        refine ⟨zU_eq _ _ _ _, fun t a b => ?_⟩
        simp (disch := omega) only [zU_ow]
        rw [zCpy_in _ _ _ _ _ _ _ (by omega), show (0 : Int) + (t - 0) = t by omega]
        exact hv.1 t a (by omega)
      · simp (disch := omega) only [zU_ow, zCpy_nc]
      · rw [S_X5_giveFrom3]
        have k1' := mul_bd (show 0 ≤ s 38 q ∧ s 38 q ≤ 594 by omega) (show 0 ≤ B.2.1 ∧ B.2.1 ≤ 594 by omega)
        rw [← er, ← eT] at q1'
        rw [← eT] at k2
        simp (disch := first | exact z_tt rfl | assumption | omega | (simp (disch := omega) only [zU_eq, zU_nc, zU_nj]; omega)) only [↓L_ald_n0, ↓I_X5_poorest_35, ↓L_ist_n2, ↓L_ist_n2L, ↓F_g35_5, ↓L_ild_n2, ↓A_g3, ↓A_g4, ↓A_g5, ↓A_g6, ↓A_g7, ↓A_g9, ↓A_g10, ↓A_g12, ↓A_g13, ↓A_g15, ↓A_g16, ↓A_g19, ↓A_g20, ↓A_g21, ↓A_g22, ↓A_g23, ↓A_g25, ↓A_g26, ↓A_g28, ↓A_g29, ↓A_g31, ↓A_g32, ↓A_g34, ↓A_g36, ↓A_g37, ↓A_g38, ↓A_g39, ↓A_g41, ↓A_g42, ↓A_g43, ↓A_g44, ↓A_g61, ↓A_g62, ↓A_g63, ↓A_g65, ↓A_g66, ↓A_g67, ↓A_g68, ↓A_g69, ↓A_g70, ↓A_gN, ↓A_gT, ↓A_gC, ↓r_i2l, ↓F_g35_8, ↓r_lmul, ↓F_g35_7, ↓F_g35_4, ↓r_ifgt_t, ↓r_ifgt_f, ↓J_X5_giveFrom3_34, ↓r_lgt_t, ↓r_lgt_f, ↓r_return, ↓L_ild_n1, ↓F_g35_2, ↓r_iclt_t, ↓r_iclt_f, ↓J_X5_giveFrom3_48, ↓I_X5_keep_35, ↓r_iconst, ↓L_ist_n3, ↓L_ist_n3L, ↓L_ild_n3, ↓F_g35_1, ↓r_icge_t, ↓r_icge_f, ↓J_X5_giveFrom3_92, ↓F_g35_3, ↓A_p3, ↓A_p4, ↓A_p5, ↓A_p6, ↓A_p7, ↓A_p9, ↓A_p10, ↓A_p12, ↓A_p13, ↓A_p15, ↓A_p16, ↓A_p19, ↓A_p20, ↓A_p21, ↓A_p22, ↓A_p23, ↓A_p25, ↓A_p26, ↓A_p28, ↓A_p29, ↓A_p31, ↓A_p32, ↓A_p34, ↓A_p36, ↓A_p37, ↓A_p38, ↓A_p39, ↓A_p41, ↓A_p42, ↓A_p43, ↓A_p44, ↓A_p61, ↓A_p62, ↓A_p63, ↓A_p65, ↓A_p66, ↓A_p67, ↓A_p68, ↓A_p69, ↓A_p70, ↓A_pN, ↓A_pT, ↓I_X5_denyOthers_35, ↓r_iadd, ↓I_X5_giveFrom4, ↓L_iinc3, ↓r_goto, ↓J_X5_giveFrom3_50, ↓U_X5_giveFrom3_0, ↓U_X5_giveFrom3_34, ↓U_X5_giveFrom3_48, ↓U_X5_giveFrom3_92, ↓zthen_v, ↓zthen_0, zU_eq, zU_nc, zU_nj, cp, hm7, hm8, ck]
    · obtain ⟨d1, rfl⟩ : ∃ d1, d = d1 + 1 := ⟨d - 1, by omega⟩
      obtain ⟨s3, V3, F3, E3⟩ := c_gL3 (q := pst (rch P m w 3) (toP P m) n) hP hm hn d1 (by omega) w n.toNat 0 s B (by omega) (by omega) hs hv ⟨⟨g1, g2⟩, g3, g4⟩
      refine ⟨s3, ?_, F3, ?_⟩
      · rw [scn, show m - ((d1 : Int) + 1) = 3 by omega]
        exact V3
      · rw [S_X5_giveFrom3]
        generalize pst (rch P m w 3) (toP P m) n = q at *
        simp (disch := first | exact z_tt rfl | assumption | omega | (simp (disch := omega) only [zU_eq, zU_nc, zU_nj]; omega)) only [↓L_ald_n0, ↓I_X5_poorest_35, ↓L_ist_n2, ↓L_ist_n2L, ↓F_g35_5, ↓L_ild_n2, ↓A_g3, ↓A_g4, ↓A_g5, ↓A_g6, ↓A_g7, ↓A_g9, ↓A_g10, ↓A_g12, ↓A_g13, ↓A_g15, ↓A_g16, ↓A_g19, ↓A_g20, ↓A_g21, ↓A_g22, ↓A_g23, ↓A_g25, ↓A_g26, ↓A_g28, ↓A_g29, ↓A_g31, ↓A_g32, ↓A_g34, ↓A_g36, ↓A_g37, ↓A_g38, ↓A_g39, ↓A_g41, ↓A_g42, ↓A_g43, ↓A_g44, ↓A_g61, ↓A_g62, ↓A_g63, ↓A_g65, ↓A_g66, ↓A_g67, ↓A_g68, ↓A_g69, ↓A_g70, ↓A_gN, ↓A_gT, ↓A_gC, ↓r_i2l, ↓F_g35_8, ↓r_lmul, ↓F_g35_7, ↓F_g35_4, ↓r_ifgt_t, ↓r_ifgt_f, ↓J_X5_giveFrom3_34, ↓r_lgt_t, ↓r_lgt_f, ↓r_return, ↓L_ild_n1, ↓F_g35_2, ↓r_iclt_t, ↓r_iclt_f, ↓J_X5_giveFrom3_48, ↓I_X5_keep_35, ↓r_iconst, ↓L_ist_n3, ↓L_ist_n3L, ↓L_ild_n3, ↓F_g35_1, ↓r_icge_t, ↓r_icge_f, ↓J_X5_giveFrom3_92, ↓F_g35_3, ↓A_p3, ↓A_p4, ↓A_p5, ↓A_p6, ↓A_p7, ↓A_p9, ↓A_p10, ↓A_p12, ↓A_p13, ↓A_p15, ↓A_p16, ↓A_p19, ↓A_p20, ↓A_p21, ↓A_p22, ↓A_p23, ↓A_p25, ↓A_p26, ↓A_p28, ↓A_p29, ↓A_p31, ↓A_p32, ↓A_p34, ↓A_p36, ↓A_p37, ↓A_p38, ↓A_p39, ↓A_p41, ↓A_p42, ↓A_p43, ↓A_p44, ↓A_p61, ↓A_p62, ↓A_p63, ↓A_p65, ↓A_p66, ↓A_p67, ↓A_p68, ↓A_p69, ↓A_p70, ↓A_pN, ↓A_pT, ↓I_X5_denyOthers_35, ↓r_iadd, ↓I_X5_giveFrom4, ↓L_iinc3, ↓r_goto, ↓J_X5_giveFrom3_50, ↓U_X5_giveFrom3_0, ↓U_X5_giveFrom3_34, ↓U_X5_giveFrom3_48, ↓U_X5_giveFrom3_92, ↓zthen_v, ↓zthen_0, zU_eq, zU_nc, zU_nj, cp, er, eT, hm7, hm8]
        exact E3
set_option maxRecDepth 20000 in
set_option maxHeartbeats 4000000 in
theorem c_gL2 {P : Int → Int → Int} {m n q : Int} (hP : PN P m n) (hm : 0 ≤ m ∧ m ≤ 6) (hn : 1 ≤ n ∧ n ≤ 4) (d : Nat) (hd : m = 3 + d) (w : Int → Int) : ∀ (j : Nat) (p : Int) (s : zM) (B : Bst), 0 ≤ p → p + j = n → CWs s P m n → CWv s P m n w 2 B → GB B → ∃ s1, CWv s1 P m n w 2 (foldP (fun p B => scn P m n d (updW w 2 p) B) p j B) ∧ FrW s s1 ∧ zres 38 C_X5_giveFrom2_50 [vR 35, vI 2, vI q, vI p] [] s = some (none, s1) := by
  intro j
  induction j with
  | zero =>
    intro p s B hp hj hs hv hB
    refine ⟨s, hv, fun _ _ _ => rfl, ?_⟩
    have e1 := hs.2.1
    simp (disch := first | exact z_tt rfl | assumption | omega | (simp (disch := omega) only [zU_eq, zU_nc, zU_nj]; omega)) only [↓L_ald_n0, ↓I_X5_poorest_35, ↓L_ist_n2, ↓L_ist_n2L, ↓F_g35_5, ↓L_ild_n2, ↓A_g3, ↓A_g4, ↓A_g5, ↓A_g6, ↓A_g7, ↓A_g9, ↓A_g10, ↓A_g12, ↓A_g13, ↓A_g15, ↓A_g16, ↓A_g19, ↓A_g20, ↓A_g21, ↓A_g22, ↓A_g23, ↓A_g25, ↓A_g26, ↓A_g28, ↓A_g29, ↓A_g31, ↓A_g32, ↓A_g34, ↓A_g36, ↓A_g37, ↓A_g38, ↓A_g39, ↓A_g41, ↓A_g42, ↓A_g43, ↓A_g44, ↓A_g61, ↓A_g62, ↓A_g63, ↓A_g65, ↓A_g66, ↓A_g67, ↓A_g68, ↓A_g69, ↓A_g70, ↓A_gN, ↓A_gT, ↓A_gC, ↓r_i2l, ↓F_g35_8, ↓r_lmul, ↓F_g35_7, ↓F_g35_4, ↓r_ifgt_t, ↓r_ifgt_f, ↓J_X5_giveFrom2_34, ↓r_lgt_t, ↓r_lgt_f, ↓r_return, ↓L_ild_n1, ↓F_g35_2, ↓r_iclt_t, ↓r_iclt_f, ↓J_X5_giveFrom2_48, ↓I_X5_keep_35, ↓r_iconst, ↓L_ist_n3, ↓L_ist_n3L, ↓L_ild_n3, ↓F_g35_1, ↓r_icge_t, ↓r_icge_f, ↓J_X5_giveFrom2_92, ↓F_g35_3, ↓A_p3, ↓A_p4, ↓A_p5, ↓A_p6, ↓A_p7, ↓A_p9, ↓A_p10, ↓A_p12, ↓A_p13, ↓A_p15, ↓A_p16, ↓A_p19, ↓A_p20, ↓A_p21, ↓A_p22, ↓A_p23, ↓A_p25, ↓A_p26, ↓A_p28, ↓A_p29, ↓A_p31, ↓A_p32, ↓A_p34, ↓A_p36, ↓A_p37, ↓A_p38, ↓A_p39, ↓A_p41, ↓A_p42, ↓A_p43, ↓A_p44, ↓A_p61, ↓A_p62, ↓A_p63, ↓A_p65, ↓A_p66, ↓A_p67, ↓A_p68, ↓A_p69, ↓A_p70, ↓A_pN, ↓A_pT, ↓I_X5_denyOthers_35, ↓r_iadd, ↓I_X5_giveFrom3, ↓L_iinc3, ↓r_goto, ↓J_X5_giveFrom2_50, ↓U_X5_giveFrom2_0, ↓U_X5_giveFrom2_34, ↓U_X5_giveFrom2_48, ↓U_X5_giveFrom2_50, ↓U_X5_giveFrom2_92, ↓zthen_v, ↓zthen_0, zU_eq, zU_nc, zU_nj]
  | succ j ih =>
    intro p s B hp hj hs hv hB
    have e0 := hs.1
    have e1 := hs.2.1
    have e4 := hs.2.2.2.2
    obtain ⟨v1, v2, v3, v4, v5⟩ := hv
    obtain ⟨sb, H1, F1, C1⟩ := c_deny (s := zU s 36 2 p) (th := 2) (p := p) (c := 1) (n := n) (by omega) (by omega) (by omega) (by rw [zU_ow _ _ _ _ _ _ (by omega)]; exact e0) (by rw [zU_ow _ _ _ _ _ _ (by omega)]; exact e1)
    have FW1 : FrW s sb := fun c i h => by rw [F1 _ _ (by omega), zU_ow _ _ _ _ _ _ (by omega)]
    have V1' : CWv sb P m n (updW w 2 p) 3 B := by
      refine ⟨fun t a b => ?_, fun x a b => ?_, ?_, ?_, ?_⟩
      · rw [F1 _ _ (by omega)]
        unfold updW
        by_cases g : t = 2
        · rw [if_pos g, g, zU_eq]
        · rw [if_neg g, zU_ow _ _ _ _ _ _ (by omega)]
          exact v1 t a (by omega)
      · have r := rch_succ (P := P) (m := m) (updW w 2 p) (k := 2) (by omega) x
        rw [show (2 : Int) + 1 = 3 from rfl, rch_upd, upd_at] at r
        rw [r, H1 x a b, zU_ow _ _ _ _ _ _ (by omega), zU_ow _ _ _ _ _ _ (by omega), v2 x a b, e4 x _ a b (by omega) (by omega)]
        by_cases g : x = p
        · rw [if_pos g, if_pos g.symm]; omega
        · rw [if_neg g, if_neg (fun h => g h.symm)]; omega
      · rw [F1 _ _ (by omega), zU_ow _ _ _ _ _ _ (by omega)]; exact v3
      · rw [F1 _ _ (by omega), zU_ow _ _ _ _ _ _ (by omega)]; exact v4
      · rcases v5 with h | ⟨h, g⟩
        · exact Or.inl h
        · refine Or.inr ⟨by rw [F1 _ _ (by omega), zU_ow _ _ _ _ _ _ (by omega)]; exact h, fun t a b => ?_⟩
          rw [F1 _ _ (by omega), zU_ow _ _ _ _ _ _ (by omega)]; exact g t a b
    obtain ⟨sc, V2', FW2, C2⟩ := c_gF3 hP hm hn d hd sb (updW w 2 p) B (CWs_fr hn.2 hs FW1) V1' hB
    have hs2 := CWs_fr hn.2 (CWs_fr hn.2 hs FW1) FW2
    obtain ⟨sd, H3, F3, C3⟩ := c_deny (s := sc) (th := 2) (p := p) (c := -1) (n := n) (by omega) (by omega) (by omega) hs2.1 hs2.2.1
    obtain ⟨u1, u2, u3, u4, u5⟩ := V2'
    have FW3 : FrW sc sd := fun c i h => F3 _ _ (by omega)
    have V3 : CWv sd P m n w 2 (scn P m n d (updW w 2 p) B) := by
      refine ⟨fun t a b => ?_, fun x a b => ?_, ?_, ?_, ?_⟩
      · rw [F3 _ _ (by omega), u1 t a (by omega)]
        unfold updW
        rw [if_neg (by omega)]
      · have r := rch_succ (P := P) (m := m) (updW w 2 p) (k := 2) (by omega) x
        rw [show (2 : Int) + 1 = 3 from rfl, rch_upd, upd_at] at r
        rw [H3 x a b, u2 x a b, r, hs2.2.2.2.2 x _ a b (by omega) (by omega)]
        by_cases g : x = p
        · rw [if_pos g, if_pos g.symm]; omega
        · rw [if_neg g, if_neg (fun h => g h.symm)]; omega
      · rw [F3 _ _ (by omega)]; exact u3
      · rw [F3 _ _ (by omega)]; exact u4
      · rcases u5 with h | ⟨h, g⟩
        · exact Or.inl h
        · exact Or.inr ⟨by rw [F3 _ _ (by omega)]; exact h, fun t a b => by rw [F3 _ _ (by omega)]; exact g t a b⟩
    obtain ⟨s1, V4, FW4, E⟩ := ih (p + 1) sd _ (by omega) (by omega) (CWs_fr hn.2 hs2 FW3) V3 (scn_GB hP hm hn.1 d _ B hB).1
    refine ⟨s1, V4, fun c i h => by rw [FW4 c i h, FW3 c i h, FW2 c i h, FW1 c i h], ?_⟩
    have C2' : zcall 39 [vR 35, vI (2 + 1)] sb = some (none, sc) := C2
    rw [U_X5_giveFrom2_50]
    simp (disch := first | exact z_tt rfl | assumption | omega | (simp (disch := omega) only [zU_eq, zU_nc, zU_nj]; omega)) only [↓L_ald_n0, ↓I_X5_poorest_35, ↓L_ist_n2, ↓L_ist_n2L, ↓F_g35_5, ↓L_ild_n2, ↓A_g3, ↓A_g4, ↓A_g5, ↓A_g6, ↓A_g7, ↓A_g9, ↓A_g10, ↓A_g12, ↓A_g13, ↓A_g15, ↓A_g16, ↓A_g19, ↓A_g20, ↓A_g21, ↓A_g22, ↓A_g23, ↓A_g25, ↓A_g26, ↓A_g28, ↓A_g29, ↓A_g31, ↓A_g32, ↓A_g34, ↓A_g36, ↓A_g37, ↓A_g38, ↓A_g39, ↓A_g41, ↓A_g42, ↓A_g43, ↓A_g44, ↓A_g61, ↓A_g62, ↓A_g63, ↓A_g65, ↓A_g66, ↓A_g67, ↓A_g68, ↓A_g69, ↓A_g70, ↓A_gN, ↓A_gT, ↓A_gC, ↓r_i2l, ↓F_g35_8, ↓r_lmul, ↓F_g35_7, ↓F_g35_4, ↓r_ifgt_t, ↓r_ifgt_f, ↓J_X5_giveFrom2_34, ↓r_lgt_t, ↓r_lgt_f, ↓r_return, ↓L_ild_n1, ↓F_g35_2, ↓r_iclt_t, ↓r_iclt_f, ↓J_X5_giveFrom2_48, ↓I_X5_keep_35, ↓r_iconst, ↓L_ist_n3, ↓L_ist_n3L, ↓L_ild_n3, ↓F_g35_1, ↓r_icge_t, ↓r_icge_f, ↓J_X5_giveFrom2_92, ↓F_g35_3, ↓A_p3, ↓A_p4, ↓A_p5, ↓A_p6, ↓A_p7, ↓A_p9, ↓A_p10, ↓A_p12, ↓A_p13, ↓A_p15, ↓A_p16, ↓A_p19, ↓A_p20, ↓A_p21, ↓A_p22, ↓A_p23, ↓A_p25, ↓A_p26, ↓A_p28, ↓A_p29, ↓A_p31, ↓A_p32, ↓A_p34, ↓A_p36, ↓A_p37, ↓A_p38, ↓A_p39, ↓A_p41, ↓A_p42, ↓A_p43, ↓A_p44, ↓A_p61, ↓A_p62, ↓A_p63, ↓A_p65, ↓A_p66, ↓A_p67, ↓A_p68, ↓A_p69, ↓A_p70, ↓A_pN, ↓A_pT, ↓I_X5_denyOthers_35, ↓r_iadd, ↓I_X5_giveFrom3, ↓L_iinc3, ↓r_goto, ↓J_X5_giveFrom2_50, ↓U_X5_giveFrom2_0, ↓U_X5_giveFrom2_34, ↓U_X5_giveFrom2_48, ↓U_X5_giveFrom2_92, ↓zthen_v, ↓zthen_0, zU_eq, zU_nc, zU_nj, C1, C2', C3]
    exact E
set_option maxRecDepth 20000 in
set_option maxHeartbeats 4000000 in
theorem c_gF2 {P : Int → Int → Int} {m n : Int} (hP : PN P m n) (hm : 0 ≤ m ∧ m ≤ 6) (hn : 1 ≤ n ∧ n ≤ 4) (d : Nat) (hd : m = 2 + d) : ∀ (s : zM) (w : Int → Int) (B : Bst), CWs s P m n → CWv s P m n w 2 B → GB B → ∃ s1, CWv s1 P m n w 2 (scn P m n d w B) ∧ FrW s s1 ∧ zcall 38 [vR 35, vI 2] s = some (none, s1) := by
  intro s w B hs hv hB
  have cp := c_poorest hP hm hn (k := 2) (by omega) hs hv
  have hT : ∀ p : Int, 0 ≤ p → p < n → 0 < toP P m p := fun p a b => by
    have := toP_bd hP hm (p := p) ⟨a, b⟩
    omega
  obtain ⟨s1, s2⟩ := pst_spec (r := rch P m w 2) (T := toP P m) hn.1 hT
  have e2 := hs.2.2.1
  have er := hv.2.1 _ s1.1 s1.2
  have eT := hs.2.2.2.1 _ s1.1 s1.2
  have bT := toP_bd hP hm s1
  have br := rch_bd hP hm w (k := 2) (by omega) s1
  have hm7 := hv.2.2.1
  have hm8 := hv.2.2.2.1
  obtain ⟨⟨g1, g2⟩, g3, g4⟩ := hB
  have k1 := mul_bd br (show 0 ≤ B.2.1 ∧ B.2.1 ≤ 594 by omega)
  have k2 : -594 ≤ B.1 * toP P m (pst (rch P m w 2) (toP P m) n) ∧ B.1 * toP P m (pst (rch P m w 2) (toP P m) n) ≤ 352836 := by
    by_cases h : 0 ≤ B.1
    · have := mul_bd (show 0 ≤ B.1 ∧ B.1 ≤ 594 by omega) (show 0 ≤ toP P m (pst (rch P m w 2) (toP P m) n) ∧ toP P m (pst (rch P m w 2) (toP P m) n) ≤ 594 by omega)
      omega
    · rw [show B.1 = -1 by omega]
      omega
  by_cases q1 : rch P m w 2 (pst (rch P m w 2) (toP P m) n) * B.2.1 ≤ B.1 * toP P m (pst (rch P m w 2) (toP P m) n)
  · rw [scn_prune hP hm hn.1 (by omega) d w (by omega) ⟨_, s1, by rw [show m - (d : Int) = 2 by omega]; exact q1⟩]
    refine ⟨s, hv, fun _ _ _ => rfl, ?_⟩
    rw [S_X5_giveFrom2]
    generalize pst (rch P m w 2) (toP P m) n = q at *
    simp (disch := first | exact z_tt rfl | assumption | omega | (simp (disch := omega) only [zU_eq, zU_nc, zU_nj]; omega)) only [↓L_ald_n0, ↓I_X5_poorest_35, ↓L_ist_n2, ↓L_ist_n2L, ↓F_g35_5, ↓L_ild_n2, ↓A_g3, ↓A_g4, ↓A_g5, ↓A_g6, ↓A_g7, ↓A_g9, ↓A_g10, ↓A_g12, ↓A_g13, ↓A_g15, ↓A_g16, ↓A_g19, ↓A_g20, ↓A_g21, ↓A_g22, ↓A_g23, ↓A_g25, ↓A_g26, ↓A_g28, ↓A_g29, ↓A_g31, ↓A_g32, ↓A_g34, ↓A_g36, ↓A_g37, ↓A_g38, ↓A_g39, ↓A_g41, ↓A_g42, ↓A_g43, ↓A_g44, ↓A_g61, ↓A_g62, ↓A_g63, ↓A_g65, ↓A_g66, ↓A_g67, ↓A_g68, ↓A_g69, ↓A_g70, ↓A_gN, ↓A_gT, ↓A_gC, ↓r_i2l, ↓F_g35_8, ↓r_lmul, ↓F_g35_7, ↓F_g35_4, ↓r_ifgt_t, ↓r_ifgt_f, ↓J_X5_giveFrom2_34, ↓r_lgt_t, ↓r_lgt_f, ↓r_return, ↓L_ild_n1, ↓F_g35_2, ↓r_iclt_t, ↓r_iclt_f, ↓J_X5_giveFrom2_48, ↓I_X5_keep_35, ↓r_iconst, ↓L_ist_n3, ↓L_ist_n3L, ↓L_ild_n3, ↓F_g35_1, ↓r_icge_t, ↓r_icge_f, ↓J_X5_giveFrom2_92, ↓F_g35_3, ↓A_p3, ↓A_p4, ↓A_p5, ↓A_p6, ↓A_p7, ↓A_p9, ↓A_p10, ↓A_p12, ↓A_p13, ↓A_p15, ↓A_p16, ↓A_p19, ↓A_p20, ↓A_p21, ↓A_p22, ↓A_p23, ↓A_p25, ↓A_p26, ↓A_p28, ↓A_p29, ↓A_p31, ↓A_p32, ↓A_p34, ↓A_p36, ↓A_p37, ↓A_p38, ↓A_p39, ↓A_p41, ↓A_p42, ↓A_p43, ↓A_p44, ↓A_p61, ↓A_p62, ↓A_p63, ↓A_p65, ↓A_p66, ↓A_p67, ↓A_p68, ↓A_p69, ↓A_p70, ↓A_pN, ↓A_pT, ↓I_X5_denyOthers_35, ↓r_iadd, ↓I_X5_giveFrom3, ↓L_iinc3, ↓r_goto, ↓J_X5_giveFrom2_50, ↓U_X5_giveFrom2_0, ↓U_X5_giveFrom2_34, ↓U_X5_giveFrom2_48, ↓U_X5_giveFrom2_92, ↓zthen_v, ↓zthen_0, zU_eq, zU_nc, zU_nj, cp, er, eT, hm7, hm8]
  · by_cases q2 : d = 0
    · have q1' : B.1 * toP P m (pst (rch P m w m) (toP P m) n) < rch P m w m (pst (rch P m w m) (toP P m) n) * B.2.1 := by
        rw [show (2 : Int) = m by omega] at q1
        omega
      rw [show d = 0 by omega, scn, stp, if_pos q1']
      rw [show (2 : Int) = m by omega] at cp er eT bT br s1 k2 ⊢
      generalize pst (rch P m w m) (toP P m) n = q at *
      have ck := c_keepW (s := s) (q := q) (by omega) (by omega) (by omega)
      refine ⟨zU (zU (zU (zCpy s 36 0 39 0 6) 35 7 (s 38 q)) 35 8 (s 37 q)) 35 9 q, ⟨fun t a b => ?_, fun x a b => ?_, ?_, ?_, ?_⟩, fun c i h => ?_, ?_⟩
      · simp (disch := omega) only [zU_ow, zCpy_nc]
        exact hv.1 t a (by omega)
      · simp (disch := omega) only [zU_ow, zCpy_nc]
        rw [hv.2.1 x a b, show (2 : Int) = m by omega]
      · simp (disch := omega) only [zU_ow, zU_eq]
        exact er
      · simp (disch := omega) only [zU_ow, zU_eq]
        exact eT
      · right
        refine ⟨zU_eq _ _ _ _, fun t a b => ?_⟩
        simp (disch := omega) only [zU_ow]
        rw [zCpy_in _ _ _ _ _ _ _ (by omega), show (0 : Int) + (t - 0) = t by omega]
        exact hv.1 t a (by omega)
      · simp (disch := omega) only [zU_ow, zCpy_nc]
      · rw [S_X5_giveFrom2]
        have k1' := mul_bd (show 0 ≤ s 38 q ∧ s 38 q ≤ 594 by omega) (show 0 ≤ B.2.1 ∧ B.2.1 ≤ 594 by omega)
        rw [← er, ← eT] at q1'
        rw [← eT] at k2
        simp (disch := first | exact z_tt rfl | assumption | omega | (simp (disch := omega) only [zU_eq, zU_nc, zU_nj]; omega)) only [↓L_ald_n0, ↓I_X5_poorest_35, ↓L_ist_n2, ↓L_ist_n2L, ↓F_g35_5, ↓L_ild_n2, ↓A_g3, ↓A_g4, ↓A_g5, ↓A_g6, ↓A_g7, ↓A_g9, ↓A_g10, ↓A_g12, ↓A_g13, ↓A_g15, ↓A_g16, ↓A_g19, ↓A_g20, ↓A_g21, ↓A_g22, ↓A_g23, ↓A_g25, ↓A_g26, ↓A_g28, ↓A_g29, ↓A_g31, ↓A_g32, ↓A_g34, ↓A_g36, ↓A_g37, ↓A_g38, ↓A_g39, ↓A_g41, ↓A_g42, ↓A_g43, ↓A_g44, ↓A_g61, ↓A_g62, ↓A_g63, ↓A_g65, ↓A_g66, ↓A_g67, ↓A_g68, ↓A_g69, ↓A_g70, ↓A_gN, ↓A_gT, ↓A_gC, ↓r_i2l, ↓F_g35_8, ↓r_lmul, ↓F_g35_7, ↓F_g35_4, ↓r_ifgt_t, ↓r_ifgt_f, ↓J_X5_giveFrom2_34, ↓r_lgt_t, ↓r_lgt_f, ↓r_return, ↓L_ild_n1, ↓F_g35_2, ↓r_iclt_t, ↓r_iclt_f, ↓J_X5_giveFrom2_48, ↓I_X5_keep_35, ↓r_iconst, ↓L_ist_n3, ↓L_ist_n3L, ↓L_ild_n3, ↓F_g35_1, ↓r_icge_t, ↓r_icge_f, ↓J_X5_giveFrom2_92, ↓F_g35_3, ↓A_p3, ↓A_p4, ↓A_p5, ↓A_p6, ↓A_p7, ↓A_p9, ↓A_p10, ↓A_p12, ↓A_p13, ↓A_p15, ↓A_p16, ↓A_p19, ↓A_p20, ↓A_p21, ↓A_p22, ↓A_p23, ↓A_p25, ↓A_p26, ↓A_p28, ↓A_p29, ↓A_p31, ↓A_p32, ↓A_p34, ↓A_p36, ↓A_p37, ↓A_p38, ↓A_p39, ↓A_p41, ↓A_p42, ↓A_p43, ↓A_p44, ↓A_p61, ↓A_p62, ↓A_p63, ↓A_p65, ↓A_p66, ↓A_p67, ↓A_p68, ↓A_p69, ↓A_p70, ↓A_pN, ↓A_pT, ↓I_X5_denyOthers_35, ↓r_iadd, ↓I_X5_giveFrom3, ↓L_iinc3, ↓r_goto, ↓J_X5_giveFrom2_50, ↓U_X5_giveFrom2_0, ↓U_X5_giveFrom2_34, ↓U_X5_giveFrom2_48, ↓U_X5_giveFrom2_92, ↓zthen_v, ↓zthen_0, zU_eq, zU_nc, zU_nj, cp, hm7, hm8, ck]
    · obtain ⟨d1, rfl⟩ : ∃ d1, d = d1 + 1 := ⟨d - 1, by omega⟩
      obtain ⟨s3, V3, F3, E3⟩ := c_gL2 (q := pst (rch P m w 2) (toP P m) n) hP hm hn d1 (by omega) w n.toNat 0 s B (by omega) (by omega) hs hv ⟨⟨g1, g2⟩, g3, g4⟩
      refine ⟨s3, ?_, F3, ?_⟩
      · rw [scn, show m - ((d1 : Int) + 1) = 2 by omega]
        exact V3
      · rw [S_X5_giveFrom2]
        generalize pst (rch P m w 2) (toP P m) n = q at *
        simp (disch := first | exact z_tt rfl | assumption | omega | (simp (disch := omega) only [zU_eq, zU_nc, zU_nj]; omega)) only [↓L_ald_n0, ↓I_X5_poorest_35, ↓L_ist_n2, ↓L_ist_n2L, ↓F_g35_5, ↓L_ild_n2, ↓A_g3, ↓A_g4, ↓A_g5, ↓A_g6, ↓A_g7, ↓A_g9, ↓A_g10, ↓A_g12, ↓A_g13, ↓A_g15, ↓A_g16, ↓A_g19, ↓A_g20, ↓A_g21, ↓A_g22, ↓A_g23, ↓A_g25, ↓A_g26, ↓A_g28, ↓A_g29, ↓A_g31, ↓A_g32, ↓A_g34, ↓A_g36, ↓A_g37, ↓A_g38, ↓A_g39, ↓A_g41, ↓A_g42, ↓A_g43, ↓A_g44, ↓A_g61, ↓A_g62, ↓A_g63, ↓A_g65, ↓A_g66, ↓A_g67, ↓A_g68, ↓A_g69, ↓A_g70, ↓A_gN, ↓A_gT, ↓A_gC, ↓r_i2l, ↓F_g35_8, ↓r_lmul, ↓F_g35_7, ↓F_g35_4, ↓r_ifgt_t, ↓r_ifgt_f, ↓J_X5_giveFrom2_34, ↓r_lgt_t, ↓r_lgt_f, ↓r_return, ↓L_ild_n1, ↓F_g35_2, ↓r_iclt_t, ↓r_iclt_f, ↓J_X5_giveFrom2_48, ↓I_X5_keep_35, ↓r_iconst, ↓L_ist_n3, ↓L_ist_n3L, ↓L_ild_n3, ↓F_g35_1, ↓r_icge_t, ↓r_icge_f, ↓J_X5_giveFrom2_92, ↓F_g35_3, ↓A_p3, ↓A_p4, ↓A_p5, ↓A_p6, ↓A_p7, ↓A_p9, ↓A_p10, ↓A_p12, ↓A_p13, ↓A_p15, ↓A_p16, ↓A_p19, ↓A_p20, ↓A_p21, ↓A_p22, ↓A_p23, ↓A_p25, ↓A_p26, ↓A_p28, ↓A_p29, ↓A_p31, ↓A_p32, ↓A_p34, ↓A_p36, ↓A_p37, ↓A_p38, ↓A_p39, ↓A_p41, ↓A_p42, ↓A_p43, ↓A_p44, ↓A_p61, ↓A_p62, ↓A_p63, ↓A_p65, ↓A_p66, ↓A_p67, ↓A_p68, ↓A_p69, ↓A_p70, ↓A_pN, ↓A_pT, ↓I_X5_denyOthers_35, ↓r_iadd, ↓I_X5_giveFrom3, ↓L_iinc3, ↓r_goto, ↓J_X5_giveFrom2_50, ↓U_X5_giveFrom2_0, ↓U_X5_giveFrom2_34, ↓U_X5_giveFrom2_48, ↓U_X5_giveFrom2_92, ↓zthen_v, ↓zthen_0, zU_eq, zU_nc, zU_nj, cp, er, eT, hm7, hm8]
        exact E3
set_option maxRecDepth 20000 in
set_option maxHeartbeats 4000000 in
theorem c_gL1 {P : Int → Int → Int} {m n q : Int} (hP : PN P m n) (hm : 0 ≤ m ∧ m ≤ 6) (hn : 1 ≤ n ∧ n ≤ 4) (d : Nat) (hd : m = 2 + d) (w : Int → Int) : ∀ (j : Nat) (p : Int) (s : zM) (B : Bst), 0 ≤ p → p + j = n → CWs s P m n → CWv s P m n w 1 B → GB B → ∃ s1, CWv s1 P m n w 1 (foldP (fun p B => scn P m n d (updW w 1 p) B) p j B) ∧ FrW s s1 ∧ zres 37 C_X5_giveFrom1_50 [vR 35, vI 1, vI q, vI p] [] s = some (none, s1) := by
  intro j
  induction j with
  | zero =>
    intro p s B hp hj hs hv hB
    refine ⟨s, hv, fun _ _ _ => rfl, ?_⟩
    have e1 := hs.2.1
    simp (disch := first | exact z_tt rfl | assumption | omega | (simp (disch := omega) only [zU_eq, zU_nc, zU_nj]; omega)) only [↓L_ald_n0, ↓I_X5_poorest_35, ↓L_ist_n2, ↓L_ist_n2L, ↓F_g35_5, ↓L_ild_n2, ↓A_g3, ↓A_g4, ↓A_g5, ↓A_g6, ↓A_g7, ↓A_g9, ↓A_g10, ↓A_g12, ↓A_g13, ↓A_g15, ↓A_g16, ↓A_g19, ↓A_g20, ↓A_g21, ↓A_g22, ↓A_g23, ↓A_g25, ↓A_g26, ↓A_g28, ↓A_g29, ↓A_g31, ↓A_g32, ↓A_g34, ↓A_g36, ↓A_g37, ↓A_g38, ↓A_g39, ↓A_g41, ↓A_g42, ↓A_g43, ↓A_g44, ↓A_g61, ↓A_g62, ↓A_g63, ↓A_g65, ↓A_g66, ↓A_g67, ↓A_g68, ↓A_g69, ↓A_g70, ↓A_gN, ↓A_gT, ↓A_gC, ↓r_i2l, ↓F_g35_8, ↓r_lmul, ↓F_g35_7, ↓F_g35_4, ↓r_ifgt_t, ↓r_ifgt_f, ↓J_X5_giveFrom1_34, ↓r_lgt_t, ↓r_lgt_f, ↓r_return, ↓L_ild_n1, ↓F_g35_2, ↓r_iclt_t, ↓r_iclt_f, ↓J_X5_giveFrom1_48, ↓I_X5_keep_35, ↓r_iconst, ↓L_ist_n3, ↓L_ist_n3L, ↓L_ild_n3, ↓F_g35_1, ↓r_icge_t, ↓r_icge_f, ↓J_X5_giveFrom1_92, ↓F_g35_3, ↓A_p3, ↓A_p4, ↓A_p5, ↓A_p6, ↓A_p7, ↓A_p9, ↓A_p10, ↓A_p12, ↓A_p13, ↓A_p15, ↓A_p16, ↓A_p19, ↓A_p20, ↓A_p21, ↓A_p22, ↓A_p23, ↓A_p25, ↓A_p26, ↓A_p28, ↓A_p29, ↓A_p31, ↓A_p32, ↓A_p34, ↓A_p36, ↓A_p37, ↓A_p38, ↓A_p39, ↓A_p41, ↓A_p42, ↓A_p43, ↓A_p44, ↓A_p61, ↓A_p62, ↓A_p63, ↓A_p65, ↓A_p66, ↓A_p67, ↓A_p68, ↓A_p69, ↓A_p70, ↓A_pN, ↓A_pT, ↓I_X5_denyOthers_35, ↓r_iadd, ↓I_X5_giveFrom2, ↓L_iinc3, ↓r_goto, ↓J_X5_giveFrom1_50, ↓U_X5_giveFrom1_0, ↓U_X5_giveFrom1_34, ↓U_X5_giveFrom1_48, ↓U_X5_giveFrom1_50, ↓U_X5_giveFrom1_92, ↓zthen_v, ↓zthen_0, zU_eq, zU_nc, zU_nj]
  | succ j ih =>
    intro p s B hp hj hs hv hB
    have e0 := hs.1
    have e1 := hs.2.1
    have e4 := hs.2.2.2.2
    obtain ⟨v1, v2, v3, v4, v5⟩ := hv
    obtain ⟨sb, H1, F1, C1⟩ := c_deny (s := zU s 36 1 p) (th := 1) (p := p) (c := 1) (n := n) (by omega) (by omega) (by omega) (by rw [zU_ow _ _ _ _ _ _ (by omega)]; exact e0) (by rw [zU_ow _ _ _ _ _ _ (by omega)]; exact e1)
    have FW1 : FrW s sb := fun c i h => by rw [F1 _ _ (by omega), zU_ow _ _ _ _ _ _ (by omega)]
    have V1' : CWv sb P m n (updW w 1 p) 2 B := by
      refine ⟨fun t a b => ?_, fun x a b => ?_, ?_, ?_, ?_⟩
      · rw [F1 _ _ (by omega)]
        unfold updW
        by_cases g : t = 1
        · rw [if_pos g, g, zU_eq]
        · rw [if_neg g, zU_ow _ _ _ _ _ _ (by omega)]
          exact v1 t a (by omega)
      · have r := rch_succ (P := P) (m := m) (updW w 1 p) (k := 1) (by omega) x
        rw [show (1 : Int) + 1 = 2 from rfl, rch_upd, upd_at] at r
        rw [r, H1 x a b, zU_ow _ _ _ _ _ _ (by omega), zU_ow _ _ _ _ _ _ (by omega), v2 x a b, e4 x _ a b (by omega) (by omega)]
        by_cases g : x = p
        · rw [if_pos g, if_pos g.symm]; omega
        · rw [if_neg g, if_neg (fun h => g h.symm)]; omega
      · rw [F1 _ _ (by omega), zU_ow _ _ _ _ _ _ (by omega)]; exact v3
      · rw [F1 _ _ (by omega), zU_ow _ _ _ _ _ _ (by omega)]; exact v4
      · rcases v5 with h | ⟨h, g⟩
        · exact Or.inl h
        · refine Or.inr ⟨by rw [F1 _ _ (by omega), zU_ow _ _ _ _ _ _ (by omega)]; exact h, fun t a b => ?_⟩
          rw [F1 _ _ (by omega), zU_ow _ _ _ _ _ _ (by omega)]; exact g t a b
    obtain ⟨sc, V2', FW2, C2⟩ := c_gF2 hP hm hn d hd sb (updW w 1 p) B (CWs_fr hn.2 hs FW1) V1' hB
    have hs2 := CWs_fr hn.2 (CWs_fr hn.2 hs FW1) FW2
    obtain ⟨sd, H3, F3, C3⟩ := c_deny (s := sc) (th := 1) (p := p) (c := -1) (n := n) (by omega) (by omega) (by omega) hs2.1 hs2.2.1
    obtain ⟨u1, u2, u3, u4, u5⟩ := V2'
    have FW3 : FrW sc sd := fun c i h => F3 _ _ (by omega)
    have V3 : CWv sd P m n w 1 (scn P m n d (updW w 1 p) B) := by
      refine ⟨fun t a b => ?_, fun x a b => ?_, ?_, ?_, ?_⟩
      · rw [F3 _ _ (by omega), u1 t a (by omega)]
        unfold updW
        rw [if_neg (by omega)]
      · have r := rch_succ (P := P) (m := m) (updW w 1 p) (k := 1) (by omega) x
        rw [show (1 : Int) + 1 = 2 from rfl, rch_upd, upd_at] at r
        rw [H3 x a b, u2 x a b, r, hs2.2.2.2.2 x _ a b (by omega) (by omega)]
        by_cases g : x = p
        · rw [if_pos g, if_pos g.symm]; omega
        · rw [if_neg g, if_neg (fun h => g h.symm)]; omega
      · rw [F3 _ _ (by omega)]; exact u3
      · rw [F3 _ _ (by omega)]; exact u4
      · rcases u5 with h | ⟨h, g⟩
        · exact Or.inl h
        · exact Or.inr ⟨by rw [F3 _ _ (by omega)]; exact h, fun t a b => by rw [F3 _ _ (by omega)]; exact g t a b⟩
    obtain ⟨s1, V4, FW4, E⟩ := ih (p + 1) sd _ (by omega) (by omega) (CWs_fr hn.2 hs2 FW3) V3 (scn_GB hP hm hn.1 d _ B hB).1
    refine ⟨s1, V4, fun c i h => by rw [FW4 c i h, FW3 c i h, FW2 c i h, FW1 c i h], ?_⟩
    have C2' : zcall 38 [vR 35, vI (1 + 1)] sb = some (none, sc) := C2
    rw [U_X5_giveFrom1_50]
    simp (disch := first | exact z_tt rfl | assumption | omega | (simp (disch := omega) only [zU_eq, zU_nc, zU_nj]; omega)) only [↓L_ald_n0, ↓I_X5_poorest_35, ↓L_ist_n2, ↓L_ist_n2L, ↓F_g35_5, ↓L_ild_n2, ↓A_g3, ↓A_g4, ↓A_g5, ↓A_g6, ↓A_g7, ↓A_g9, ↓A_g10, ↓A_g12, ↓A_g13, ↓A_g15, ↓A_g16, ↓A_g19, ↓A_g20, ↓A_g21, ↓A_g22, ↓A_g23, ↓A_g25, ↓A_g26, ↓A_g28, ↓A_g29, ↓A_g31, ↓A_g32, ↓A_g34, ↓A_g36, ↓A_g37, ↓A_g38, ↓A_g39, ↓A_g41, ↓A_g42, ↓A_g43, ↓A_g44, ↓A_g61, ↓A_g62, ↓A_g63, ↓A_g65, ↓A_g66, ↓A_g67, ↓A_g68, ↓A_g69, ↓A_g70, ↓A_gN, ↓A_gT, ↓A_gC, ↓r_i2l, ↓F_g35_8, ↓r_lmul, ↓F_g35_7, ↓F_g35_4, ↓r_ifgt_t, ↓r_ifgt_f, ↓J_X5_giveFrom1_34, ↓r_lgt_t, ↓r_lgt_f, ↓r_return, ↓L_ild_n1, ↓F_g35_2, ↓r_iclt_t, ↓r_iclt_f, ↓J_X5_giveFrom1_48, ↓I_X5_keep_35, ↓r_iconst, ↓L_ist_n3, ↓L_ist_n3L, ↓L_ild_n3, ↓F_g35_1, ↓r_icge_t, ↓r_icge_f, ↓J_X5_giveFrom1_92, ↓F_g35_3, ↓A_p3, ↓A_p4, ↓A_p5, ↓A_p6, ↓A_p7, ↓A_p9, ↓A_p10, ↓A_p12, ↓A_p13, ↓A_p15, ↓A_p16, ↓A_p19, ↓A_p20, ↓A_p21, ↓A_p22, ↓A_p23, ↓A_p25, ↓A_p26, ↓A_p28, ↓A_p29, ↓A_p31, ↓A_p32, ↓A_p34, ↓A_p36, ↓A_p37, ↓A_p38, ↓A_p39, ↓A_p41, ↓A_p42, ↓A_p43, ↓A_p44, ↓A_p61, ↓A_p62, ↓A_p63, ↓A_p65, ↓A_p66, ↓A_p67, ↓A_p68, ↓A_p69, ↓A_p70, ↓A_pN, ↓A_pT, ↓I_X5_denyOthers_35, ↓r_iadd, ↓I_X5_giveFrom2, ↓L_iinc3, ↓r_goto, ↓J_X5_giveFrom1_50, ↓U_X5_giveFrom1_0, ↓U_X5_giveFrom1_34, ↓U_X5_giveFrom1_48, ↓U_X5_giveFrom1_92, ↓zthen_v, ↓zthen_0, zU_eq, zU_nc, zU_nj, C1, C2', C3]
    exact E
set_option maxRecDepth 20000 in
set_option maxHeartbeats 4000000 in
theorem c_gF1 {P : Int → Int → Int} {m n : Int} (hP : PN P m n) (hm : 0 ≤ m ∧ m ≤ 6) (hn : 1 ≤ n ∧ n ≤ 4) (d : Nat) (hd : m = 1 + d) : ∀ (s : zM) (w : Int → Int) (B : Bst), CWs s P m n → CWv s P m n w 1 B → GB B → ∃ s1, CWv s1 P m n w 1 (scn P m n d w B) ∧ FrW s s1 ∧ zcall 37 [vR 35, vI 1] s = some (none, s1) := by
  intro s w B hs hv hB
  have cp := c_poorest hP hm hn (k := 1) (by omega) hs hv
  have hT : ∀ p : Int, 0 ≤ p → p < n → 0 < toP P m p := fun p a b => by
    have := toP_bd hP hm (p := p) ⟨a, b⟩
    omega
  obtain ⟨s1, s2⟩ := pst_spec (r := rch P m w 1) (T := toP P m) hn.1 hT
  have e2 := hs.2.2.1
  have er := hv.2.1 _ s1.1 s1.2
  have eT := hs.2.2.2.1 _ s1.1 s1.2
  have bT := toP_bd hP hm s1
  have br := rch_bd hP hm w (k := 1) (by omega) s1
  have hm7 := hv.2.2.1
  have hm8 := hv.2.2.2.1
  obtain ⟨⟨g1, g2⟩, g3, g4⟩ := hB
  have k1 := mul_bd br (show 0 ≤ B.2.1 ∧ B.2.1 ≤ 594 by omega)
  have k2 : -594 ≤ B.1 * toP P m (pst (rch P m w 1) (toP P m) n) ∧ B.1 * toP P m (pst (rch P m w 1) (toP P m) n) ≤ 352836 := by
    by_cases h : 0 ≤ B.1
    · have := mul_bd (show 0 ≤ B.1 ∧ B.1 ≤ 594 by omega) (show 0 ≤ toP P m (pst (rch P m w 1) (toP P m) n) ∧ toP P m (pst (rch P m w 1) (toP P m) n) ≤ 594 by omega)
      omega
    · rw [show B.1 = -1 by omega]
      omega
  by_cases q1 : rch P m w 1 (pst (rch P m w 1) (toP P m) n) * B.2.1 ≤ B.1 * toP P m (pst (rch P m w 1) (toP P m) n)
  · rw [scn_prune hP hm hn.1 (by omega) d w (by omega) ⟨_, s1, by rw [show m - (d : Int) = 1 by omega]; exact q1⟩]
    refine ⟨s, hv, fun _ _ _ => rfl, ?_⟩
    rw [S_X5_giveFrom1]
    generalize pst (rch P m w 1) (toP P m) n = q at *
    simp (disch := first | exact z_tt rfl | assumption | omega | (simp (disch := omega) only [zU_eq, zU_nc, zU_nj]; omega)) only [↓L_ald_n0, ↓I_X5_poorest_35, ↓L_ist_n2, ↓L_ist_n2L, ↓F_g35_5, ↓L_ild_n2, ↓A_g3, ↓A_g4, ↓A_g5, ↓A_g6, ↓A_g7, ↓A_g9, ↓A_g10, ↓A_g12, ↓A_g13, ↓A_g15, ↓A_g16, ↓A_g19, ↓A_g20, ↓A_g21, ↓A_g22, ↓A_g23, ↓A_g25, ↓A_g26, ↓A_g28, ↓A_g29, ↓A_g31, ↓A_g32, ↓A_g34, ↓A_g36, ↓A_g37, ↓A_g38, ↓A_g39, ↓A_g41, ↓A_g42, ↓A_g43, ↓A_g44, ↓A_g61, ↓A_g62, ↓A_g63, ↓A_g65, ↓A_g66, ↓A_g67, ↓A_g68, ↓A_g69, ↓A_g70, ↓A_gN, ↓A_gT, ↓A_gC, ↓r_i2l, ↓F_g35_8, ↓r_lmul, ↓F_g35_7, ↓F_g35_4, ↓r_ifgt_t, ↓r_ifgt_f, ↓J_X5_giveFrom1_34, ↓r_lgt_t, ↓r_lgt_f, ↓r_return, ↓L_ild_n1, ↓F_g35_2, ↓r_iclt_t, ↓r_iclt_f, ↓J_X5_giveFrom1_48, ↓I_X5_keep_35, ↓r_iconst, ↓L_ist_n3, ↓L_ist_n3L, ↓L_ild_n3, ↓F_g35_1, ↓r_icge_t, ↓r_icge_f, ↓J_X5_giveFrom1_92, ↓F_g35_3, ↓A_p3, ↓A_p4, ↓A_p5, ↓A_p6, ↓A_p7, ↓A_p9, ↓A_p10, ↓A_p12, ↓A_p13, ↓A_p15, ↓A_p16, ↓A_p19, ↓A_p20, ↓A_p21, ↓A_p22, ↓A_p23, ↓A_p25, ↓A_p26, ↓A_p28, ↓A_p29, ↓A_p31, ↓A_p32, ↓A_p34, ↓A_p36, ↓A_p37, ↓A_p38, ↓A_p39, ↓A_p41, ↓A_p42, ↓A_p43, ↓A_p44, ↓A_p61, ↓A_p62, ↓A_p63, ↓A_p65, ↓A_p66, ↓A_p67, ↓A_p68, ↓A_p69, ↓A_p70, ↓A_pN, ↓A_pT, ↓I_X5_denyOthers_35, ↓r_iadd, ↓I_X5_giveFrom2, ↓L_iinc3, ↓r_goto, ↓J_X5_giveFrom1_50, ↓U_X5_giveFrom1_0, ↓U_X5_giveFrom1_34, ↓U_X5_giveFrom1_48, ↓U_X5_giveFrom1_92, ↓zthen_v, ↓zthen_0, zU_eq, zU_nc, zU_nj, cp, er, eT, hm7, hm8]
  · by_cases q2 : d = 0
    · have q1' : B.1 * toP P m (pst (rch P m w m) (toP P m) n) < rch P m w m (pst (rch P m w m) (toP P m) n) * B.2.1 := by
        rw [show (1 : Int) = m by omega] at q1
        omega
      rw [show d = 0 by omega, scn, stp, if_pos q1']
      rw [show (1 : Int) = m by omega] at cp er eT bT br s1 k2 ⊢
      generalize pst (rch P m w m) (toP P m) n = q at *
      have ck := c_keepW (s := s) (q := q) (by omega) (by omega) (by omega)
      refine ⟨zU (zU (zU (zCpy s 36 0 39 0 6) 35 7 (s 38 q)) 35 8 (s 37 q)) 35 9 q, ⟨fun t a b => ?_, fun x a b => ?_, ?_, ?_, ?_⟩, fun c i h => ?_, ?_⟩
      · simp (disch := omega) only [zU_ow, zCpy_nc]
        exact hv.1 t a (by omega)
      · simp (disch := omega) only [zU_ow, zCpy_nc]
        rw [hv.2.1 x a b, show (1 : Int) = m by omega]
      · simp (disch := omega) only [zU_ow, zU_eq]
        exact er
      · simp (disch := omega) only [zU_ow, zU_eq]
        exact eT
      · right
        refine ⟨zU_eq _ _ _ _, fun t a b => ?_⟩
        simp (disch := omega) only [zU_ow]
        rw [zCpy_in _ _ _ _ _ _ _ (by omega), show (0 : Int) + (t - 0) = t by omega]
        exact hv.1 t a (by omega)
      · simp (disch := omega) only [zU_ow, zCpy_nc]
      · rw [S_X5_giveFrom1]
        have k1' := mul_bd (show 0 ≤ s 38 q ∧ s 38 q ≤ 594 by omega) (show 0 ≤ B.2.1 ∧ B.2.1 ≤ 594 by omega)
        rw [← er, ← eT] at q1'
        rw [← eT] at k2
        simp (disch := first | exact z_tt rfl | assumption | omega | (simp (disch := omega) only [zU_eq, zU_nc, zU_nj]; omega)) only [↓L_ald_n0, ↓I_X5_poorest_35, ↓L_ist_n2, ↓L_ist_n2L, ↓F_g35_5, ↓L_ild_n2, ↓A_g3, ↓A_g4, ↓A_g5, ↓A_g6, ↓A_g7, ↓A_g9, ↓A_g10, ↓A_g12, ↓A_g13, ↓A_g15, ↓A_g16, ↓A_g19, ↓A_g20, ↓A_g21, ↓A_g22, ↓A_g23, ↓A_g25, ↓A_g26, ↓A_g28, ↓A_g29, ↓A_g31, ↓A_g32, ↓A_g34, ↓A_g36, ↓A_g37, ↓A_g38, ↓A_g39, ↓A_g41, ↓A_g42, ↓A_g43, ↓A_g44, ↓A_g61, ↓A_g62, ↓A_g63, ↓A_g65, ↓A_g66, ↓A_g67, ↓A_g68, ↓A_g69, ↓A_g70, ↓A_gN, ↓A_gT, ↓A_gC, ↓r_i2l, ↓F_g35_8, ↓r_lmul, ↓F_g35_7, ↓F_g35_4, ↓r_ifgt_t, ↓r_ifgt_f, ↓J_X5_giveFrom1_34, ↓r_lgt_t, ↓r_lgt_f, ↓r_return, ↓L_ild_n1, ↓F_g35_2, ↓r_iclt_t, ↓r_iclt_f, ↓J_X5_giveFrom1_48, ↓I_X5_keep_35, ↓r_iconst, ↓L_ist_n3, ↓L_ist_n3L, ↓L_ild_n3, ↓F_g35_1, ↓r_icge_t, ↓r_icge_f, ↓J_X5_giveFrom1_92, ↓F_g35_3, ↓A_p3, ↓A_p4, ↓A_p5, ↓A_p6, ↓A_p7, ↓A_p9, ↓A_p10, ↓A_p12, ↓A_p13, ↓A_p15, ↓A_p16, ↓A_p19, ↓A_p20, ↓A_p21, ↓A_p22, ↓A_p23, ↓A_p25, ↓A_p26, ↓A_p28, ↓A_p29, ↓A_p31, ↓A_p32, ↓A_p34, ↓A_p36, ↓A_p37, ↓A_p38, ↓A_p39, ↓A_p41, ↓A_p42, ↓A_p43, ↓A_p44, ↓A_p61, ↓A_p62, ↓A_p63, ↓A_p65, ↓A_p66, ↓A_p67, ↓A_p68, ↓A_p69, ↓A_p70, ↓A_pN, ↓A_pT, ↓I_X5_denyOthers_35, ↓r_iadd, ↓I_X5_giveFrom2, ↓L_iinc3, ↓r_goto, ↓J_X5_giveFrom1_50, ↓U_X5_giveFrom1_0, ↓U_X5_giveFrom1_34, ↓U_X5_giveFrom1_48, ↓U_X5_giveFrom1_92, ↓zthen_v, ↓zthen_0, zU_eq, zU_nc, zU_nj, cp, hm7, hm8, ck]
    · obtain ⟨d1, rfl⟩ : ∃ d1, d = d1 + 1 := ⟨d - 1, by omega⟩
      obtain ⟨s3, V3, F3, E3⟩ := c_gL1 (q := pst (rch P m w 1) (toP P m) n) hP hm hn d1 (by omega) w n.toNat 0 s B (by omega) (by omega) hs hv ⟨⟨g1, g2⟩, g3, g4⟩
      refine ⟨s3, ?_, F3, ?_⟩
      · rw [scn, show m - ((d1 : Int) + 1) = 1 by omega]
        exact V3
      · rw [S_X5_giveFrom1]
        generalize pst (rch P m w 1) (toP P m) n = q at *
        simp (disch := first | exact z_tt rfl | assumption | omega | (simp (disch := omega) only [zU_eq, zU_nc, zU_nj]; omega)) only [↓L_ald_n0, ↓I_X5_poorest_35, ↓L_ist_n2, ↓L_ist_n2L, ↓F_g35_5, ↓L_ild_n2, ↓A_g3, ↓A_g4, ↓A_g5, ↓A_g6, ↓A_g7, ↓A_g9, ↓A_g10, ↓A_g12, ↓A_g13, ↓A_g15, ↓A_g16, ↓A_g19, ↓A_g20, ↓A_g21, ↓A_g22, ↓A_g23, ↓A_g25, ↓A_g26, ↓A_g28, ↓A_g29, ↓A_g31, ↓A_g32, ↓A_g34, ↓A_g36, ↓A_g37, ↓A_g38, ↓A_g39, ↓A_g41, ↓A_g42, ↓A_g43, ↓A_g44, ↓A_g61, ↓A_g62, ↓A_g63, ↓A_g65, ↓A_g66, ↓A_g67, ↓A_g68, ↓A_g69, ↓A_g70, ↓A_gN, ↓A_gT, ↓A_gC, ↓r_i2l, ↓F_g35_8, ↓r_lmul, ↓F_g35_7, ↓F_g35_4, ↓r_ifgt_t, ↓r_ifgt_f, ↓J_X5_giveFrom1_34, ↓r_lgt_t, ↓r_lgt_f, ↓r_return, ↓L_ild_n1, ↓F_g35_2, ↓r_iclt_t, ↓r_iclt_f, ↓J_X5_giveFrom1_48, ↓I_X5_keep_35, ↓r_iconst, ↓L_ist_n3, ↓L_ist_n3L, ↓L_ild_n3, ↓F_g35_1, ↓r_icge_t, ↓r_icge_f, ↓J_X5_giveFrom1_92, ↓F_g35_3, ↓A_p3, ↓A_p4, ↓A_p5, ↓A_p6, ↓A_p7, ↓A_p9, ↓A_p10, ↓A_p12, ↓A_p13, ↓A_p15, ↓A_p16, ↓A_p19, ↓A_p20, ↓A_p21, ↓A_p22, ↓A_p23, ↓A_p25, ↓A_p26, ↓A_p28, ↓A_p29, ↓A_p31, ↓A_p32, ↓A_p34, ↓A_p36, ↓A_p37, ↓A_p38, ↓A_p39, ↓A_p41, ↓A_p42, ↓A_p43, ↓A_p44, ↓A_p61, ↓A_p62, ↓A_p63, ↓A_p65, ↓A_p66, ↓A_p67, ↓A_p68, ↓A_p69, ↓A_p70, ↓A_pN, ↓A_pT, ↓I_X5_denyOthers_35, ↓r_iadd, ↓I_X5_giveFrom2, ↓L_iinc3, ↓r_goto, ↓J_X5_giveFrom1_50, ↓U_X5_giveFrom1_0, ↓U_X5_giveFrom1_34, ↓U_X5_giveFrom1_48, ↓U_X5_giveFrom1_92, ↓zthen_v, ↓zthen_0, zU_eq, zU_nc, zU_nj, cp, er, eT, hm7, hm8]
        exact E3
set_option maxRecDepth 20000 in
set_option maxHeartbeats 4000000 in
theorem c_gL0 {P : Int → Int → Int} {m n q : Int} (hP : PN P m n) (hm : 0 ≤ m ∧ m ≤ 6) (hn : 1 ≤ n ∧ n ≤ 4) (d : Nat) (hd : m = 1 + d) (w : Int → Int) : ∀ (j : Nat) (p : Int) (s : zM) (B : Bst), 0 ≤ p → p + j = n → CWs s P m n → CWv s P m n w 0 B → GB B → ∃ s1, CWv s1 P m n w 0 (foldP (fun p B => scn P m n d (updW w 0 p) B) p j B) ∧ FrW s s1 ∧ zres 36 C_X5_giveFrom0_50 [vR 35, vI 0, vI q, vI p] [] s = some (none, s1) := by
  intro j
  induction j with
  | zero =>
    intro p s B hp hj hs hv hB
    refine ⟨s, hv, fun _ _ _ => rfl, ?_⟩
    have e1 := hs.2.1
    simp (disch := first | exact z_tt rfl | assumption | omega | (simp (disch := omega) only [zU_eq, zU_nc, zU_nj]; omega)) only [↓L_ald_n0, ↓I_X5_poorest_35, ↓L_ist_n2, ↓L_ist_n2L, ↓F_g35_5, ↓L_ild_n2, ↓A_g3, ↓A_g4, ↓A_g5, ↓A_g6, ↓A_g7, ↓A_g9, ↓A_g10, ↓A_g12, ↓A_g13, ↓A_g15, ↓A_g16, ↓A_g19, ↓A_g20, ↓A_g21, ↓A_g22, ↓A_g23, ↓A_g25, ↓A_g26, ↓A_g28, ↓A_g29, ↓A_g31, ↓A_g32, ↓A_g34, ↓A_g36, ↓A_g37, ↓A_g38, ↓A_g39, ↓A_g41, ↓A_g42, ↓A_g43, ↓A_g44, ↓A_g61, ↓A_g62, ↓A_g63, ↓A_g65, ↓A_g66, ↓A_g67, ↓A_g68, ↓A_g69, ↓A_g70, ↓A_gN, ↓A_gT, ↓A_gC, ↓r_i2l, ↓F_g35_8, ↓r_lmul, ↓F_g35_7, ↓F_g35_4, ↓r_ifgt_t, ↓r_ifgt_f, ↓J_X5_giveFrom0_34, ↓r_lgt_t, ↓r_lgt_f, ↓r_return, ↓L_ild_n1, ↓F_g35_2, ↓r_iclt_t, ↓r_iclt_f, ↓J_X5_giveFrom0_48, ↓I_X5_keep_35, ↓r_iconst, ↓L_ist_n3, ↓L_ist_n3L, ↓L_ild_n3, ↓F_g35_1, ↓r_icge_t, ↓r_icge_f, ↓J_X5_giveFrom0_92, ↓F_g35_3, ↓A_p3, ↓A_p4, ↓A_p5, ↓A_p6, ↓A_p7, ↓A_p9, ↓A_p10, ↓A_p12, ↓A_p13, ↓A_p15, ↓A_p16, ↓A_p19, ↓A_p20, ↓A_p21, ↓A_p22, ↓A_p23, ↓A_p25, ↓A_p26, ↓A_p28, ↓A_p29, ↓A_p31, ↓A_p32, ↓A_p34, ↓A_p36, ↓A_p37, ↓A_p38, ↓A_p39, ↓A_p41, ↓A_p42, ↓A_p43, ↓A_p44, ↓A_p61, ↓A_p62, ↓A_p63, ↓A_p65, ↓A_p66, ↓A_p67, ↓A_p68, ↓A_p69, ↓A_p70, ↓A_pN, ↓A_pT, ↓I_X5_denyOthers_35, ↓r_iadd, ↓I_X5_giveFrom1, ↓L_iinc3, ↓r_goto, ↓J_X5_giveFrom0_50, ↓U_X5_giveFrom0_0, ↓U_X5_giveFrom0_34, ↓U_X5_giveFrom0_48, ↓U_X5_giveFrom0_50, ↓U_X5_giveFrom0_92, ↓zthen_v, ↓zthen_0, zU_eq, zU_nc, zU_nj]
  | succ j ih =>
    intro p s B hp hj hs hv hB
    have e0 := hs.1
    have e1 := hs.2.1
    have e4 := hs.2.2.2.2
    obtain ⟨v1, v2, v3, v4, v5⟩ := hv
    obtain ⟨sb, H1, F1, C1⟩ := c_deny (s := zU s 36 0 p) (th := 0) (p := p) (c := 1) (n := n) (by omega) (by omega) (by omega) (by rw [zU_ow _ _ _ _ _ _ (by omega)]; exact e0) (by rw [zU_ow _ _ _ _ _ _ (by omega)]; exact e1)
    have FW1 : FrW s sb := fun c i h => by rw [F1 _ _ (by omega), zU_ow _ _ _ _ _ _ (by omega)]
    have V1' : CWv sb P m n (updW w 0 p) 1 B := by
      refine ⟨fun t a b => ?_, fun x a b => ?_, ?_, ?_, ?_⟩
      · rw [F1 _ _ (by omega)]
        unfold updW
        by_cases g : t = 0
        · rw [if_pos g, g, zU_eq]
        · rw [if_neg g, zU_ow _ _ _ _ _ _ (by omega)]
          exact v1 t a (by omega)
      · have r := rch_succ (P := P) (m := m) (updW w 0 p) (k := 0) (by omega) x
        rw [show (0 : Int) + 1 = 1 from rfl, rch_upd, upd_at] at r
        rw [r, H1 x a b, zU_ow _ _ _ _ _ _ (by omega), zU_ow _ _ _ _ _ _ (by omega), v2 x a b, e4 x _ a b (by omega) (by omega)]
        by_cases g : x = p
        · rw [if_pos g, if_pos g.symm]; omega
        · rw [if_neg g, if_neg (fun h => g h.symm)]; omega
      · rw [F1 _ _ (by omega), zU_ow _ _ _ _ _ _ (by omega)]; exact v3
      · rw [F1 _ _ (by omega), zU_ow _ _ _ _ _ _ (by omega)]; exact v4
      · rcases v5 with h | ⟨h, g⟩
        · exact Or.inl h
        · refine Or.inr ⟨by rw [F1 _ _ (by omega), zU_ow _ _ _ _ _ _ (by omega)]; exact h, fun t a b => ?_⟩
          rw [F1 _ _ (by omega), zU_ow _ _ _ _ _ _ (by omega)]; exact g t a b
    obtain ⟨sc, V2', FW2, C2⟩ := c_gF1 hP hm hn d hd sb (updW w 0 p) B (CWs_fr hn.2 hs FW1) V1' hB
    have hs2 := CWs_fr hn.2 (CWs_fr hn.2 hs FW1) FW2
    obtain ⟨sd, H3, F3, C3⟩ := c_deny (s := sc) (th := 0) (p := p) (c := -1) (n := n) (by omega) (by omega) (by omega) hs2.1 hs2.2.1
    obtain ⟨u1, u2, u3, u4, u5⟩ := V2'
    have FW3 : FrW sc sd := fun c i h => F3 _ _ (by omega)
    have V3 : CWv sd P m n w 0 (scn P m n d (updW w 0 p) B) := by
      refine ⟨fun t a b => ?_, fun x a b => ?_, ?_, ?_, ?_⟩
      · rw [F3 _ _ (by omega), u1 t a (by omega)]
        unfold updW
        rw [if_neg (by omega)]
      · have r := rch_succ (P := P) (m := m) (updW w 0 p) (k := 0) (by omega) x
        rw [show (0 : Int) + 1 = 1 from rfl, rch_upd, upd_at] at r
        rw [H3 x a b, u2 x a b, r, hs2.2.2.2.2 x _ a b (by omega) (by omega)]
        by_cases g : x = p
        · rw [if_pos g, if_pos g.symm]; omega
        · rw [if_neg g, if_neg (fun h => g h.symm)]; omega
      · rw [F3 _ _ (by omega)]; exact u3
      · rw [F3 _ _ (by omega)]; exact u4
      · rcases u5 with h | ⟨h, g⟩
        · exact Or.inl h
        · exact Or.inr ⟨by rw [F3 _ _ (by omega)]; exact h, fun t a b => by rw [F3 _ _ (by omega)]; exact g t a b⟩
    obtain ⟨s1, V4, FW4, E⟩ := ih (p + 1) sd _ (by omega) (by omega) (CWs_fr hn.2 hs2 FW3) V3 (scn_GB hP hm hn.1 d _ B hB).1
    refine ⟨s1, V4, fun c i h => by rw [FW4 c i h, FW3 c i h, FW2 c i h, FW1 c i h], ?_⟩
    have C2' : zcall 37 [vR 35, vI (0 + 1)] sb = some (none, sc) := C2
    rw [U_X5_giveFrom0_50]
    simp (disch := first | exact z_tt rfl | assumption | omega | (simp (disch := omega) only [zU_eq, zU_nc, zU_nj]; omega)) only [↓L_ald_n0, ↓I_X5_poorest_35, ↓L_ist_n2, ↓L_ist_n2L, ↓F_g35_5, ↓L_ild_n2, ↓A_g3, ↓A_g4, ↓A_g5, ↓A_g6, ↓A_g7, ↓A_g9, ↓A_g10, ↓A_g12, ↓A_g13, ↓A_g15, ↓A_g16, ↓A_g19, ↓A_g20, ↓A_g21, ↓A_g22, ↓A_g23, ↓A_g25, ↓A_g26, ↓A_g28, ↓A_g29, ↓A_g31, ↓A_g32, ↓A_g34, ↓A_g36, ↓A_g37, ↓A_g38, ↓A_g39, ↓A_g41, ↓A_g42, ↓A_g43, ↓A_g44, ↓A_g61, ↓A_g62, ↓A_g63, ↓A_g65, ↓A_g66, ↓A_g67, ↓A_g68, ↓A_g69, ↓A_g70, ↓A_gN, ↓A_gT, ↓A_gC, ↓r_i2l, ↓F_g35_8, ↓r_lmul, ↓F_g35_7, ↓F_g35_4, ↓r_ifgt_t, ↓r_ifgt_f, ↓J_X5_giveFrom0_34, ↓r_lgt_t, ↓r_lgt_f, ↓r_return, ↓L_ild_n1, ↓F_g35_2, ↓r_iclt_t, ↓r_iclt_f, ↓J_X5_giveFrom0_48, ↓I_X5_keep_35, ↓r_iconst, ↓L_ist_n3, ↓L_ist_n3L, ↓L_ild_n3, ↓F_g35_1, ↓r_icge_t, ↓r_icge_f, ↓J_X5_giveFrom0_92, ↓F_g35_3, ↓A_p3, ↓A_p4, ↓A_p5, ↓A_p6, ↓A_p7, ↓A_p9, ↓A_p10, ↓A_p12, ↓A_p13, ↓A_p15, ↓A_p16, ↓A_p19, ↓A_p20, ↓A_p21, ↓A_p22, ↓A_p23, ↓A_p25, ↓A_p26, ↓A_p28, ↓A_p29, ↓A_p31, ↓A_p32, ↓A_p34, ↓A_p36, ↓A_p37, ↓A_p38, ↓A_p39, ↓A_p41, ↓A_p42, ↓A_p43, ↓A_p44, ↓A_p61, ↓A_p62, ↓A_p63, ↓A_p65, ↓A_p66, ↓A_p67, ↓A_p68, ↓A_p69, ↓A_p70, ↓A_pN, ↓A_pT, ↓I_X5_denyOthers_35, ↓r_iadd, ↓I_X5_giveFrom1, ↓L_iinc3, ↓r_goto, ↓J_X5_giveFrom0_50, ↓U_X5_giveFrom0_0, ↓U_X5_giveFrom0_34, ↓U_X5_giveFrom0_48, ↓U_X5_giveFrom0_92, ↓zthen_v, ↓zthen_0, zU_eq, zU_nc, zU_nj, C1, C2', C3]
    exact E
set_option maxRecDepth 20000 in
set_option maxHeartbeats 4000000 in
theorem c_gF0 {P : Int → Int → Int} {m n : Int} (hP : PN P m n) (hm : 0 ≤ m ∧ m ≤ 6) (hn : 1 ≤ n ∧ n ≤ 4) (d : Nat) (hd : m = 0 + d) : ∀ (s : zM) (w : Int → Int) (B : Bst), CWs s P m n → CWv s P m n w 0 B → GB B → ∃ s1, CWv s1 P m n w 0 (scn P m n d w B) ∧ FrW s s1 ∧ zcall 36 [vR 35, vI 0] s = some (none, s1) := by
  intro s w B hs hv hB
  have cp := c_poorest hP hm hn (k := 0) (by omega) hs hv
  have hT : ∀ p : Int, 0 ≤ p → p < n → 0 < toP P m p := fun p a b => by
    have := toP_bd hP hm (p := p) ⟨a, b⟩
    omega
  obtain ⟨s1, s2⟩ := pst_spec (r := rch P m w 0) (T := toP P m) hn.1 hT
  have e2 := hs.2.2.1
  have er := hv.2.1 _ s1.1 s1.2
  have eT := hs.2.2.2.1 _ s1.1 s1.2
  have bT := toP_bd hP hm s1
  have br := rch_bd hP hm w (k := 0) (by omega) s1
  have hm7 := hv.2.2.1
  have hm8 := hv.2.2.2.1
  obtain ⟨⟨g1, g2⟩, g3, g4⟩ := hB
  have k1 := mul_bd br (show 0 ≤ B.2.1 ∧ B.2.1 ≤ 594 by omega)
  have k2 : -594 ≤ B.1 * toP P m (pst (rch P m w 0) (toP P m) n) ∧ B.1 * toP P m (pst (rch P m w 0) (toP P m) n) ≤ 352836 := by
    by_cases h : 0 ≤ B.1
    · have := mul_bd (show 0 ≤ B.1 ∧ B.1 ≤ 594 by omega) (show 0 ≤ toP P m (pst (rch P m w 0) (toP P m) n) ∧ toP P m (pst (rch P m w 0) (toP P m) n) ≤ 594 by omega)
      omega
    · rw [show B.1 = -1 by omega]
      omega
  by_cases q1 : rch P m w 0 (pst (rch P m w 0) (toP P m) n) * B.2.1 ≤ B.1 * toP P m (pst (rch P m w 0) (toP P m) n)
  · rw [scn_prune hP hm hn.1 (by omega) d w (by omega) ⟨_, s1, by rw [show m - (d : Int) = 0 by omega]; exact q1⟩]
    refine ⟨s, hv, fun _ _ _ => rfl, ?_⟩
    rw [S_X5_giveFrom0]
    generalize pst (rch P m w 0) (toP P m) n = q at *
    simp (disch := first | exact z_tt rfl | assumption | omega | (simp (disch := omega) only [zU_eq, zU_nc, zU_nj]; omega)) only [↓L_ald_n0, ↓I_X5_poorest_35, ↓L_ist_n2, ↓L_ist_n2L, ↓F_g35_5, ↓L_ild_n2, ↓A_g3, ↓A_g4, ↓A_g5, ↓A_g6, ↓A_g7, ↓A_g9, ↓A_g10, ↓A_g12, ↓A_g13, ↓A_g15, ↓A_g16, ↓A_g19, ↓A_g20, ↓A_g21, ↓A_g22, ↓A_g23, ↓A_g25, ↓A_g26, ↓A_g28, ↓A_g29, ↓A_g31, ↓A_g32, ↓A_g34, ↓A_g36, ↓A_g37, ↓A_g38, ↓A_g39, ↓A_g41, ↓A_g42, ↓A_g43, ↓A_g44, ↓A_g61, ↓A_g62, ↓A_g63, ↓A_g65, ↓A_g66, ↓A_g67, ↓A_g68, ↓A_g69, ↓A_g70, ↓A_gN, ↓A_gT, ↓A_gC, ↓r_i2l, ↓F_g35_8, ↓r_lmul, ↓F_g35_7, ↓F_g35_4, ↓r_ifgt_t, ↓r_ifgt_f, ↓J_X5_giveFrom0_34, ↓r_lgt_t, ↓r_lgt_f, ↓r_return, ↓L_ild_n1, ↓F_g35_2, ↓r_iclt_t, ↓r_iclt_f, ↓J_X5_giveFrom0_48, ↓I_X5_keep_35, ↓r_iconst, ↓L_ist_n3, ↓L_ist_n3L, ↓L_ild_n3, ↓F_g35_1, ↓r_icge_t, ↓r_icge_f, ↓J_X5_giveFrom0_92, ↓F_g35_3, ↓A_p3, ↓A_p4, ↓A_p5, ↓A_p6, ↓A_p7, ↓A_p9, ↓A_p10, ↓A_p12, ↓A_p13, ↓A_p15, ↓A_p16, ↓A_p19, ↓A_p20, ↓A_p21, ↓A_p22, ↓A_p23, ↓A_p25, ↓A_p26, ↓A_p28, ↓A_p29, ↓A_p31, ↓A_p32, ↓A_p34, ↓A_p36, ↓A_p37, ↓A_p38, ↓A_p39, ↓A_p41, ↓A_p42, ↓A_p43, ↓A_p44, ↓A_p61, ↓A_p62, ↓A_p63, ↓A_p65, ↓A_p66, ↓A_p67, ↓A_p68, ↓A_p69, ↓A_p70, ↓A_pN, ↓A_pT, ↓I_X5_denyOthers_35, ↓r_iadd, ↓I_X5_giveFrom1, ↓L_iinc3, ↓r_goto, ↓J_X5_giveFrom0_50, ↓U_X5_giveFrom0_0, ↓U_X5_giveFrom0_34, ↓U_X5_giveFrom0_48, ↓U_X5_giveFrom0_92, ↓zthen_v, ↓zthen_0, zU_eq, zU_nc, zU_nj, cp, er, eT, hm7, hm8]
  · by_cases q2 : d = 0
    · have q1' : B.1 * toP P m (pst (rch P m w m) (toP P m) n) < rch P m w m (pst (rch P m w m) (toP P m) n) * B.2.1 := by
        rw [show (0 : Int) = m by omega] at q1
        omega
      rw [show d = 0 by omega, scn, stp, if_pos q1']
      rw [show (0 : Int) = m by omega] at cp er eT bT br s1 k2 ⊢
      generalize pst (rch P m w m) (toP P m) n = q at *
      have ck := c_keepW (s := s) (q := q) (by omega) (by omega) (by omega)
      refine ⟨zU (zU (zU (zCpy s 36 0 39 0 6) 35 7 (s 38 q)) 35 8 (s 37 q)) 35 9 q, ⟨fun t a b => ?_, fun x a b => ?_, ?_, ?_, ?_⟩, fun c i h => ?_, ?_⟩
      · simp (disch := omega) only [zU_ow, zCpy_nc]
        exact hv.1 t a (by omega)
      · simp (disch := omega) only [zU_ow, zCpy_nc]
        rw [hv.2.1 x a b, show (0 : Int) = m by omega]
      · simp (disch := omega) only [zU_ow, zU_eq]
        exact er
      · simp (disch := omega) only [zU_ow, zU_eq]
        exact eT
      · right
        refine ⟨zU_eq _ _ _ _, fun t a b => ?_⟩
        simp (disch := omega) only [zU_ow]
        rw [zCpy_in _ _ _ _ _ _ _ (by omega), show (0 : Int) + (t - 0) = t by omega]
        exact hv.1 t a (by omega)
      · simp (disch := omega) only [zU_ow, zCpy_nc]
      · rw [S_X5_giveFrom0]
        have k1' := mul_bd (show 0 ≤ s 38 q ∧ s 38 q ≤ 594 by omega) (show 0 ≤ B.2.1 ∧ B.2.1 ≤ 594 by omega)
        rw [← er, ← eT] at q1'
        rw [← eT] at k2
        simp (disch := first | exact z_tt rfl | assumption | omega | (simp (disch := omega) only [zU_eq, zU_nc, zU_nj]; omega)) only [↓L_ald_n0, ↓I_X5_poorest_35, ↓L_ist_n2, ↓L_ist_n2L, ↓F_g35_5, ↓L_ild_n2, ↓A_g3, ↓A_g4, ↓A_g5, ↓A_g6, ↓A_g7, ↓A_g9, ↓A_g10, ↓A_g12, ↓A_g13, ↓A_g15, ↓A_g16, ↓A_g19, ↓A_g20, ↓A_g21, ↓A_g22, ↓A_g23, ↓A_g25, ↓A_g26, ↓A_g28, ↓A_g29, ↓A_g31, ↓A_g32, ↓A_g34, ↓A_g36, ↓A_g37, ↓A_g38, ↓A_g39, ↓A_g41, ↓A_g42, ↓A_g43, ↓A_g44, ↓A_g61, ↓A_g62, ↓A_g63, ↓A_g65, ↓A_g66, ↓A_g67, ↓A_g68, ↓A_g69, ↓A_g70, ↓A_gN, ↓A_gT, ↓A_gC, ↓r_i2l, ↓F_g35_8, ↓r_lmul, ↓F_g35_7, ↓F_g35_4, ↓r_ifgt_t, ↓r_ifgt_f, ↓J_X5_giveFrom0_34, ↓r_lgt_t, ↓r_lgt_f, ↓r_return, ↓L_ild_n1, ↓F_g35_2, ↓r_iclt_t, ↓r_iclt_f, ↓J_X5_giveFrom0_48, ↓I_X5_keep_35, ↓r_iconst, ↓L_ist_n3, ↓L_ist_n3L, ↓L_ild_n3, ↓F_g35_1, ↓r_icge_t, ↓r_icge_f, ↓J_X5_giveFrom0_92, ↓F_g35_3, ↓A_p3, ↓A_p4, ↓A_p5, ↓A_p6, ↓A_p7, ↓A_p9, ↓A_p10, ↓A_p12, ↓A_p13, ↓A_p15, ↓A_p16, ↓A_p19, ↓A_p20, ↓A_p21, ↓A_p22, ↓A_p23, ↓A_p25, ↓A_p26, ↓A_p28, ↓A_p29, ↓A_p31, ↓A_p32, ↓A_p34, ↓A_p36, ↓A_p37, ↓A_p38, ↓A_p39, ↓A_p41, ↓A_p42, ↓A_p43, ↓A_p44, ↓A_p61, ↓A_p62, ↓A_p63, ↓A_p65, ↓A_p66, ↓A_p67, ↓A_p68, ↓A_p69, ↓A_p70, ↓A_pN, ↓A_pT, ↓I_X5_denyOthers_35, ↓r_iadd, ↓I_X5_giveFrom1, ↓L_iinc3, ↓r_goto, ↓J_X5_giveFrom0_50, ↓U_X5_giveFrom0_0, ↓U_X5_giveFrom0_34, ↓U_X5_giveFrom0_48, ↓U_X5_giveFrom0_92, ↓zthen_v, ↓zthen_0, zU_eq, zU_nc, zU_nj, cp, hm7, hm8, ck]
    · obtain ⟨d1, rfl⟩ : ∃ d1, d = d1 + 1 := ⟨d - 1, by omega⟩
      obtain ⟨s3, V3, F3, E3⟩ := c_gL0 (q := pst (rch P m w 0) (toP P m) n) hP hm hn d1 (by omega) w n.toNat 0 s B (by omega) (by omega) hs hv ⟨⟨g1, g2⟩, g3, g4⟩
      refine ⟨s3, ?_, F3, ?_⟩
      · rw [scn, show m - ((d1 : Int) + 1) = 0 by omega]
        exact V3
      · rw [S_X5_giveFrom0]
        generalize pst (rch P m w 0) (toP P m) n = q at *
        simp (disch := first | exact z_tt rfl | assumption | omega | (simp (disch := omega) only [zU_eq, zU_nc, zU_nj]; omega)) only [↓L_ald_n0, ↓I_X5_poorest_35, ↓L_ist_n2, ↓L_ist_n2L, ↓F_g35_5, ↓L_ild_n2, ↓A_g3, ↓A_g4, ↓A_g5, ↓A_g6, ↓A_g7, ↓A_g9, ↓A_g10, ↓A_g12, ↓A_g13, ↓A_g15, ↓A_g16, ↓A_g19, ↓A_g20, ↓A_g21, ↓A_g22, ↓A_g23, ↓A_g25, ↓A_g26, ↓A_g28, ↓A_g29, ↓A_g31, ↓A_g32, ↓A_g34, ↓A_g36, ↓A_g37, ↓A_g38, ↓A_g39, ↓A_g41, ↓A_g42, ↓A_g43, ↓A_g44, ↓A_g61, ↓A_g62, ↓A_g63, ↓A_g65, ↓A_g66, ↓A_g67, ↓A_g68, ↓A_g69, ↓A_g70, ↓A_gN, ↓A_gT, ↓A_gC, ↓r_i2l, ↓F_g35_8, ↓r_lmul, ↓F_g35_7, ↓F_g35_4, ↓r_ifgt_t, ↓r_ifgt_f, ↓J_X5_giveFrom0_34, ↓r_lgt_t, ↓r_lgt_f, ↓r_return, ↓L_ild_n1, ↓F_g35_2, ↓r_iclt_t, ↓r_iclt_f, ↓J_X5_giveFrom0_48, ↓I_X5_keep_35, ↓r_iconst, ↓L_ist_n3, ↓L_ist_n3L, ↓L_ild_n3, ↓F_g35_1, ↓r_icge_t, ↓r_icge_f, ↓J_X5_giveFrom0_92, ↓F_g35_3, ↓A_p3, ↓A_p4, ↓A_p5, ↓A_p6, ↓A_p7, ↓A_p9, ↓A_p10, ↓A_p12, ↓A_p13, ↓A_p15, ↓A_p16, ↓A_p19, ↓A_p20, ↓A_p21, ↓A_p22, ↓A_p23, ↓A_p25, ↓A_p26, ↓A_p28, ↓A_p29, ↓A_p31, ↓A_p32, ↓A_p34, ↓A_p36, ↓A_p37, ↓A_p38, ↓A_p39, ↓A_p41, ↓A_p42, ↓A_p43, ↓A_p44, ↓A_p61, ↓A_p62, ↓A_p63, ↓A_p65, ↓A_p66, ↓A_p67, ↓A_p68, ↓A_p69, ↓A_p70, ↓A_pN, ↓A_pT, ↓I_X5_denyOthers_35, ↓r_iadd, ↓I_X5_giveFrom1, ↓L_iinc3, ↓r_goto, ↓J_X5_giveFrom0_50, ↓U_X5_giveFrom0_0, ↓U_X5_giveFrom0_34, ↓U_X5_giveFrom0_48, ↓U_X5_giveFrom0_92, ↓zthen_v, ↓zthen_0, zU_eq, zU_nc, zU_nj, cp, er, eT, hm7, hm8]
        exact E3
