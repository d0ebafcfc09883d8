/-! the odometer -/
def lstW (m n : Int) (d : Nat) (w : Int → Int) : Int → Int := fun u => if m - d ≤ u then n - 1 else w u
theorem lstW_upd {m n : Int} {d : Nat} {w : Int → Int} : lstW m n d (updW w (m - (d + 1)) (n - 1)) = lstW m n (d + 1) w := by
  funext u
  unfold lstW updW
  by_cases h : m - (d : Int) ≤ u
  · rw [if_pos h, if_pos (by omega)]
  · rw [if_neg h]
    by_cases g : u = m - ((d : Int) + 1)
    · rw [if_pos g, if_pos (by omega)]
    · rw [if_neg g, if_neg (by omega)]
theorem WD_upd {m n k v : Int} {w : Int → Int} (h : WD w m n) (hv : 0 ≤ v ∧ v < n) : WD (updW w k v) m n := by
  intro u a b
  unfold updW
  split
  · exact hv
  · exact h u a b
theorem FrV_tr {s t u : zM} (h : FrV s t) (g : FrV t u) : FrV s u := fun c j k => by rw [g c j k, h c j k]
set_option maxRecDepth 20000 in
set_option maxHeartbeats 4000000 in
theorem m_odo {P : Int → Int → Int} {m n : Int} (hP : PN P m n) (hm : 0 ≤ m ∧ m ≤ 6) (hn : 1 ≤ n ∧ n ≤ 4) : ∀ (d : Nat) (w : Int → Int) (B : Bst) (t : zM) (z2 z3 z4 z5 z6 z7 z8 z9 z10 z11 z12 : zV), (d : Int) ≤ m → WD w m n → (∀ u : Int, m - d ≤ u → u < m → w u = 0) → MWs t P m n → MWv t m w B → GB B → ∃ (t1 : zM) (y2 y3 y4 y5 y6 y7 y8 y9 y10 y11 y12 : zV), MWv t1 m (lstW m n d w) (scn P m n d w B) ∧ FrV t t1 ∧ zres 159 C_X7_searches_35 [vR 60, vI 1, z2, z3, z4, z5, z6, z7, z8, z9, z10, z11, z12] [] t = zres 159 C_X7_searches_184 [vR 60, vI 1, y2, y3, y4, y5, y6, y7, y8, y9, y10, y11, y12] [] t1 := by
  intro d
  induction d with
  | zero =>
    intro w B t z2 z3 z4 z5 z6 z7 z8 z9 z10 z11 z12 hd hD hw hs hv hB
    obtain ⟨t1, y2, y3, y4, y5, y6, y7, y8, y9, y10, y11, y12, V1', F1, E⟩ := m_leaf hP hm hn hs hv hD hB z2 z3 z4 z5 z6 z7 z8 z9 z10 z11 z12
    refine ⟨t1, y2, y3, y4, y5, y6, y7, y8, y9, y10, y11, y12, ⟨fun u a b => ?_, V1'.2⟩, F1, E⟩
    rw [V1'.1 u a b]
    unfold lstW
    rw [if_neg (by omega)]
  | succ d ih =>
    intro w B t z2 z3 z4 z5 z6 z7 z8 z9 z10 z11 z12 hd hD hw hs hv hB
    -- the digit at place m - (d + 1) goes from p to the last
    have inner : ∀ (j : Nat) (p : Int) (B : Bst) (t : zM) (z2 z3 z4 z5 z6 z7 z8 z9 z10 z11 z12 : zV), p + (j + 1 : Nat) = n → 0 ≤ p → MWs t P m n → MWv t m (updW w (m - (d + 1)) p) B → GB B → ∃ (t1 : zM) (y2 y3 y4 y5 y6 y7 y8 y9 y10 y11 y12 : zV), MWv t1 m (lstW m n (d + 1) w) (foldP (fun p B => scn P m n d (updW w (m - (d + 1)) p) B) p (j + 1) B) ∧ FrV t t1 ∧ zres 159 C_X7_searches_35 [vR 60, vI 1, z2, z3, z4, z5, z6, z7, z8, z9, z10, z11, z12] [] t = zres 159 C_X7_searches_184 [vR 60, vI 1, y2, y3, y4, y5, y6, y7, y8, y9, y10, y11, y12] [] t1 := by
      intro j
      induction j with
      | zero =>
        intro p B t z2 z3 z4 z5 z6 z7 z8 z9 z10 z11 z12 hj hp hs hv hB
        have e : p = n - 1 := by omega
        subst e
        obtain ⟨t1, y2, y3, y4, y5, y6, y7, y8, y9, y10, y11, y12, V1', F1, E⟩ := ih (updW w (m - (d + 1)) (n - 1)) B t z2 z3 z4 z5 z6 z7 z8 z9 z10 z11 z12 (by omega) (WD_upd hD (by omega)) (fun u a b => by
          unfold updW
          rw [if_neg (by omega)]
          exact hw u (by omega) b) hs hv hB
        rw [lstW_upd] at V1'
        exact ⟨t1, y2, y3, y4, y5, y6, y7, y8, y9, y10, y11, y12, V1', F1, E⟩
      | succ j ihj =>
        intro p B t z2 z3 z4 z5 z6 z7 z8 z9 z10 z11 z12 hj hp hs hv hB
        obtain ⟨t1, y2, y3, y4, y5, y6, y7, y8, y9, y10, y11, y12, V1', F1, E⟩ := ih (updW w (m - (d + 1)) p) B t z2 z3 z4 z5 z6 z7 z8 z9 z10 z11 z12 (by omega) (WD_upd hD (by omega)) (fun u a b => by
          unfold updW
          rw [if_neg (by omega)]
          exact hw u (by omega) b) hs hv hB
        have hs1 := MWs_fr hs F1
        obtain ⟨v1, v2, v3, v4⟩ := V1'
        have hk : t1 65 (m - d - 1) = p := by
          rw [v1 _ (by omega) (by omega)]
          unfold lstW updW
          rw [if_neg (by omega), if_pos (by omega)]
        obtain ⟨t2, H, F2, N⟩ := m_nextWay (s := t1) d hm hn hs1.1 hs1.2.1 (by omega) (fun u a b => by
          rw [v1 u (by omega) b]
          unfold lstW
          rw [if_pos a]) (by rw [hk]; omega)
        have FV2 : FrV t1 t2 := fun c i h => F2 _ _ (by omega)
        have V2' : MWv t2 m (updW w (m - (d + 1)) (p + 1)) (scn P m n d (updW w (m - (d + 1)) p) B) := by
          refine ⟨fun u a b => ?_, by rw [F2 _ _ (by omega)]; exact v2, by rw [F2 _ _ (by omega)]; exact v3, ?_⟩
          · rw [H u]
            unfold updW
            by_cases g : m - (d : Int) ≤ u ∧ u < m
            · rw [if_pos g, if_neg (by omega)]
              exact (hw u (by omega) b).symm
            · rw [if_neg g]
              by_cases g2 : u = m - d - 1
              · rw [if_pos g2, if_pos (by omega), g2, hk]
              · rw [if_neg g2, if_neg (by omega), v1 u a b]
                unfold lstW updW
                rw [if_neg (by omega), if_neg (by omega)]
          · rcases v4 with h | ⟨h, g⟩
            · exact Or.inl h
            · exact Or.inr ⟨by rw [F2 _ _ (by omega)]; exact h, fun u a b => by rw [F2 _ _ (by omega)]; exact g u a b⟩
        obtain ⟨t3, x2, x3, x4, x5, x6, x7, x8, x9, x10, x11, x12, V3, F3, E3⟩ := ihj (p + 1) _ t2 y2 y3 y4 y5 y6 y7 y8 y9 y10 y11 y12 (by omega) (by omega) (MWs_fr hs1 FV2) V2' (scn_GB hP hm hn.1 d _ B hB).1
        refine ⟨t3, x2, x3, x4, x5, x6, x7, x8, x9, x10, x11, x12, V3, FrV_tr F1 (FrV_tr FV2 F3), ?_⟩
        rw [E, ← E3]
        conv => lhs; rw [U_X7_searches_184]
        simp (disch := first | exact z_tt rfl | assumption | omega | (simp (disch := omega) only [zU_eq, zU_nc, zU_nj]; omega)) only [↓r_iconst, ↓L_ist_n1, ↓L_ist_n1L, ↓L_ild_n1, ↓r_bipush, ↓r_icge_t, ↓r_icge_f, ↓J_X7_searches_21, ↓L_ald_n0, ↓F_g60_11, ↓A_p3, ↓A_p4, ↓A_p5, ↓A_p6, ↓A_p7, ↓A_p9, ↓A_p10, ↓A_p12, ↓A_p13, ↓A_p15, ↓A_p16, ↓A_p19, ↓A_p20, ↓A_p21, ↓A_p22, ↓A_p23, ↓A_p25, ↓A_p26, ↓A_p28, ↓A_p29, ↓A_p31, ↓A_p32, ↓A_p34, ↓A_p36, ↓A_p37, ↓A_p38, ↓A_p39, ↓A_p41, ↓A_p42, ↓A_p43, ↓A_p44, ↓A_p61, ↓A_p62, ↓A_p63, ↓A_p65, ↓A_p66, ↓A_p67, ↓A_p68, ↓A_p69, ↓A_p70, ↓A_pN, ↓A_pT, ↓L_iinc1, ↓r_goto, ↓J_X7_searches_2, ↓r_ldc2w, ↓F_p60_13, ↓r_lconst, ↓F_p60_14, ↓r_ifeq_t, ↓r_ifeq_f, ↓J_X7_searches_192, ↓L_ist_n2, ↓L_ist_n2L, ↓L_lst_n3, ↓L_lst_n3L, ↓L_lst5, ↓L_lst5L, ↓L_ist7, ↓L_ist7L, ↓L_ild7, ↓F_g60_0, ↓A_g3, ↓A_g4, ↓A_g5, ↓A_g6, ↓A_g7, ↓A_g9, ↓A_g10, ↓A_g12, ↓A_g13, ↓A_g15, ↓A_g16, ↓A_g19, ↓A_g20, ↓A_g21, ↓A_g22, ↓A_g23, ↓A_g25, ↓A_g26, ↓A_g28, ↓A_g29, ↓A_g31, ↓A_g32, ↓A_g34, ↓A_g36, ↓A_g37, ↓A_g38, ↓A_g39, ↓A_g41, ↓A_g42, ↓A_g43, ↓A_g44, ↓A_g61, ↓A_g62, ↓A_g63, ↓A_g65, ↓A_g66, ↓A_g67, ↓A_g68, ↓A_g69, ↓A_g70, ↓A_gN, ↓A_gT, ↓A_gC, ↓J_X7_searches_136, ↓I_X7_allOf_60, ↓L_ist8, ↓L_ist8L, ↓L_ild8, ↓r_ifne_t, ↓r_ifne_f, ↓J_X7_searches_77, ↓J_X7_searches_84, ↓I_X7_wayWorth_60, ↓r_i2l, ↓L_lst9, ↓L_lst9L, ↓J_X7_searches_95, ↓J_X7_searches_98, ↓L_lst11, ↓L_lst11L, ↓L_lld5, ↓J_X7_searches_120, ↓r_leq_t, ↓r_leq_f, ↓L_lld9, ↓r_lmul, ↓L_lld_n3, ↓L_lld11, ↓r_ifge_t, ↓r_ifge_f, ↓J_X7_searches_130, ↓r_lge_t, ↓r_lge_f, ↓L_iinc7, ↓J_X7_searches_49, ↓F_g60_14, ↓F_g60_13, ↓r_ifle_t, ↓r_ifle_f, ↓J_X7_searches_184, ↓r_lle_t, ↓r_lle_f, ↓L_ild_n2, ↓F_p60_15, ↓F_g60_12, ↓A_c6, ↓A_c5, ↓A_c8, ↓A_c82, ↓A_c60, ↓A_c360, ↓I_X7_nextWay_60, ↓J_X7_searches_35, ↓r_return, ↓U_X7_searches_0, ↓U_X7_searches_2, ↓U_X7_searches_21, ↓U_X7_searches_49, ↓U_X7_searches_77, ↓U_X7_searches_84, ↓U_X7_searches_95, ↓U_X7_searches_98, ↓U_X7_searches_120, ↓U_X7_searches_130, ↓U_X7_searches_136, ↓U_X7_searches_192, ↓zthen_v, ↓zthen_0, zU_eq, zU_nc, zU_nj, N]
    obtain ⟨j, hj⟩ : ∃ j : Nat, n.toNat = j + 1 := ⟨n.toNat - 1, by omega⟩
    obtain ⟨t1, y2, y3, y4, y5, y6, y7, y8, y9, y10, y11, y12, V, F, E⟩ := inner j 0 B t z2 z3 z4 z5 z6 z7 z8 z9 z10 z11 z12 (by omega) (by omega) hs ⟨fun u a b => by
      rw [hv.1 u a b]
      unfold updW
      split
      · exact hw u (by omega) b
      · rfl, hv.2⟩ hB
    refine ⟨t1, y2, y3, y4, y5, y6, y7, y8, y9, y10, y11, y12, ?_, F, E⟩
    rw [scn, hj]
    exact V
set_option maxRecDepth 20000 in
theorem m_sz_loop : ∀ (j : Nat) (u : Int) (t : zM), 0 ≤ u → u + j = 6 → ∃ t1, (∀ q : Int, t1 65 q = if u ≤ q ∧ q < 6 then 0 else t 65 q) ∧ (∀ a b : Int, ¬ a = 65 → t1 a b = t a b) ∧ zres 159 C_X7_searches_2 [vR 60, vI u, vU, vU, vU, vU, vU, vU, vU, vU, vU, vU, vU] [] t = zres 159 C_X7_searches_21 [vR 60, vI 6, vU, vU, vU, vU, vU, vU, vU, vU, vU, vU, vU] [] t1 := by
  intro j
  induction j with
  | zero =>
    intro u t hu hj
    have e : u = 6 := by omega
    subst e
    refine ⟨t, fun q => by rw [if_neg (by omega)], fun _ _ _ => rfl, ?_⟩
    rw [U_X7_searches_2]
    simp (disch := first | exact z_tt rfl | assumption | omega | (simp (disch := omega) only [zU_eq, zU_nc, zU_nj]; omega)) only [↓r_iconst, ↓L_ist_n1, ↓L_ist_n1L, ↓L_ild_n1, ↓r_bipush, ↓r_icge_t, ↓r_icge_f, ↓J_X7_searches_21, ↓L_ald_n0, ↓F_g60_11, ↓A_p3, ↓A_p4, ↓A_p5, ↓A_p6, ↓A_p7, ↓A_p9, ↓A_p10, ↓A_p12, ↓A_p13, ↓A_p15, ↓A_p16, ↓A_p19, ↓A_p20, ↓A_p21, ↓A_p22, ↓A_p23, ↓A_p25, ↓A_p26, ↓A_p28, ↓A_p29, ↓A_p31, ↓A_p32, ↓A_p34, ↓A_p36, ↓A_p37, ↓A_p38, ↓A_p39, ↓A_p41, ↓A_p42, ↓A_p43, ↓A_p44, ↓A_p61, ↓A_p62, ↓A_p63, ↓A_p65, ↓A_p66, ↓A_p67, ↓A_p68, ↓A_p69, ↓A_p70, ↓A_pN, ↓A_pT, ↓L_iinc1, ↓r_goto, ↓J_X7_searches_2, ↓r_ldc2w, ↓F_p60_13, ↓r_lconst, ↓F_p60_14, ↓r_ifeq_t, ↓r_ifeq_f, ↓J_X7_searches_192, ↓L_ist_n2, ↓L_ist_n2L, ↓L_lst_n3, ↓L_lst_n3L, ↓L_lst5, ↓L_lst5L, ↓L_ist7, ↓L_ist7L, ↓L_ild7, ↓F_g60_0, ↓A_g3, ↓A_g4, ↓A_g5, ↓A_g6, ↓A_g7, ↓A_g9, ↓A_g10, ↓A_g12, ↓A_g13, ↓A_g15, ↓A_g16, ↓A_g19, ↓A_g20, ↓A_g21, ↓A_g22, ↓A_g23, ↓A_g25, ↓A_g26, ↓A_g28, ↓A_g29, ↓A_g31, ↓A_g32, ↓A_g34, ↓A_g36, ↓A_g37, ↓A_g38, ↓A_g39, ↓A_g41, ↓A_g42, ↓A_g43, ↓A_g44, ↓A_g61, ↓A_g62, ↓A_g63, ↓A_g65, ↓A_g66, ↓A_g67, ↓A_g68, ↓A_g69, ↓A_g70, ↓A_gN, ↓A_gT, ↓A_gC, ↓J_X7_searches_136, ↓I_X7_allOf_60, ↓L_ist8, ↓L_ist8L, ↓L_ild8, ↓r_ifne_t, ↓r_ifne_f, ↓J_X7_searches_77, ↓J_X7_searches_84, ↓I_X7_wayWorth_60, ↓r_i2l, ↓L_lst9, ↓L_lst9L, ↓J_X7_searches_95, ↓J_X7_searches_98, ↓L_lst11, ↓L_lst11L, ↓L_lld5, ↓J_X7_searches_120, ↓r_leq_t, ↓r_leq_f, ↓L_lld9, ↓r_lmul, ↓L_lld_n3, ↓L_lld11, ↓r_ifge_t, ↓r_ifge_f, ↓J_X7_searches_130, ↓r_lge_t, ↓r_lge_f, ↓L_iinc7, ↓J_X7_searches_49, ↓F_g60_14, ↓F_g60_13, ↓r_ifle_t, ↓r_ifle_f, ↓J_X7_searches_184, ↓r_lle_t, ↓r_lle_f, ↓L_ild_n2, ↓F_p60_15, ↓F_g60_12, ↓A_c6, ↓A_c5, ↓A_c8, ↓A_c82, ↓A_c60, ↓A_c360, ↓I_X7_nextWay_60, ↓J_X7_searches_35, ↓r_return, ↓U_X7_searches_0, ↓U_X7_searches_35, ↓U_X7_searches_49, ↓U_X7_searches_77, ↓U_X7_searches_84, ↓U_X7_searches_95, ↓U_X7_searches_98, ↓U_X7_searches_120, ↓U_X7_searches_130, ↓U_X7_searches_136, ↓U_X7_searches_184, ↓U_X7_searches_192, ↓zthen_v, ↓zthen_0, zU_eq, zU_nc, zU_nj]
  | succ j ih =>
    intro u t hu hj
    obtain ⟨t1, H, F, E⟩ := ih (u + 1) (zU t 65 u 0) (by omega) (by omega)
    refine ⟨t1, fun q => ?_, fun a b g => by rw [F a b g, zU_ow _ _ _ _ _ _ (by omega)], ?_⟩
    · rw [H q]
      by_cases g : q = u
      · subst g
        rw [if_neg (by omega), zU_eq, if_pos (by omega)]
      · rw [zU_ow _ _ _ _ _ _ (by omega)]
        by_cases g2 : u + 1 ≤ q ∧ q < 6
        · rw [if_pos g2, if_pos (by omega)]
        · rw [if_neg g2, if_neg (by omega)]
    · rw [← E]
      conv => lhs; rw [U_X7_searches_2]
      simp (disch := first | exact z_tt rfl | assumption | omega | (simp (disch := omega) only [zU_eq, zU_nc, zU_nj]; omega)) only [↓r_iconst, ↓L_ist_n1, ↓L_ist_n1L, ↓L_ild_n1, ↓r_bipush, ↓r_icge_t, ↓r_icge_f, ↓J_X7_searches_21, ↓L_ald_n0, ↓F_g60_11, ↓A_p3, ↓A_p4, ↓A_p5, ↓A_p6, ↓A_p7, ↓A_p9, ↓A_p10, ↓A_p12, ↓A_p13, ↓A_p15, ↓A_p16, ↓A_p19, ↓A_p20, ↓A_p21, ↓A_p22, ↓A_p23, ↓A_p25, ↓A_p26, ↓A_p28, ↓A_p29, ↓A_p31, ↓A_p32, ↓A_p34, ↓A_p36, ↓A_p37, ↓A_p38, ↓A_p39, ↓A_p41, ↓A_p42, ↓A_p43, ↓A_p44, ↓A_p61, ↓A_p62, ↓A_p63, ↓A_p65, ↓A_p66, ↓A_p67, ↓A_p68, ↓A_p69, ↓A_p70, ↓A_pN, ↓A_pT, ↓L_iinc1, ↓r_goto, ↓J_X7_searches_2, ↓r_ldc2w, ↓F_p60_13, ↓r_lconst, ↓F_p60_14, ↓r_ifeq_t, ↓r_ifeq_f, ↓J_X7_searches_192, ↓L_ist_n2, ↓L_ist_n2L, ↓L_lst_n3, ↓L_lst_n3L, ↓L_lst5, ↓L_lst5L, ↓L_ist7, ↓L_ist7L, ↓L_ild7, ↓F_g60_0, ↓A_g3, ↓A_g4, ↓A_g5, ↓A_g6, ↓A_g7, ↓A_g9, ↓A_g10, ↓A_g12, ↓A_g13, ↓A_g15, ↓A_g16, ↓A_g19, ↓A_g20, ↓A_g21, ↓A_g22, ↓A_g23, ↓A_g25, ↓A_g26, ↓A_g28, ↓A_g29, ↓A_g31, ↓A_g32, ↓A_g34, ↓A_g36, ↓A_g37, ↓A_g38, ↓A_g39, ↓A_g41, ↓A_g42, ↓A_g43, ↓A_g44, ↓A_g61, ↓A_g62, ↓A_g63, ↓A_g65, ↓A_g66, ↓A_g67, ↓A_g68, ↓A_g69, ↓A_g70, ↓A_gN, ↓A_gT, ↓A_gC, ↓J_X7_searches_136, ↓I_X7_allOf_60, ↓L_ist8, ↓L_ist8L, ↓L_ild8, ↓r_ifne_t, ↓r_ifne_f, ↓J_X7_searches_77, ↓J_X7_searches_84, ↓I_X7_wayWorth_60, ↓r_i2l, ↓L_lst9, ↓L_lst9L, ↓J_X7_searches_95, ↓J_X7_searches_98, ↓L_lst11, ↓L_lst11L, ↓L_lld5, ↓J_X7_searches_120, ↓r_leq_t, ↓r_leq_f, ↓L_lld9, ↓r_lmul, ↓L_lld_n3, ↓L_lld11, ↓r_ifge_t, ↓r_ifge_f, ↓J_X7_searches_130, ↓r_lge_t, ↓r_lge_f, ↓L_iinc7, ↓J_X7_searches_49, ↓F_g60_14, ↓F_g60_13, ↓r_ifle_t, ↓r_ifle_f, ↓J_X7_searches_184, ↓r_lle_t, ↓r_lle_f, ↓L_ild_n2, ↓F_p60_15, ↓F_g60_12, ↓A_c6, ↓A_c5, ↓A_c8, ↓A_c82, ↓A_c60, ↓A_c360, ↓I_X7_nextWay_60, ↓J_X7_searches_35, ↓r_return, ↓U_X7_searches_0, ↓U_X7_searches_35, ↓U_X7_searches_49, ↓U_X7_searches_77, ↓U_X7_searches_84, ↓U_X7_searches_95, ↓U_X7_searches_98, ↓U_X7_searches_120, ↓U_X7_searches_130, ↓U_X7_searches_136, ↓U_X7_searches_184, ↓U_X7_searches_192, ↓zthen_v, ↓zthen_0, zU_eq, zU_nc, zU_nj]
set_option maxRecDepth 20000 in
set_option maxHeartbeats 4000000 in
theorem m_searches {t : zM} {P : Int → Int → Int} {m n : Int} (hP : PN P m n) (hm : 0 ≤ m ∧ m ≤ 6) (hn : 1 ≤ n ∧ n ≤ 4) (hs : MWs t P m n) : ∃ (t1 : zM) (w : Int → Int), (t1 60 13 = (scn P m n m.toNat W0 B0).1 ∧ t1 60 14 = (scn P m n m.toNat W0 B0).2.1 ∧ ((scn P m n m.toNat W0 B0).1 = -1 ∨ (t1 60 15 = (scn P m n m.toNat W0 B0).2.2.1 ∧ ∀ u : Int, 0 ≤ u → u < m → t1 66 u = (scn P m n m.toNat W0 B0).2.2.2 u))) ∧ FrV t t1 ∧ zcall 159 [vR 60] t = some (none, t1) := by
  obtain ⟨t1, H1, F1, E1⟩ := m_sz_loop 6 0 t (by omega) (by omega)
  have FV1 : FrV t (zU (zU t1 60 13 (-1)) 60 14 1) := fun c j h => by
    simp (disch := omega) only [zU_ow]
    exact F1 _ _ (by omega)
  have hs1 := MWs_fr hs FV1
  have hv1 : MWv (zU (zU t1 60 13 (-1)) 60 14 1) m W0 B0 := by
    refine ⟨fun u a b => ?_, ?_, ?_, Or.inl rfl⟩
    · simp (disch := omega) only [zU_ow]
      rw [H1, if_pos (by omega)]
      rfl
    · simp (disch := omega) only [zU_ow, zU_eq]
      rfl
    · rw [zU_eq]
      rfl
  obtain ⟨t2, y2, y3, y4, y5, y6, y7, y8, y9, y10, y11, y12, V2', F2, E2⟩ := m_odo hP hm hn m.toNat W0 B0 (zU (zU t1 60 13 (-1)) 60 14 1) vU vU vU vU vU vU vU vU vU vU vU (by omega) (fun u a b => by unfold W0; omega) (fun u a b => rfl) hs1 hv1 ⟨⟨by decide, by decide⟩, by decide, by decide⟩
  have hs2 := MWs_fr hs1 F2
  obtain ⟨v1, v2, v3, v4⟩ := V2'
  obtain ⟨t3, F3, N⟩ := m_nextWay_0 (s := t2) hm hn hs2.1 hs2.2.1 (fun u a b => by
    rw [v1 u a b]
    unfold lstW
    rw [if_pos (by omega)])
  refine ⟨t3, W0, ⟨by rw [F3 _ _ (by omega)]; exact v2, by rw [F3 _ _ (by omega)]; exact v3, ?_⟩, FrV_tr FV1 (FrV_tr F2 (fun c j h => F3 _ _ (by omega))), ?_⟩
  · rcases v4 with h | ⟨h, g⟩
    · exact Or.inl h
    · exact Or.inr ⟨by rw [F3 _ _ (by omega)]; exact h, fun u a b => by rw [F3 _ _ (by omega)]; exact g u a b⟩
  · rw [S_X7_searches]
    simp (disch := first | exact z_tt rfl | assumption | omega | (simp (disch := omega) only [zU_eq, zU_nc, zU_nj]; omega)) only [↓r_iconst, ↓L_ist_n1, ↓L_ist_n1L, ↓L_ild_n1, ↓r_bipush, ↓r_icge_t, ↓r_icge_f, ↓J_X7_searches_21, ↓L_ald_n0, ↓F_g60_11, ↓A_p3, ↓A_p4, ↓A_p5, ↓A_p6, ↓A_p7, ↓A_p9, ↓A_p10, ↓A_p12, ↓A_p13, ↓A_p15, ↓A_p16, ↓A_p19, ↓A_p20, ↓A_p21, ↓A_p22, ↓A_p23, ↓A_p25, ↓A_p26, ↓A_p28, ↓A_p29, ↓A_p31, ↓A_p32, ↓A_p34, ↓A_p36, ↓A_p37, ↓A_p38, ↓A_p39, ↓A_p41, ↓A_p42, ↓A_p43, ↓A_p44, ↓A_p61, ↓A_p62, ↓A_p63, ↓A_p65, ↓A_p66, ↓A_p67, ↓A_p68, ↓A_p69, ↓A_p70, ↓A_pN, ↓A_pT, ↓L_iinc1, ↓r_goto, ↓J_X7_searches_2, ↓r_ldc2w, ↓F_p60_13, ↓r_lconst, ↓F_p60_14, ↓r_ifeq_t, ↓r_ifeq_f, ↓J_X7_searches_192, ↓L_ist_n2, ↓L_ist_n2L, ↓L_lst_n3, ↓L_lst_n3L, ↓L_lst5, ↓L_lst5L, ↓L_ist7, ↓L_ist7L, ↓L_ild7, ↓F_g60_0, ↓A_g3, ↓A_g4, ↓A_g5, ↓A_g6, ↓A_g7, ↓A_g9, ↓A_g10, ↓A_g12, ↓A_g13, ↓A_g15, ↓A_g16, ↓A_g19, ↓A_g20, ↓A_g21, ↓A_g22, ↓A_g23, ↓A_g25, ↓A_g26, ↓A_g28, ↓A_g29, ↓A_g31, ↓A_g32, ↓A_g34, ↓A_g36, ↓A_g37, ↓A_g38, ↓A_g39, ↓A_g41, ↓A_g42, ↓A_g43, ↓A_g44, ↓A_g61, ↓A_g62, ↓A_g63, ↓A_g65, ↓A_g66, ↓A_g67, ↓A_g68, ↓A_g69, ↓A_g70, ↓A_gN, ↓A_gT, ↓A_gC, ↓J_X7_searches_136, ↓I_X7_allOf_60, ↓L_ist8, ↓L_ist8L, ↓L_ild8, ↓r_ifne_t, ↓r_ifne_f, ↓J_X7_searches_77, ↓J_X7_searches_84, ↓I_X7_wayWorth_60, ↓r_i2l, ↓L_lst9, ↓L_lst9L, ↓J_X7_searches_95, ↓J_X7_searches_98, ↓L_lst11, ↓L_lst11L, ↓L_lld5, ↓J_X7_searches_120, ↓r_leq_t, ↓r_leq_f, ↓L_lld9, ↓r_lmul, ↓L_lld_n3, ↓L_lld11, ↓r_ifge_t, ↓r_ifge_f, ↓J_X7_searches_130, ↓r_lge_t, ↓r_lge_f, ↓L_iinc7, ↓J_X7_searches_49, ↓F_g60_14, ↓F_g60_13, ↓r_ifle_t, ↓r_ifle_f, ↓J_X7_searches_184, ↓r_lle_t, ↓r_lle_f, ↓L_ild_n2, ↓F_p60_15, ↓F_g60_12, ↓A_c6, ↓A_c5, ↓A_c8, ↓A_c82, ↓A_c60, ↓A_c360, ↓I_X7_nextWay_60, ↓J_X7_searches_35, ↓r_return, ↓U_X7_searches_0, ↓U_X7_searches_35, ↓U_X7_searches_49, ↓U_X7_searches_77, ↓U_X7_searches_84, ↓U_X7_searches_95, ↓U_X7_searches_98, ↓U_X7_searches_120, ↓U_X7_searches_130, ↓U_X7_searches_136, ↓U_X7_searches_184, ↓U_X7_searches_192, ↓zthen_v, ↓zthen_0, zU_eq, zU_nc, zU_nj]
    rw [E1, U_X7_searches_21]
    simp (disch := first | exact z_tt rfl | assumption | omega | (simp (disch := omega) only [zU_eq, zU_nc, zU_nj]; omega)) only [↓r_iconst, ↓L_ist_n1, ↓L_ist_n1L, ↓L_ild_n1, ↓r_bipush, ↓r_icge_t, ↓r_icge_f, ↓J_X7_searches_21, ↓L_ald_n0, ↓F_g60_11, ↓A_p3, ↓A_p4, ↓A_p5, ↓A_p6, ↓A_p7, ↓A_p9, ↓A_p10, ↓A_p12, ↓A_p13, ↓A_p15, ↓A_p16, ↓A_p19, ↓A_p20, ↓A_p21, ↓A_p22, ↓A_p23, ↓A_p25, ↓A_p26, ↓A_p28, ↓A_p29, ↓A_p31, ↓A_p32, ↓A_p34, ↓A_p36, ↓A_p37, ↓A_p38, ↓A_p39, ↓A_p41, ↓A_p42, ↓A_p43, ↓A_p44, ↓A_p61, ↓A_p62, ↓A_p63, ↓A_p65, ↓A_p66, ↓A_p67, ↓A_p68, ↓A_p69, ↓A_p70, ↓A_pN, ↓A_pT, ↓L_iinc1, ↓r_goto, ↓J_X7_searches_2, ↓r_ldc2w, ↓F_p60_13, ↓r_lconst, ↓F_p60_14, ↓r_ifeq_t, ↓r_ifeq_f, ↓J_X7_searches_192, ↓L_ist_n2, ↓L_ist_n2L, ↓L_lst_n3, ↓L_lst_n3L, ↓L_lst5, ↓L_lst5L, ↓L_ist7, ↓L_ist7L, ↓L_ild7, ↓F_g60_0, ↓A_g3, ↓A_g4, ↓A_g5, ↓A_g6, ↓A_g7, ↓A_g9, ↓A_g10, ↓A_g12, ↓A_g13, ↓A_g15, ↓A_g16, ↓A_g19, ↓A_g20, ↓A_g21, ↓A_g22, ↓A_g23, ↓A_g25, ↓A_g26, ↓A_g28, ↓A_g29, ↓A_g31, ↓A_g32, ↓A_g34, ↓A_g36, ↓A_g37, ↓A_g38, ↓A_g39, ↓A_g41, ↓A_g42, ↓A_g43, ↓A_g44, ↓A_g61, ↓A_g62, ↓A_g63, ↓A_g65, ↓A_g66, ↓A_g67, ↓A_g68, ↓A_g69, ↓A_g70, ↓A_gN, ↓A_gT, ↓A_gC, ↓J_X7_searches_136, ↓I_X7_allOf_60, ↓L_ist8, ↓L_ist8L, ↓L_ild8, ↓r_ifne_t, ↓r_ifne_f, ↓J_X7_searches_77, ↓J_X7_searches_84, ↓I_X7_wayWorth_60, ↓r_i2l, ↓L_lst9, ↓L_lst9L, ↓J_X7_searches_95, ↓J_X7_searches_98, ↓L_lst11, ↓L_lst11L, ↓L_lld5, ↓J_X7_searches_120, ↓r_leq_t, ↓r_leq_f, ↓L_lld9, ↓r_lmul, ↓L_lld_n3, ↓L_lld11, ↓r_ifge_t, ↓r_ifge_f, ↓J_X7_searches_130, ↓r_lge_t, ↓r_lge_f, ↓L_iinc7, ↓J_X7_searches_49, ↓F_g60_14, ↓F_g60_13, ↓r_ifle_t, ↓r_ifle_f, ↓J_X7_searches_184, ↓r_lle_t, ↓r_lle_f, ↓L_ild_n2, ↓F_p60_15, ↓F_g60_12, ↓A_c6, ↓A_c5, ↓A_c8, ↓A_c82, ↓A_c60, ↓A_c360, ↓I_X7_nextWay_60, ↓J_X7_searches_35, ↓r_return, ↓U_X7_searches_0, ↓U_X7_searches_49, ↓U_X7_searches_77, ↓U_X7_searches_84, ↓U_X7_searches_95, ↓U_X7_searches_98, ↓U_X7_searches_120, ↓U_X7_searches_130, ↓U_X7_searches_136, ↓U_X7_searches_184, ↓U_X7_searches_192, ↓zthen_v, ↓zthen_0, zU_eq, zU_nc, zU_nj]
    rw [E2, U_X7_searches_184]
    simp (disch := first | exact z_tt rfl | assumption | omega | (simp (disch := omega) only [zU_eq, zU_nc, zU_nj]; omega)) only [↓r_iconst, ↓L_ist_n1, ↓L_ist_n1L, ↓L_ild_n1, ↓r_bipush, ↓r_icge_t, ↓r_icge_f, ↓J_X7_searches_21, ↓L_ald_n0, ↓F_g60_11, ↓A_p3, ↓A_p4, ↓A_p5, ↓A_p6, ↓A_p7, ↓A_p9, ↓A_p10, ↓A_p12, ↓A_p13, ↓A_p15, ↓A_p16, ↓A_p19, ↓A_p20, ↓A_p21, ↓A_p22, ↓A_p23, ↓A_p25, ↓A_p26, ↓A_p28, ↓A_p29, ↓A_p31, ↓A_p32, ↓A_p34, ↓A_p36, ↓A_p37, ↓A_p38, ↓A_p39, ↓A_p41, ↓A_p42, ↓A_p43, ↓A_p44, ↓A_p61, ↓A_p62, ↓A_p63, ↓A_p65, ↓A_p66, ↓A_p67, ↓A_p68, ↓A_p69, ↓A_p70, ↓A_pN, ↓A_pT, ↓L_iinc1, ↓r_goto, ↓J_X7_searches_2, ↓r_ldc2w, ↓F_p60_13, ↓r_lconst, ↓F_p60_14, ↓r_ifeq_t, ↓r_ifeq_f, ↓J_X7_searches_192, ↓L_ist_n2, ↓L_ist_n2L, ↓L_lst_n3, ↓L_lst_n3L, ↓L_lst5, ↓L_lst5L, ↓L_ist7, ↓L_ist7L, ↓L_ild7, ↓F_g60_0, ↓A_g3, ↓A_g4, ↓A_g5, ↓A_g6, ↓A_g7, ↓A_g9, ↓A_g10, ↓A_g12, ↓A_g13, ↓A_g15, ↓A_g16, ↓A_g19, ↓A_g20, ↓A_g21, ↓A_g22, ↓A_g23, ↓A_g25, ↓A_g26, ↓A_g28, ↓A_g29, ↓A_g31, ↓A_g32, ↓A_g34, ↓A_g36, ↓A_g37, ↓A_g38, ↓A_g39, ↓A_g41, ↓A_g42, ↓A_g43, ↓A_g44, ↓A_g61, ↓A_g62, ↓A_g63, ↓A_g65, ↓A_g66, ↓A_g67, ↓A_g68, ↓A_g69, ↓A_g70, ↓A_gN, ↓A_gT, ↓A_gC, ↓J_X7_searches_136, ↓I_X7_allOf_60, ↓L_ist8, ↓L_ist8L, ↓L_ild8, ↓r_ifne_t, ↓r_ifne_f, ↓J_X7_searches_77, ↓J_X7_searches_84, ↓I_X7_wayWorth_60, ↓r_i2l, ↓L_lst9, ↓L_lst9L, ↓J_X7_searches_95, ↓J_X7_searches_98, ↓L_lst11, ↓L_lst11L, ↓L_lld5, ↓J_X7_searches_120, ↓r_leq_t, ↓r_leq_f, ↓L_lld9, ↓r_lmul, ↓L_lld_n3, ↓L_lld11, ↓r_ifge_t, ↓r_ifge_f, ↓J_X7_searches_130, ↓r_lge_t, ↓r_lge_f, ↓L_iinc7, ↓J_X7_searches_49, ↓F_g60_14, ↓F_g60_13, ↓r_ifle_t, ↓r_ifle_f, ↓J_X7_searches_184, ↓r_lle_t, ↓r_lle_f, ↓L_ild_n2, ↓F_p60_15, ↓F_g60_12, ↓A_c6, ↓A_c5, ↓A_c8, ↓A_c82, ↓A_c60, ↓A_c360, ↓I_X7_nextWay_60, ↓J_X7_searches_35, ↓r_return, ↓U_X7_searches_0, ↓U_X7_searches_35, ↓U_X7_searches_49, ↓U_X7_searches_77, ↓U_X7_searches_84, ↓U_X7_searches_95, ↓U_X7_searches_98, ↓U_X7_searches_120, ↓U_X7_searches_130, ↓U_X7_searches_136, ↓U_X7_searches_192, ↓zthen_v, ↓zthen_0, zU_eq, zU_nc, zU_nj, N]
