/-! the law's loop -/
set_option maxRecDepth 20000 in
set_option maxHeartbeats 4000000 in
theorem l_head {μ : zM} {i : Int} (hs : Scr μ) (hi : 0 ≤ i ∧ i + 6 ≤ μ 72 (-1)) : zres 193 C_L_law_18 [vR 72, vR 0, vR 60, vI i] [] μ = zres 193 (zswT 193 33 1430 0 37 #[167, 190, 203, 246, 279, 312, 365, 398, 421, 434, 467, 511, 555, 588, 621, 644, 667, 710, 754, 798, 841, 864, 888, 921, 964, 998, 1032, 1065, 1089, 1122, 1135, 1168, 1181, 1194, 1217, 1260, 1333, 1367] (iAnd (μ 72 i) 63)) [vR 72, vR 0, vR 60, vI i] [] μ := by
  have hl := hs.2.1
  have hb := iAnd_bd (μ 72 i) 63
  rw [U_L_law_18]
  simp (disch := first | exact z_tt rfl | assumption | omega | (simp (disch := omega) only [zU_eq, zU_nc, zU_nj]; omega)) only [↓L_ild_n3, ↓L_ald_n0, ↓A_n9, ↓A_n10, ↓A_n12, ↓A_n13, ↓A_n15, ↓A_n16, ↓A_n25, ↓A_n26, ↓A_n28, ↓A_n29, ↓A_n31, ↓A_n32, ↓A_n47, ↓A_nT, ↓r_bipush, ↓r_isub, ↓r_icgt_t, ↓r_icgt_f, ↓J_L_law_1469, ↓A_g3, ↓A_g4, ↓A_g5, ↓A_g6, ↓A_g7, ↓A_g9, ↓A_g10, ↓A_g12, ↓A_g13, ↓A_g15, ↓A_g16, ↓A_g19, ↓A_g20, ↓A_g21, ↓A_g22, ↓A_g23, ↓A_g25, ↓A_g26, ↓A_g28, ↓A_g29, ↓A_g31, ↓A_g32, ↓A_g34, ↓A_g36, ↓A_g37, ↓A_g38, ↓A_g39, ↓A_g41, ↓A_g42, ↓A_g43, ↓A_g44, ↓A_g61, ↓A_g62, ↓A_g63, ↓A_g65, ↓A_g66, ↓A_g67, ↓A_g68, ↓A_g69, ↓A_g70, ↓A_gN, ↓A_gT, ↓A_gC, ↓r_iand, ↓r_tab, ↓L_ald_n1, ↓r_iconst, ↓r_iadd, ↓I_X6_parties_0, ↓L_ald_n2, ↓I_X7_parties_60, ↓r_iceq_t, ↓r_iceq_f, ↓J_L_law_1463, ↓r_zreturn, ↓I_X6_thing_0, ↓I_X7_thing_60, ↓I_X6_point_0, ↓I_X7_point_60, ↓I_X6_of_0, ↓I_X7_of_60, ↓I_X6_hold_0, ↓I_X7_hold_60, ↓I_X6_split_0, ↓I_X7_split_60, ↓I_X6_settle_0, ↓I_X7_settle_60, ↓I_X6_feed_0, ↓I_X7_feed_60, ↓I_X6_read_0, ↓I_X7_read_60, ↓I_X6_holder_0, ↓I_X7_holder_60, ↓I_X6_held_0, ↓I_X7_held_60, ↓r_ifeq_t, ↓r_ifeq_f, ↓r_leq_t, ↓r_leq_f, ↓I_X6_share_0, ↓I_X7_share_60, ↓I_X6_claim_0, ↓I_X7_claim_60, ↓I_X6_better_0, ↓I_X7_better_60, ↓I_X6_told_0, ↓I_X7_told_60, ↓I_X6_all_0, ↓I_X7_all_60, ↓I_X6_adjusted_0, ↓I_X7_adjusted_60, ↓I_X6_alike_0, ↓I_X7_alike_60, ↓I_X6_parted_0, ↓I_X7_parted_60, ↓I_X6_ratio_0, ↓I_X7_ratio_60, ↓I_X6_fair_0, ↓I_X7_fair_60, ↓I_X6_fairest_0, ↓I_X7_fairest_60, ↓I_X6_see_0, ↓I_X7_see_60, ↓I_X6_fits_0, ↓I_X7_fits_60, ↓I_X6_odds_0, ↓I_X7_odds_60, ↓I_X6_mean_0, ↓I_X7_mean_60, ↓I_X6_event_0, ↓I_X7_event_60, ↓I_X6_after_0, ↓I_X7_after_60, ↓I_X6_book_0, ↓I_X7_book_60, ↓I_X6_looked_0, ↓I_X7_looked_60, ↓I_X6_judge_0, ↓I_X7_judge_60, ↓I_X6_image_0, ↓I_X7_image_60, ↓I_X6_undo_0, ↓I_X7_undo_60, ↓I_X6_count_0, ↓I_X7_count_60, ↓I_X6_tape_0, ↓I_X7_tape_60, ↓r_i2l, ↓r_lshl, ↓r_ldc2w, ↓r_land, ↓r_lor, ↓I_X6_item_0, ↓I_X7_item_60, ↓I_X6_peek_0, ↓I_X7_peek_60, ↓I_X6_shift_0, ↓I_X7_shift_60, ↓L_iinc3, ↓r_goto, ↓J_L_law_18, ↓U_L_law_200, ↓U_L_law_223, ↓U_L_law_236, ↓U_L_law_279, ↓U_L_law_312, ↓U_L_law_345, ↓U_L_law_398, ↓U_L_law_431, ↓U_L_law_454, ↓U_L_law_467, ↓U_L_law_500, ↓U_L_law_544, ↓U_L_law_588, ↓U_L_law_621, ↓U_L_law_654, ↓U_L_law_677, ↓U_L_law_700, ↓U_L_law_743, ↓U_L_law_787, ↓U_L_law_831, ↓U_L_law_874, ↓U_L_law_897, ↓U_L_law_921, ↓U_L_law_954, ↓U_L_law_997, ↓U_L_law_1031, ↓U_L_law_1065, ↓U_L_law_1098, ↓U_L_law_1122, ↓U_L_law_1155, ↓U_L_law_1168, ↓U_L_law_1201, ↓U_L_law_1214, ↓U_L_law_1227, ↓U_L_law_1250, ↓U_L_law_1293, ↓U_L_law_1366, ↓U_L_law_1400, ↓U_L_law_1469, ↓zthen_v, ↓zthen_0, zU_eq, zU_nc, zU_nj, ↓r_s72, ↓r_n72]
set_option maxRecDepth 20000 in
set_option maxHeartbeats 4000000 in
theorem l_end {μ : zM} {i : Int} (hs : Scr μ) (hi : 0 ≤ i ∧ i ≤ 3078 ∧ μ 72 (-1) < i + 6) : zres 193 C_L_law_18 [vR 72, vR 0, vR 60, vI i] [] μ = some (some (vI 1), μ) := by
  have hl := hs.2.1
  have h0 := hs.1
  rw [U_L_law_18]
  simp (disch := first | exact z_tt rfl | assumption | omega | (simp (disch := omega) only [zU_eq, zU_nc, zU_nj]; omega)) only [↓L_ild_n3, ↓L_ald_n0, ↓A_n9, ↓A_n10, ↓A_n12, ↓A_n13, ↓A_n15, ↓A_n16, ↓A_n25, ↓A_n26, ↓A_n28, ↓A_n29, ↓A_n31, ↓A_n32, ↓A_n47, ↓A_nT, ↓r_bipush, ↓r_isub, ↓r_icgt_t, ↓r_icgt_f, ↓J_L_law_1469, ↓A_g3, ↓A_g4, ↓A_g5, ↓A_g6, ↓A_g7, ↓A_g9, ↓A_g10, ↓A_g12, ↓A_g13, ↓A_g15, ↓A_g16, ↓A_g19, ↓A_g20, ↓A_g21, ↓A_g22, ↓A_g23, ↓A_g25, ↓A_g26, ↓A_g28, ↓A_g29, ↓A_g31, ↓A_g32, ↓A_g34, ↓A_g36, ↓A_g37, ↓A_g38, ↓A_g39, ↓A_g41, ↓A_g42, ↓A_g43, ↓A_g44, ↓A_g61, ↓A_g62, ↓A_g63, ↓A_g65, ↓A_g66, ↓A_g67, ↓A_g68, ↓A_g69, ↓A_g70, ↓A_gN, ↓A_gT, ↓A_gC, ↓r_iand, ↓r_tab, ↓L_ald_n1, ↓r_iconst, ↓r_iadd, ↓I_X6_parties_0, ↓L_ald_n2, ↓I_X7_parties_60, ↓r_iceq_t, ↓r_iceq_f, ↓J_L_law_1463, ↓r_zreturn, ↓I_X6_thing_0, ↓I_X7_thing_60, ↓I_X6_point_0, ↓I_X7_point_60, ↓I_X6_of_0, ↓I_X7_of_60, ↓I_X6_hold_0, ↓I_X7_hold_60, ↓I_X6_split_0, ↓I_X7_split_60, ↓I_X6_settle_0, ↓I_X7_settle_60, ↓I_X6_feed_0, ↓I_X7_feed_60, ↓I_X6_read_0, ↓I_X7_read_60, ↓I_X6_holder_0, ↓I_X7_holder_60, ↓I_X6_held_0, ↓I_X7_held_60, ↓r_ifeq_t, ↓r_ifeq_f, ↓r_leq_t, ↓r_leq_f, ↓I_X6_share_0, ↓I_X7_share_60, ↓I_X6_claim_0, ↓I_X7_claim_60, ↓I_X6_better_0, ↓I_X7_better_60, ↓I_X6_told_0, ↓I_X7_told_60, ↓I_X6_all_0, ↓I_X7_all_60, ↓I_X6_adjusted_0, ↓I_X7_adjusted_60, ↓I_X6_alike_0, ↓I_X7_alike_60, ↓I_X6_parted_0, ↓I_X7_parted_60, ↓I_X6_ratio_0, ↓I_X7_ratio_60, ↓I_X6_fair_0, ↓I_X7_fair_60, ↓I_X6_fairest_0, ↓I_X7_fairest_60, ↓I_X6_see_0, ↓I_X7_see_60, ↓I_X6_fits_0, ↓I_X7_fits_60, ↓I_X6_odds_0, ↓I_X7_odds_60, ↓I_X6_mean_0, ↓I_X7_mean_60, ↓I_X6_event_0, ↓I_X7_event_60, ↓I_X6_after_0, ↓I_X7_after_60, ↓I_X6_book_0, ↓I_X7_book_60, ↓I_X6_looked_0, ↓I_X7_looked_60, ↓I_X6_judge_0, ↓I_X7_judge_60, ↓I_X6_image_0, ↓I_X7_image_60, ↓I_X6_undo_0, ↓I_X7_undo_60, ↓I_X6_count_0, ↓I_X7_count_60, ↓I_X6_tape_0, ↓I_X7_tape_60, ↓r_i2l, ↓r_lshl, ↓r_ldc2w, ↓r_land, ↓r_lor, ↓I_X6_item_0, ↓I_X7_item_60, ↓I_X6_peek_0, ↓I_X7_peek_60, ↓I_X6_shift_0, ↓I_X7_shift_60, ↓L_iinc3, ↓r_goto, ↓J_L_law_18, ↓U_L_law_200, ↓U_L_law_223, ↓U_L_law_236, ↓U_L_law_279, ↓U_L_law_312, ↓U_L_law_345, ↓U_L_law_398, ↓U_L_law_431, ↓U_L_law_454, ↓U_L_law_467, ↓U_L_law_500, ↓U_L_law_544, ↓U_L_law_588, ↓U_L_law_621, ↓U_L_law_654, ↓U_L_law_677, ↓U_L_law_700, ↓U_L_law_743, ↓U_L_law_787, ↓U_L_law_831, ↓U_L_law_874, ↓U_L_law_897, ↓U_L_law_921, ↓U_L_law_954, ↓U_L_law_997, ↓U_L_law_1031, ↓U_L_law_1065, ↓U_L_law_1098, ↓U_L_law_1122, ↓U_L_law_1155, ↓U_L_law_1168, ↓U_L_law_1201, ↓U_L_law_1214, ↓U_L_law_1227, ↓U_L_law_1250, ↓U_L_law_1293, ↓U_L_law_1366, ↓U_L_law_1400, ↓U_L_law_1463, ↓U_L_law_1469, ↓zthen_v, ↓zthen_0, zU_eq, zU_nc, zU_nj, ↓r_s72, ↓r_n72]
set_option maxRecDepth 20000 in
theorem l_next {μ : zM} {i : Int} : zres 193 C_L_law_1463 [vR 72, vR 0, vR 60, vI i] [] μ = zres 193 C_L_law_18 [vR 72, vR 0, vR 60, vI (i + 6)] [] μ := by
  rw [U_L_law_1463]
  simp (disch := first | exact z_tt rfl | assumption | omega | (simp (disch := omega) only [zU_eq, zU_nc, zU_nj]; omega)) only [↓L_ild_n3, ↓L_ald_n0, ↓A_n9, ↓A_n10, ↓A_n12, ↓A_n13, ↓A_n15, ↓A_n16, ↓A_n25, ↓A_n26, ↓A_n28, ↓A_n29, ↓A_n31, ↓A_n32, ↓A_n47, ↓A_nT, ↓r_bipush, ↓r_isub, ↓r_icgt_t, ↓r_icgt_f, ↓J_L_law_1469, ↓A_g3, ↓A_g4, ↓A_g5, ↓A_g6, ↓A_g7, ↓A_g9, ↓A_g10, ↓A_g12, ↓A_g13, ↓A_g15, ↓A_g16, ↓A_g19, ↓A_g20, ↓A_g21, ↓A_g22, ↓A_g23, ↓A_g25, ↓A_g26, ↓A_g28, ↓A_g29, ↓A_g31, ↓A_g32, ↓A_g34, ↓A_g36, ↓A_g37, ↓A_g38, ↓A_g39, ↓A_g41, ↓A_g42, ↓A_g43, ↓A_g44, ↓A_g61, ↓A_g62, ↓A_g63, ↓A_g65, ↓A_g66, ↓A_g67, ↓A_g68, ↓A_g69, ↓A_g70, ↓A_gN, ↓A_gT, ↓A_gC, ↓r_iand, ↓r_tab, ↓L_ald_n1, ↓r_iconst, ↓r_iadd, ↓I_X6_parties_0, ↓L_ald_n2, ↓I_X7_parties_60, ↓r_iceq_t, ↓r_iceq_f, ↓J_L_law_1463, ↓r_zreturn, ↓I_X6_thing_0, ↓I_X7_thing_60, ↓I_X6_point_0, ↓I_X7_point_60, ↓I_X6_of_0, ↓I_X7_of_60, ↓I_X6_hold_0, ↓I_X7_hold_60, ↓I_X6_split_0, ↓I_X7_split_60, ↓I_X6_settle_0, ↓I_X7_settle_60, ↓I_X6_feed_0, ↓I_X7_feed_60, ↓I_X6_read_0, ↓I_X7_read_60, ↓I_X6_holder_0, ↓I_X7_holder_60, ↓I_X6_held_0, ↓I_X7_held_60, ↓r_ifeq_t, ↓r_ifeq_f, ↓r_leq_t, ↓r_leq_f, ↓I_X6_share_0, ↓I_X7_share_60, ↓I_X6_claim_0, ↓I_X7_claim_60, ↓I_X6_better_0, ↓I_X7_better_60, ↓I_X6_told_0, ↓I_X7_told_60, ↓I_X6_all_0, ↓I_X7_all_60, ↓I_X6_adjusted_0, ↓I_X7_adjusted_60, ↓I_X6_alike_0, ↓I_X7_alike_60, ↓I_X6_parted_0, ↓I_X7_parted_60, ↓I_X6_ratio_0, ↓I_X7_ratio_60, ↓I_X6_fair_0, ↓I_X7_fair_60, ↓I_X6_fairest_0, ↓I_X7_fairest_60, ↓I_X6_see_0, ↓I_X7_see_60, ↓I_X6_fits_0, ↓I_X7_fits_60, ↓I_X6_odds_0, ↓I_X7_odds_60, ↓I_X6_mean_0, ↓I_X7_mean_60, ↓I_X6_event_0, ↓I_X7_event_60, ↓I_X6_after_0, ↓I_X7_after_60, ↓I_X6_book_0, ↓I_X7_book_60, ↓I_X6_looked_0, ↓I_X7_looked_60, ↓I_X6_judge_0, ↓I_X7_judge_60, ↓I_X6_image_0, ↓I_X7_image_60, ↓I_X6_undo_0, ↓I_X7_undo_60, ↓I_X6_count_0, ↓I_X7_count_60, ↓I_X6_tape_0, ↓I_X7_tape_60, ↓r_i2l, ↓r_lshl, ↓r_ldc2w, ↓r_land, ↓r_lor, ↓I_X6_item_0, ↓I_X7_item_60, ↓I_X6_peek_0, ↓I_X7_peek_60, ↓I_X6_shift_0, ↓I_X7_shift_60, ↓L_iinc3, ↓r_goto, ↓J_L_law_18, ↓U_L_law_200, ↓U_L_law_223, ↓U_L_law_236, ↓U_L_law_279, ↓U_L_law_312, ↓U_L_law_345, ↓U_L_law_398, ↓U_L_law_431, ↓U_L_law_454, ↓U_L_law_467, ↓U_L_law_500, ↓U_L_law_544, ↓U_L_law_588, ↓U_L_law_621, ↓U_L_law_654, ↓U_L_law_677, ↓U_L_law_700, ↓U_L_law_743, ↓U_L_law_787, ↓U_L_law_831, ↓U_L_law_874, ↓U_L_law_897, ↓U_L_law_921, ↓U_L_law_954, ↓U_L_law_997, ↓U_L_law_1031, ↓U_L_law_1065, ↓U_L_law_1098, ↓U_L_law_1122, ↓U_L_law_1155, ↓U_L_law_1168, ↓U_L_law_1201, ↓U_L_law_1214, ↓U_L_law_1227, ↓U_L_law_1250, ↓U_L_law_1293, ↓U_L_law_1366, ↓U_L_law_1400, ↓U_L_law_1469, ↓zthen_v, ↓zthen_0, zU_eq, zU_nc, zU_nj]
theorem l_step {μ : zM} {i : Int} (G : RelG μ μ) (hs : Scr μ) (hi : 0 ≤ i ∧ i + 6 ≤ μ 72 (-1)) : ∃ μ1, RelG μ1 μ1 ∧ (∀ j, μ1 72 j = μ 72 j) ∧ zres 193 C_L_law_18 [vR 72, vR 0, vR 60, vI i] [] μ = zres 193 C_L_law_18 [vR 72, vR 0, vR 60, vI (i + 6)] [] μ1 := by
  rw [l_head hs hi]
  have K : ∀ {c : List zCE}, (∃ μ1, RelG μ1 μ1 ∧ (∀ j, μ1 72 j = μ 72 j) ∧ zres 193 c [vR 72, vR 0, vR 60, vI i] [] μ = zres 193 C_L_law_1463 [vR 72, vR 0, vR 60, vI i] [] μ1) → ∃ μ1, RelG μ1 μ1 ∧ (∀ j, μ1 72 j = μ 72 j) ∧ zres 193 c [vR 72, vR 0, vR 60, vI i] [] μ = zres 193 C_L_law_18 [vR 72, vR 0, vR 60, vI (i + 6)] [] μ1 := by
    rintro c ⟨μ1, G1, F, E⟩
    exact ⟨μ1, G1, F, by rw [E, l_next]⟩
  generalize iAnd (μ 72 i) 63 = a
  by_cases hd : a < 0 ∨ 37 < a
  · rw [W_L_law_33_d a hd]
    exact K ⟨μ, G, fun _ => rfl, rfl⟩
  rcases (show a = 0 ∨ a = 1 ∨ a = 2 ∨ a = 3 ∨ a = 4 ∨ a = 5 ∨ a = 6 ∨ a = 7 ∨ a = 8 ∨ a = 9 ∨ a = 10 ∨ a = 11 ∨ a = 12 ∨ a = 13 ∨ a = 14 ∨ a = 15 ∨ a = 16 ∨ a = 17 ∨ a = 18 ∨ a = 19 ∨ a = 20 ∨ a = 21 ∨ a = 22 ∨ a = 23 ∨ a = 24 ∨ a = 25 ∨ a = 26 ∨ a = 27 ∨ a = 28 ∨ a = 29 ∨ a = 30 ∨ a = 31 ∨ a = 32 ∨ a = 33 ∨ a = 34 ∨ a = 35 ∨ a = 36 ∨ a = 37 by omega) with rfl | rfl | rfl | rfl | rfl | rfl | rfl | rfl | rfl | rfl | rfl | rfl | rfl | rfl | rfl | rfl | rfl | rfl | rfl | rfl | rfl | rfl | rfl | rfl | rfl | rfl | rfl | rfl | rfl | rfl | rfl | rfl | rfl | rfl | rfl | rfl | rfl | rfl
  · rw [W_L_law_33_0]
    exact K (l_parties G hs hi)
  · rw [W_L_law_33_1]
    exact K (l_thing G hs hi)
  · rw [W_L_law_33_2]
    exact K (l_point G hs hi)
  · rw [W_L_law_33_3]
    exact K (l_of G hs hi)
  · rw [W_L_law_33_4]
    exact K (l_hold G hs hi)
  · rw [W_L_law_33_5]
    exact K (l_split G hs hi)
  · rw [W_L_law_33_6]
    exact K (l_settle G hs hi)
  · rw [W_L_law_33_7]
    exact K (l_feed G hs hi)
  · rw [W_L_law_33_8]
    exact K (l_read G hs hi)
  · rw [W_L_law_33_9]
    exact K (l_holder G hs hi)
  · rw [W_L_law_33_10]
    exact K (l_held G hs hi)
  · rw [W_L_law_33_11]
    exact K (l_share G hs hi)
  · rw [W_L_law_33_12]
    exact K (l_claim G hs hi)
  · rw [W_L_law_33_13]
    exact K (l_better G hs hi)
  · rw [W_L_law_33_14]
    exact K (l_told G hs hi)
  · rw [W_L_law_33_15]
    exact K (l_all G hs hi)
  · rw [W_L_law_33_16]
    exact K (l_adjusted G hs hi)
  · rw [W_L_law_33_17]
    exact K (l_alike G hs hi)
  · rw [W_L_law_33_18]
    exact K (l_parted G hs hi)
  · rw [W_L_law_33_19]
    exact K (l_ratio G hs hi)
  · rw [W_L_law_33_20]
    exact K (l_fair G hs hi)
  · rw [W_L_law_33_21]
    exact K (l_fairest G hs hi)
  · rw [W_L_law_33_22]
    exact K (l_see G hs hi)
  · rw [W_L_law_33_23]
    exact K (l_fits G hs hi)
  · rw [W_L_law_33_24]
    exact K (l_odds G hs hi)
  · rw [W_L_law_33_25]
    exact K (l_mean G hs hi)
  · rw [W_L_law_33_26]
    exact K (l_event G hs hi)
  · rw [W_L_law_33_27]
    exact K (l_after G hs hi)
  · rw [W_L_law_33_28]
    exact K (l_book G hs hi)
  · rw [W_L_law_33_29]
    exact K (l_looked G hs hi)
  · rw [W_L_law_33_30]
    exact K (l_judge G hs hi)
  · rw [W_L_law_33_31]
    exact K (l_image G hs hi)
  · rw [W_L_law_33_32]
    exact K (l_undo G hs hi)
  · rw [W_L_law_33_33]
    exact K (l_count G hs hi)
  · rw [W_L_law_33_34]
    exact K (l_tape G hs hi)
  · rw [W_L_law_33_35]
    exact K (l_item G hs hi)
  · rw [W_L_law_33_36]
    exact K (l_peek G hs hi)
  · rw [W_L_law_33_37]
    exact K (l_shift G hs hi)
theorem l_loop : ∀ (n : Nat) (μ : zM) (i : Int), RelG μ μ → Scr μ → 0 ≤ i → i ≤ 3078 → μ 72 (-1) - i ≤ n → ∃ μ1, zres 193 C_L_law_18 [vR 72, vR 0, vR 60, vI i] [] μ = some (some (vI 1), μ1) := by
  intro n
  induction n with
  | zero =>
    intro μ i G hs h0 h1 hn
    exact ⟨μ, l_end hs ⟨h0, h1, by omega⟩⟩
  | succ n ih =>
    intro μ i G hs h0 h1 hn
    have hl := hs.2.1
    by_cases h : i + 6 ≤ μ 72 (-1)
    · obtain ⟨μ1, G1, F, E⟩ := l_step G hs ⟨h0, h⟩
      have hs1 : Scr μ1 := by
        unfold Scr
        rw [F]
        exact ⟨hs.1, hs.2.1, fun j a b => by rw [F]; exact hs.2.2 j a b⟩
      obtain ⟨μ2, E2⟩ := ih μ1 (i + 6) G1 hs1 (by omega) (by omega) (by rw [F]; omega)
      exact ⟨μ2, by rw [E, E2]⟩
    · exact ⟨μ, l_end hs ⟨h0, h1, by omega⟩⟩
