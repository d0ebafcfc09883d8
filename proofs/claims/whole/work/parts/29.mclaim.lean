theorem iOr_0 {a : Int} (h : -2147483648 ≤ a ∧ a < 2147483648) : iOr a 0 = a := by
  have e : (Int32.ofInt a).toInt = a := c32_id h.1 h.2
  have h0 : Int32.ofInt a ||| Int32.ofInt 0 = Int32.ofInt a := by
    rw [show Int32.ofInt 0 = (0 : Int32) from rfl]; exact Int32.or_zero
  unfold iOr
  rw [h0, e]
theorem iOr_bd (a b : Int) : -2147483648 ≤ iOr a b ∧ iOr a b < 2147483648 := by
  unfold iOr
  have h1 := Int32.le_toInt (Int32.ofInt a ||| Int32.ofInt b)
  have h2 := Int32.toInt_lt (Int32.ofInt a ||| Int32.ofInt b)
  omega
theorem iOr_tab : ∀ j : Nat, j < 6 → ∀ a : Nat, a < 2 ^ j → 0 ≤ iOr (a : Int) (iShl 1 (j : Int)) ∧ iOr (a : Int) (iShl 1 (j : Int)) < 2 ^ (j + 1) := by decide +kernel
theorem bitI_bd {q : Int → Bool} : ∀ (n j : Nat) (a : Int), j + n ≤ 6 → 0 ≤ a → a < 2 ^ j → 0 ≤ bitI q a j n ∧ bitI q a j n < 2 ^ (j + n)
  | 0, j, a, _, h0, h1 => by rw [bitI]; exact ⟨h0, h1⟩
  | n + 1, j, a, hj, h0, h1 => by
    rw [bitI]
    have e : ((j : Int) + 1) = ((j + 1 : Nat) : Int) := by omega
    rw [e, show j + (n + 1) = (j + 1) + n by omega]
    by_cases hq : q j
    · rw [if_pos hq]
      obtain ⟨m, rfl⟩ := Int.eq_ofNat_of_zero_le h0
      have h2 : m < 2 ^ j := by
        have : ((2 ^ j : Nat) : Int) = 2 ^ j := by simp
        omega
      obtain ⟨t1, t2⟩ := iOr_tab j (by omega) m h2
      exact bitI_bd n (j + 1) _ (by omega) t1 t2
    · rw [if_neg hq]
      refine bitI_bd n (j + 1) a (by omega) h0 ?_
      have : (2 : Int) ^ (j + 1) = 2 * 2 ^ j := by rw [Int.pow_succ]; omega
      omega
theorem bitP_bd {q : Int → Bool} {m : Int} (h : 0 ≤ m ∧ m ≤ 6) : 0 ≤ bitI q 0 0 m.toNat ∧ bitI q 0 0 m.toNat < 64 := by
  have h1 := bitI_bd (q := q) m.toNat 0 0 (by omega) (by omega) (by decide)
  have h2 : (2 : Int) ^ (0 + m.toNat) ≤ 64 := by
    rcases (show m.toNat = 0 ∨ m.toNat = 1 ∨ m.toNat = 2 ∨ m.toNat = 3 ∨ m.toNat = 4 ∨ m.toNat = 5 ∨ m.toNat = 6 by omega) with e | e | e | e | e | e | e <;> rw [e] <;> decide
  have e : ((0 : Nat) : Int) = 0 := rfl
  rw [e] at h1
  omega
def hup (τ : zM) (p t : Int) : Int := if τ 61 (11 + t) = p then τ 61 (17 + t) else if τ 61 (5 + t) = p then τ 61 (23 + t) - τ 61 (17 + t) else 0
theorem hup_bd {τ : zM} (hV : V1 τ) (p : Int) {t : Int} (ht : 0 ≤ t ∧ t < τ 61 1) : 0 ≤ hup τ p t ∧ hup τ p t ≤ 200000 := by
  have := hV.2.2.2 t ht.1 ht.2
  unfold hup
  repeat' split
  all_goals omega
set_option maxRecDepth 20000 in
theorem m_heldUp {τ : zM} {p t : Int} (hV : V1 τ) (hp : 0 ≤ p ∧ p < 4) (ht : 0 ≤ t ∧ t < τ 61 1) : zcall 126 [vR 60, vI p, vI t] τ = some (some (vI (hup τ p t)), τ) := by
  have h := hV.2.2.2 t ht.1 ht.2
  have h1 := hV.2.1
  rw [S_X7_heldUp]
  unfold hup
  by_cases e1 : τ 61 (11 + t) = p
  · rw [if_pos e1]
    simp (disch := first | exact z_tt rfl | assumption | omega | (simp (disch := omega) only [zU_eq, zU_nc, zU_nj]; omega)) only [↓L_ald_n0, ↓F_g60_0, ↓r_bipush, ↓L_ild_n2, ↓r_iadd, ↓A_g3, ↓A_g4, ↓A_g5, ↓A_g6, ↓A_g7, ↓A_g9, ↓A_g10, ↓A_g12, ↓A_g13, ↓A_g15, ↓A_g16, ↓A_g19, ↓A_g20, ↓A_g21, ↓A_g22, ↓A_g23, ↓A_g25, ↓A_g26, ↓A_g28, ↓A_g29, ↓A_g31, ↓A_g32, ↓A_g34, ↓A_g36, ↓A_g37, ↓A_g38, ↓A_g39, ↓A_g41, ↓A_g42, ↓A_g43, ↓A_g44, ↓A_g61, ↓A_g62, ↓A_g63, ↓A_g65, ↓A_g66, ↓A_g67, ↓A_g68, ↓A_g69, ↓A_g70, ↓A_gN, ↓A_gT, ↓A_gC, ↓L_ild_n1, ↓r_icne_t, ↓r_icne_f, ↓J_X7_heldUp_23, ↓r_ireturn, ↓r_iconst, ↓J_X7_heldUp_57, ↓r_isub, ↓r_goto, ↓J_X7_heldUp_58, ↓U_X7_heldUp_0, ↓U_X7_heldUp_23, ↓U_X7_heldUp_57, ↓U_X7_heldUp_58, ↓zthen_v, ↓zthen_0, zU_eq, zU_nc, zU_nj]
  · rw [if_neg e1]
    by_cases e2 : τ 61 (5 + t) = p
    · rw [if_pos e2]
      simp (disch := first | exact z_tt rfl | assumption | omega | (simp (disch := omega) only [zU_eq, zU_nc, zU_nj]; omega)) only [↓L_ald_n0, ↓F_g60_0, ↓r_bipush, ↓L_ild_n2, ↓r_iadd, ↓A_g3, ↓A_g4, ↓A_g5, ↓A_g6, ↓A_g7, ↓A_g9, ↓A_g10, ↓A_g12, ↓A_g13, ↓A_g15, ↓A_g16, ↓A_g19, ↓A_g20, ↓A_g21, ↓A_g22, ↓A_g23, ↓A_g25, ↓A_g26, ↓A_g28, ↓A_g29, ↓A_g31, ↓A_g32, ↓A_g34, ↓A_g36, ↓A_g37, ↓A_g38, ↓A_g39, ↓A_g41, ↓A_g42, ↓A_g43, ↓A_g44, ↓A_g61, ↓A_g62, ↓A_g63, ↓A_g65, ↓A_g66, ↓A_g67, ↓A_g68, ↓A_g69, ↓A_g70, ↓A_gN, ↓A_gT, ↓A_gC, ↓L_ild_n1, ↓r_icne_t, ↓r_icne_f, ↓J_X7_heldUp_23, ↓r_ireturn, ↓r_iconst, ↓J_X7_heldUp_57, ↓r_isub, ↓r_goto, ↓J_X7_heldUp_58, ↓U_X7_heldUp_0, ↓U_X7_heldUp_23, ↓U_X7_heldUp_57, ↓U_X7_heldUp_58, ↓zthen_v, ↓zthen_0, zU_eq, zU_nc, zU_nj]
    · rw [if_neg e2]
      simp (disch := first | exact z_tt rfl | assumption | omega | (simp (disch := omega) only [zU_eq, zU_nc, zU_nj]; omega)) only [↓L_ald_n0, ↓F_g60_0, ↓r_bipush, ↓L_ild_n2, ↓r_iadd, ↓A_g3, ↓A_g4, ↓A_g5, ↓A_g6, ↓A_g7, ↓A_g9, ↓A_g10, ↓A_g12, ↓A_g13, ↓A_g15, ↓A_g16, ↓A_g19, ↓A_g20, ↓A_g21, ↓A_g22, ↓A_g23, ↓A_g25, ↓A_g26, ↓A_g28, ↓A_g29, ↓A_g31, ↓A_g32, ↓A_g34, ↓A_g36, ↓A_g37, ↓A_g38, ↓A_g39, ↓A_g41, ↓A_g42, ↓A_g43, ↓A_g44, ↓A_g61, ↓A_g62, ↓A_g63, ↓A_g65, ↓A_g66, ↓A_g67, ↓A_g68, ↓A_g69, ↓A_g70, ↓A_gN, ↓A_gT, ↓A_gC, ↓L_ild_n1, ↓r_icne_t, ↓r_icne_f, ↓J_X7_heldUp_23, ↓r_ireturn, ↓r_iconst, ↓J_X7_heldUp_57, ↓r_isub, ↓r_goto, ↓J_X7_heldUp_58, ↓U_X7_heldUp_0, ↓U_X7_heldUp_23, ↓U_X7_heldUp_57, ↓U_X7_heldUp_58, ↓zthen_v, ↓zthen_0, zU_eq, zU_nc, zU_nj]
set_option maxRecDepth 20000 in
theorem m_doesHold_t {τ : zM} {p t : Int} (hV : V1 τ) (hp : 0 ≤ p ∧ p < 4) (ht : 0 ≤ t ∧ t < τ 61 1) (h : 0 < hup τ p t) : zcall 127 [vR 60, vI p, vI t] τ = some (some (vI 1), τ) := by
  have hb := hup_bd hV p ht
  rw [S_X7_doesHold]
  simp (disch := first | exact z_tt rfl | assumption | omega | (simp (disch := omega) only [zU_eq, zU_nc, zU_nj]; omega)) only [↓L_ald_n0, ↓L_ild_n1, ↓L_ild_n2, ↓I_X7_heldUp_60, ↓r_ifle_t, ↓r_ifle_f, ↓J_X7_doesHold_13, ↓r_iconst, ↓r_goto, ↓J_X7_doesHold_14, ↓r_zreturn, ↓U_X7_doesHold_0, ↓U_X7_doesHold_13, ↓U_X7_doesHold_14, ↓zthen_v, ↓zthen_0, zU_eq, zU_nc, zU_nj, m_heldUp hV hp ht]
set_option maxRecDepth 20000 in
theorem m_doesHold_f {τ : zM} {p t : Int} (hV : V1 τ) (hp : 0 ≤ p ∧ p < 4) (ht : 0 ≤ t ∧ t < τ 61 1) (h : ¬ 0 < hup τ p t) : zcall 127 [vR 60, vI p, vI t] τ = some (some (vI 0), τ) := by
  have hb := hup_bd hV p ht
  rw [S_X7_doesHold]
  simp (disch := first | exact z_tt rfl | assumption | omega | (simp (disch := omega) only [zU_eq, zU_nc, zU_nj]; omega)) only [↓L_ald_n0, ↓L_ild_n1, ↓L_ild_n2, ↓I_X7_heldUp_60, ↓r_ifle_t, ↓r_ifle_f, ↓J_X7_doesHold_13, ↓r_iconst, ↓r_goto, ↓J_X7_doesHold_14, ↓r_zreturn, ↓U_X7_doesHold_0, ↓U_X7_doesHold_13, ↓U_X7_doesHold_14, ↓zthen_v, ↓zthen_0, zU_eq, zU_nc, zU_nj, m_heldUp hV hp ht]
set_option maxRecDepth 20000 in
theorem m_bitsOf_loop {τ : zM} {p : Int} (hV : V1 τ) (hp : 0 ≤ p ∧ p < 4) : ∀ (n : Nat) (j s : Int), 0 ≤ j → j + n = τ 61 1 → -2147483648 ≤ s ∧ s < 2147483648 → zres 129 C_X7_bitsOf_4 [vR 60, vI p, vI s, vI j] [] τ = some (some (vI (bitI (fun t => decide (0 < hup τ p t)) s j n)), τ) := by
  have hV0 := hV
  obtain ⟨v0, v1, v2, v3⟩ := hV0
  intro n
  induction n with
  | zero =>
    intro j s hj hn hs
    simp (disch := first | exact z_tt rfl | assumption | omega | (simp (disch := omega) only [zU_eq, zU_nc, zU_nj]; omega)) only [↓r_iconst, ↓L_ist_n2, ↓L_ist_n2L, ↓L_ist_n3, ↓L_ist_n3L, ↓L_ild_n3, ↓L_ald_n0, ↓F_g60_0, ↓A_g3, ↓A_g4, ↓A_g5, ↓A_g6, ↓A_g7, ↓A_g9, ↓A_g10, ↓A_g12, ↓A_g13, ↓A_g15, ↓A_g16, ↓A_g19, ↓A_g20, ↓A_g21, ↓A_g22, ↓A_g23, ↓A_g25, ↓A_g26, ↓A_g28, ↓A_g29, ↓A_g31, ↓A_g32, ↓A_g34, ↓A_g36, ↓A_g37, ↓A_g38, ↓A_g39, ↓A_g41, ↓A_g42, ↓A_g43, ↓A_g44, ↓A_g61, ↓A_g62, ↓A_g63, ↓A_g65, ↓A_g66, ↓A_g67, ↓A_g68, ↓A_g69, ↓A_g70, ↓A_gN, ↓A_gT, ↓A_gC, ↓r_icge_t, ↓r_icge_f, ↓J_X7_bitsOf_39, ↓L_ild_n2, ↓L_ild_n1, ↓I_X7_doesHold_60, ↓r_ifeq_t, ↓r_ifeq_f, ↓J_X7_bitsOf_30, ↓r_ishl, ↓r_goto, ↓J_X7_bitsOf_31, ↓r_ior, ↓L_iinc3, ↓J_X7_bitsOf_4, ↓r_ireturn, ↓U_X7_bitsOf_0, ↓U_X7_bitsOf_4, ↓U_X7_bitsOf_30, ↓U_X7_bitsOf_31, ↓U_X7_bitsOf_39, ↓zthen_v, ↓zthen_0, zU_eq, zU_nc, zU_nj, bitI]
  | succ n ih =>
    intro j s hj hn hs
    have ht : 0 ≤ j ∧ j < τ 61 1 := by omega
    rw [U_X7_bitsOf_4]
    by_cases h : 0 < hup τ p j
    · have hd := m_doesHold_t hV hp ht h
      simp (disch := first | exact z_tt rfl | assumption | omega | (simp (disch := omega) only [zU_eq, zU_nc, zU_nj]; omega)) only [↓r_iconst, ↓L_ist_n2, ↓L_ist_n2L, ↓L_ist_n3, ↓L_ist_n3L, ↓L_ild_n3, ↓L_ald_n0, ↓F_g60_0, ↓A_g3, ↓A_g4, ↓A_g5, ↓A_g6, ↓A_g7, ↓A_g9, ↓A_g10, ↓A_g12, ↓A_g13, ↓A_g15, ↓A_g16, ↓A_g19, ↓A_g20, ↓A_g21, ↓A_g22, ↓A_g23, ↓A_g25, ↓A_g26, ↓A_g28, ↓A_g29, ↓A_g31, ↓A_g32, ↓A_g34, ↓A_g36, ↓A_g37, ↓A_g38, ↓A_g39, ↓A_g41, ↓A_g42, ↓A_g43, ↓A_g44, ↓A_g61, ↓A_g62, ↓A_g63, ↓A_g65, ↓A_g66, ↓A_g67, ↓A_g68, ↓A_g69, ↓A_g70, ↓A_gN, ↓A_gT, ↓A_gC, ↓r_icge_t, ↓r_icge_f, ↓J_X7_bitsOf_39, ↓L_ild_n2, ↓L_ild_n1, ↓I_X7_doesHold_60, ↓r_ifeq_t, ↓r_ifeq_f, ↓J_X7_bitsOf_30, ↓r_ishl, ↓r_goto, ↓J_X7_bitsOf_31, ↓r_ior, ↓L_iinc3, ↓J_X7_bitsOf_4, ↓r_ireturn, ↓U_X7_bitsOf_0, ↓U_X7_bitsOf_30, ↓U_X7_bitsOf_31, ↓U_X7_bitsOf_39, ↓zthen_v, ↓zthen_0, zU_eq, zU_nc, zU_nj, hd]
      rw [ih (j + 1) _ (by omega) (by omega) (iOr_bd _ _), bitI, if_pos (by simpa using h)]
    · have hd := m_doesHold_f hV hp ht h
      simp (disch := first | exact z_tt rfl | assumption | omega | (simp (disch := omega) only [zU_eq, zU_nc, zU_nj]; omega)) only [↓r_iconst, ↓L_ist_n2, ↓L_ist_n2L, ↓L_ist_n3, ↓L_ist_n3L, ↓L_ild_n3, ↓L_ald_n0, ↓F_g60_0, ↓A_g3, ↓A_g4, ↓A_g5, ↓A_g6, ↓A_g7, ↓A_g9, ↓A_g10, ↓A_g12, ↓A_g13, ↓A_g15, ↓A_g16, ↓A_g19, ↓A_g20, ↓A_g21, ↓A_g22, ↓A_g23, ↓A_g25, ↓A_g26, ↓A_g28, ↓A_g29, ↓A_g31, ↓A_g32, ↓A_g34, ↓A_g36, ↓A_g37, ↓A_g38, ↓A_g39, ↓A_g41, ↓A_g42, ↓A_g43, ↓A_g44, ↓A_g61, ↓A_g62, ↓A_g63, ↓A_g65, ↓A_g66, ↓A_g67, ↓A_g68, ↓A_g69, ↓A_g70, ↓A_gN, ↓A_gT, ↓A_gC, ↓r_icge_t, ↓r_icge_f, ↓J_X7_bitsOf_39, ↓L_ild_n2, ↓L_ild_n1, ↓I_X7_doesHold_60, ↓r_ifeq_t, ↓r_ifeq_f, ↓J_X7_bitsOf_30, ↓r_ishl, ↓r_goto, ↓J_X7_bitsOf_31, ↓r_ior, ↓L_iinc3, ↓J_X7_bitsOf_4, ↓r_ireturn, ↓U_X7_bitsOf_0, ↓U_X7_bitsOf_30, ↓U_X7_bitsOf_31, ↓U_X7_bitsOf_39, ↓zthen_v, ↓zthen_0, zU_eq, zU_nc, zU_nj, hd]
      rw [iOr_0 hs, ih (j + 1) _ (by omega) (by omega) hs, bitI, if_neg (by simpa using h)]
def bitM (τ : zM) (p : Int) : Int := bitI (fun t => decide (0 < hup τ p t)) 0 0 (τ 61 1).toNat
set_option maxRecDepth 20000 in
theorem m_bitsOf {τ : zM} {p : Int} (hV : V1 τ) (hp : 0 ≤ p ∧ p < 4) : zcall 129 [vR 60, vI p] τ = some (some (vI (bitM τ p)), τ) := by
  have hV0 := hV
  obtain ⟨v0, v1, v2, v3⟩ := hV0
  rw [S_X7_bitsOf]
  simp (disch := first | exact z_tt rfl | assumption | omega | (simp (disch := omega) only [zU_eq, zU_nc, zU_nj]; omega)) only [↓r_iconst, ↓L_ist_n2, ↓L_ist_n2L, ↓L_ist_n3, ↓L_ist_n3L, ↓L_ild_n3, ↓L_ald_n0, ↓F_g60_0, ↓A_g3, ↓A_g4, ↓A_g5, ↓A_g6, ↓A_g7, ↓A_g9, ↓A_g10, ↓A_g12, ↓A_g13, ↓A_g15, ↓A_g16, ↓A_g19, ↓A_g20, ↓A_g21, ↓A_g22, ↓A_g23, ↓A_g25, ↓A_g26, ↓A_g28, ↓A_g29, ↓A_g31, ↓A_g32, ↓A_g34, ↓A_g36, ↓A_g37, ↓A_g38, ↓A_g39, ↓A_g41, ↓A_g42, ↓A_g43, ↓A_g44, ↓A_g61, ↓A_g62, ↓A_g63, ↓A_g65, ↓A_g66, ↓A_g67, ↓A_g68, ↓A_g69, ↓A_g70, ↓A_gN, ↓A_gT, ↓A_gC, ↓r_icge_t, ↓r_icge_f, ↓J_X7_bitsOf_39, ↓L_ild_n2, ↓L_ild_n1, ↓I_X7_doesHold_60, ↓r_ifeq_t, ↓r_ifeq_f, ↓J_X7_bitsOf_30, ↓r_ishl, ↓r_goto, ↓J_X7_bitsOf_31, ↓r_ior, ↓L_iinc3, ↓J_X7_bitsOf_4, ↓r_ireturn, ↓U_X7_bitsOf_0, ↓U_X7_bitsOf_30, ↓U_X7_bitsOf_31, ↓U_X7_bitsOf_39, ↓zthen_v, ↓zthen_0, zU_eq, zU_nc, zU_nj]
  rw [m_bitsOf_loop hV hp (τ 61 1).toNat 0 0 (by omega) (by omega) (by omega)]
  rfl
def prA (f : Int → Int) : Int → Int → Nat → Int
  | a, _, 0 => a
  | a, j, n + 1 => prA f (a * f j) (j + 1) n
def lowA (τ : zM) : Int := prA (fun t => τ 61 (23 + t)) 1 0 (τ 61 1).toNat
set_option maxRecDepth 20000 in
theorem m_low_loop {τ : zM} (hV : V1 τ) : ∀ (n : Nat) (j s : Int), 0 ≤ j → j + n = τ 61 1 → zres 130 C_X7_lowOfAll_4 [vR 60, vL s, vU, vI j] [] τ = some (some (vL (prA (fun t => τ 61 (23 + t)) s j n)), τ) := by
  have hV0 := hV
  obtain ⟨v0, v1, v2, v3⟩ := hV0
  intro n
  induction n with
  | zero =>
    intro j s hj hn
    simp (disch := first | exact z_tt rfl | assumption | omega | (simp (disch := omega) only [zU_eq, zU_nc, zU_nj]; omega)) only [↓r_lconst, ↓L_lst_n1, ↓L_lst_n1L, ↓r_iconst, ↓L_ist_n3, ↓L_ist_n3L, ↓L_ild_n3, ↓L_ald_n0, ↓F_g60_0, ↓A_g3, ↓A_g4, ↓A_g5, ↓A_g6, ↓A_g7, ↓A_g9, ↓A_g10, ↓A_g12, ↓A_g13, ↓A_g15, ↓A_g16, ↓A_g19, ↓A_g20, ↓A_g21, ↓A_g22, ↓A_g23, ↓A_g25, ↓A_g26, ↓A_g28, ↓A_g29, ↓A_g31, ↓A_g32, ↓A_g34, ↓A_g36, ↓A_g37, ↓A_g38, ↓A_g39, ↓A_g41, ↓A_g42, ↓A_g43, ↓A_g44, ↓A_g61, ↓A_g62, ↓A_g63, ↓A_g65, ↓A_g66, ↓A_g67, ↓A_g68, ↓A_g69, ↓A_g70, ↓A_gN, ↓A_gT, ↓A_gC, ↓r_icge_t, ↓r_icge_f, ↓J_X7_lowOfAll_33, ↓L_lld_n1, ↓r_bipush, ↓r_iadd, ↓r_i2l, ↓r_lmul, ↓L_iinc3, ↓r_goto, ↓J_X7_lowOfAll_4, ↓r_lreturn, ↓U_X7_lowOfAll_0, ↓U_X7_lowOfAll_4, ↓U_X7_lowOfAll_33, ↓zthen_v, ↓zthen_0, zU_eq, zU_nc, zU_nj, prA]
  | succ n ih =>
    intro j s hj hn
    have hb := v3 j hj (by omega)
    rw [U_X7_lowOfAll_4]
    simp (disch := first | exact z_tt rfl | assumption | omega | (simp (disch := omega) only [zU_eq, zU_nc, zU_nj]; omega)) only [↓r_lconst, ↓L_lst_n1, ↓L_lst_n1L, ↓r_iconst, ↓L_ist_n3, ↓L_ist_n3L, ↓L_ild_n3, ↓L_ald_n0, ↓F_g60_0, ↓A_g3, ↓A_g4, ↓A_g5, ↓A_g6, ↓A_g7, ↓A_g9, ↓A_g10, ↓A_g12, ↓A_g13, ↓A_g15, ↓A_g16, ↓A_g19, ↓A_g20, ↓A_g21, ↓A_g22, ↓A_g23, ↓A_g25, ↓A_g26, ↓A_g28, ↓A_g29, ↓A_g31, ↓A_g32, ↓A_g34, ↓A_g36, ↓A_g37, ↓A_g38, ↓A_g39, ↓A_g41, ↓A_g42, ↓A_g43, ↓A_g44, ↓A_g61, ↓A_g62, ↓A_g63, ↓A_g65, ↓A_g66, ↓A_g67, ↓A_g68, ↓A_g69, ↓A_g70, ↓A_gN, ↓A_gT, ↓A_gC, ↓r_icge_t, ↓r_icge_f, ↓J_X7_lowOfAll_33, ↓L_lld_n1, ↓r_bipush, ↓r_iadd, ↓r_i2l, ↓r_lmul, ↓L_iinc3, ↓r_goto, ↓J_X7_lowOfAll_4, ↓r_lreturn, ↓U_X7_lowOfAll_0, ↓U_X7_lowOfAll_33, ↓zthen_v, ↓zthen_0, zU_eq, zU_nc, zU_nj]
    rw [ih (j + 1) _ (by omega) (by omega), prA]
set_option maxRecDepth 20000 in
theorem m_lowOfAll {τ : zM} (hV : V1 τ) : zcall 130 [vR 60] τ = some (some (vL (lowA τ)), τ) := by
  have hV0 := hV
  obtain ⟨v0, v1, v2, v3⟩ := hV0
  rw [S_X7_lowOfAll]
  simp (disch := first | exact z_tt rfl | assumption | omega | (simp (disch := omega) only [zU_eq, zU_nc, zU_nj]; omega)) only [↓r_lconst, ↓L_lst_n1, ↓L_lst_n1L, ↓r_iconst, ↓L_ist_n3, ↓L_ist_n3L, ↓L_ild_n3, ↓L_ald_n0, ↓F_g60_0, ↓A_g3, ↓A_g4, ↓A_g5, ↓A_g6, ↓A_g7, ↓A_g9, ↓A_g10, ↓A_g12, ↓A_g13, ↓A_g15, ↓A_g16, ↓A_g19, ↓A_g20, ↓A_g21, ↓A_g22, ↓A_g23, ↓A_g25, ↓A_g26, ↓A_g28, ↓A_g29, ↓A_g31, ↓A_g32, ↓A_g34, ↓A_g36, ↓A_g37, ↓A_g38, ↓A_g39, ↓A_g41, ↓A_g42, ↓A_g43, ↓A_g44, ↓A_g61, ↓A_g62, ↓A_g63, ↓A_g65, ↓A_g66, ↓A_g67, ↓A_g68, ↓A_g69, ↓A_g70, ↓A_gN, ↓A_gT, ↓A_gC, ↓r_icge_t, ↓r_icge_f, ↓J_X7_lowOfAll_33, ↓L_lld_n1, ↓r_bipush, ↓r_iadd, ↓r_i2l, ↓r_lmul, ↓L_iinc3, ↓r_goto, ↓J_X7_lowOfAll_4, ↓r_lreturn, ↓U_X7_lowOfAll_0, ↓U_X7_lowOfAll_33, ↓zthen_v, ↓zthen_0, zU_eq, zU_nc, zU_nj]
  rw [m_low_loop hV (τ 61 1).toNat 0 1 (by omega) (by omega)]
  rfl
def worM (τ : zM) (b w : Int) : Int := sumI (fun t => τ 61 (29 + 6 * b + t) * (lowA τ / τ 61 (23 + t)) * hup τ w t) 0 (τ 61 1).toNat
set_option maxRecDepth 20000 in
theorem m_worth_loop {τ : zM} {b w : Int} (hV : V1 τ) (hL : 0 ≤ lowA τ ∧ lowA τ < 4611686018427387904) (hb : 0 ≤ b ∧ b < 4) (hw : 0 ≤ w ∧ w < 4) : ∀ (n : Nat) (j s : Int), 0 ≤ j → j + n = τ 61 1 → zres 131 C_X7_worth_11 [vR 60, vI b, vI w, vL (lowA τ), vU, vL s, vU, vI j] [] τ = some (some (vL (s + sumI (fun t => τ 61 (29 + 6 * b + t) * (lowA τ / τ 61 (23 + t)) * hup τ w t) j n)), τ) := by
  have hV0 := hV
  obtain ⟨v0, v1, v2, v3⟩ := hV0
  intro n
  induction n with
  | zero =>
    intro j s hj hn
    simp (disch := first | exact z_tt rfl | assumption | omega | (simp (disch := omega) only [zU_eq, zU_nc, zU_nj]; omega)) only [↓L_ald_n0, ↓I_X7_lowOfAll_60, ↓L_lst_n3, ↓L_lst_n3L, ↓r_lconst, ↓L_lst5, ↓L_lst5L, ↓r_iconst, ↓L_ist7, ↓L_ist7L, ↓L_ild7, ↓F_g60_0, ↓A_g3, ↓A_g4, ↓A_g5, ↓A_g6, ↓A_g7, ↓A_g9, ↓A_g10, ↓A_g12, ↓A_g13, ↓A_g15, ↓A_g16, ↓A_g19, ↓A_g20, ↓A_g21, ↓A_g22, ↓A_g23, ↓A_g25, ↓A_g26, ↓A_g28, ↓A_g29, ↓A_g31, ↓A_g32, ↓A_g34, ↓A_g36, ↓A_g37, ↓A_g38, ↓A_g39, ↓A_g41, ↓A_g42, ↓A_g43, ↓A_g44, ↓A_g61, ↓A_g62, ↓A_g63, ↓A_g65, ↓A_g66, ↓A_g67, ↓A_g68, ↓A_g69, ↓A_g70, ↓A_gN, ↓A_gT, ↓A_gC, ↓r_icge_t, ↓r_icge_f, ↓J_X7_worth_64, ↓L_lld5, ↓L_ild_n1, ↓I_X7_pointsOf_60, ↓r_i2l, ↓L_lld_n3, ↓r_bipush, ↓r_iadd, ↓r_ldiv, ↓r_lmul, ↓L_ild_n2, ↓I_X7_heldUp_60, ↓r_ladd, ↓L_iinc7, ↓r_goto, ↓J_X7_worth_11, ↓r_lreturn, ↓U_X7_worth_0, ↓U_X7_worth_11, ↓U_X7_worth_64, ↓zthen_v, ↓zthen_0, zU_eq, zU_nc, zU_nj, sumI, Int.add_zero]
  | succ n ih =>
    intro j s hj hn
    have ht : 0 ≤ j ∧ j < τ 61 1 := by omega
    have h3 := v3 j hj ht.2
    have h2 := v2 b j hb.1 hb.2 hj ht.2
    have hu := hup_bd hV w ht
    have mh := m_heldUp hV hw ht
    have mp := m_pointsOf (σ := τ) (p := b) (t := j) (by omega)
    rw [U_X7_worth_11]
    simp (disch := first | exact z_tt rfl | assumption | omega | (simp (disch := omega) only [zU_eq, zU_nc, zU_nj]; omega)) only [↓L_ald_n0, ↓I_X7_lowOfAll_60, ↓L_lst_n3, ↓L_lst_n3L, ↓r_lconst, ↓L_lst5, ↓L_lst5L, ↓r_iconst, ↓L_ist7, ↓L_ist7L, ↓L_ild7, ↓F_g60_0, ↓A_g3, ↓A_g4, ↓A_g5, ↓A_g6, ↓A_g7, ↓A_g9, ↓A_g10, ↓A_g12, ↓A_g13, ↓A_g15, ↓A_g16, ↓A_g19, ↓A_g20, ↓A_g21, ↓A_g22, ↓A_g23, ↓A_g25, ↓A_g26, ↓A_g28, ↓A_g29, ↓A_g31, ↓A_g32, ↓A_g34, ↓A_g36, ↓A_g37, ↓A_g38, ↓A_g39, ↓A_g41, ↓A_g42, ↓A_g43, ↓A_g44, ↓A_g61, ↓A_g62, ↓A_g63, ↓A_g65, ↓A_g66, ↓A_g67, ↓A_g68, ↓A_g69, ↓A_g70, ↓A_gN, ↓A_gT, ↓A_gC, ↓r_icge_t, ↓r_icge_f, ↓J_X7_worth_64, ↓L_lld5, ↓L_ild_n1, ↓I_X7_pointsOf_60, ↓r_i2l, ↓L_lld_n3, ↓r_bipush, ↓r_iadd, ↓r_ldiv, ↓r_lmul, ↓L_ild_n2, ↓I_X7_heldUp_60, ↓r_ladd, ↓L_iinc7, ↓r_goto, ↓J_X7_worth_11, ↓r_lreturn, ↓U_X7_worth_0, ↓U_X7_worth_64, ↓zthen_v, ↓zthen_0, zU_eq, zU_nc, zU_nj, mp, mh]
    rw [ih (j + 1) _ (by omega) (by omega), sumI, Int.add_assoc]
set_option maxRecDepth 20000 in
theorem m_worth {τ : zM} {b w : Int} (hV : V1 τ) (hL : 0 ≤ lowA τ ∧ lowA τ < 4611686018427387904) (hb : 0 ≤ b ∧ b < 4) (hw : 0 ≤ w ∧ w < 4) : zcall 131 [vR 60, vI b, vI w] τ = some (some (vL (worM τ b w)), τ) := by
  have hV0 := hV
  obtain ⟨v0, v1, v2, v3⟩ := hV0
  rw [S_X7_worth]
  simp (disch := first | exact z_tt rfl | assumption | omega | (simp (disch := omega) only [zU_eq, zU_nc, zU_nj]; omega)) only [↓L_ald_n0, ↓I_X7_lowOfAll_60, ↓L_lst_n3, ↓L_lst_n3L, ↓r_lconst, ↓L_lst5, ↓L_lst5L, ↓r_iconst, ↓L_ist7, ↓L_ist7L, ↓L_ild7, ↓F_g60_0, ↓A_g3, ↓A_g4, ↓A_g5, ↓A_g6, ↓A_g7, ↓A_g9, ↓A_g10, ↓A_g12, ↓A_g13, ↓A_g15, ↓A_g16, ↓A_g19, ↓A_g20, ↓A_g21, ↓A_g22, ↓A_g23, ↓A_g25, ↓A_g26, ↓A_g28, ↓A_g29, ↓A_g31, ↓A_g32, ↓A_g34, ↓A_g36, ↓A_g37, ↓A_g38, ↓A_g39, ↓A_g41, ↓A_g42, ↓A_g43, ↓A_g44, ↓A_g61, ↓A_g62, ↓A_g63, ↓A_g65, ↓A_g66, ↓A_g67, ↓A_g68, ↓A_g69, ↓A_g70, ↓A_gN, ↓A_gT, ↓A_gC, ↓r_icge_t, ↓r_icge_f, ↓J_X7_worth_64, ↓L_lld5, ↓L_ild_n1, ↓I_X7_pointsOf_60, ↓r_i2l, ↓L_lld_n3, ↓r_bipush, ↓r_iadd, ↓r_ldiv, ↓r_lmul, ↓L_ild_n2, ↓I_X7_heldUp_60, ↓r_ladd, ↓L_iinc7, ↓r_goto, ↓J_X7_worth_11, ↓r_lreturn, ↓U_X7_worth_0, ↓U_X7_worth_64, ↓zthen_v, ↓zthen_0, zU_eq, zU_nc, zU_nj, m_lowOfAll hV]
  rw [m_worth_loop hV hL hb hw (τ 61 1).toNat 0 0 (by omega) (by omega), Int.zero_add]
  rfl
set_option maxRecDepth 20000 in
theorem m_isWanting_t {τ : zM} {p t : Int} (hV : V1 τ) (hp : 0 ≤ p ∧ p < 4) (ht : 0 ≤ t ∧ t < τ 61 1) (h : 0 < τ 61 (29 + 6 * p + t) ∧ τ 61 (5 + t) = -1) : zcall 133 [vR 60, vI p, vI t] τ = some (some (vI 1), τ) := by
  have h3 := hV.2.2.2 t ht.1 ht.2
  have h2 := hV.2.2.1 p t hp.1 hp.2 ht.1 ht.2
  have h1 := hV.2.1
  have mp := m_pointsOf (σ := τ) (p := p) (t := t) (by omega)
  rw [S_X7_isWanting]
  simp (disch := first | exact z_tt rfl | assumption | omega | (simp (disch := omega) only [zU_eq, zU_nc, zU_nj]; omega)) only [↓L_ald_n0, ↓L_ild_n1, ↓L_ild_n2, ↓I_X7_pointsOf_60, ↓r_ifle_t, ↓r_ifle_f, ↓J_X7_isWanting_25, ↓F_g60_0, ↓r_iconst, ↓r_iadd, ↓A_g3, ↓A_g4, ↓A_g5, ↓A_g6, ↓A_g7, ↓A_g9, ↓A_g10, ↓A_g12, ↓A_g13, ↓A_g15, ↓A_g16, ↓A_g19, ↓A_g20, ↓A_g21, ↓A_g22, ↓A_g23, ↓A_g25, ↓A_g26, ↓A_g28, ↓A_g29, ↓A_g31, ↓A_g32, ↓A_g34, ↓A_g36, ↓A_g37, ↓A_g38, ↓A_g39, ↓A_g41, ↓A_g42, ↓A_g43, ↓A_g44, ↓A_g61, ↓A_g62, ↓A_g63, ↓A_g65, ↓A_g66, ↓A_g67, ↓A_g68, ↓A_g69, ↓A_g70, ↓A_gN, ↓A_gT, ↓A_gC, ↓r_icne_t, ↓r_icne_f, ↓r_goto, ↓J_X7_isWanting_26, ↓r_zreturn, ↓U_X7_isWanting_0, ↓U_X7_isWanting_25, ↓U_X7_isWanting_26, ↓zthen_v, ↓zthen_0, zU_eq, zU_nc, zU_nj, mp]
set_option maxRecDepth 20000 in
theorem m_isWanting_f {τ : zM} {p t : Int} (hV : V1 τ) (hp : 0 ≤ p ∧ p < 4) (ht : 0 ≤ t ∧ t < τ 61 1) (h : ¬ (0 < τ 61 (29 + 6 * p + t) ∧ τ 61 (5 + t) = -1)) : zcall 133 [vR 60, vI p, vI t] τ = some (some (vI 0), τ) := by
  have h3 := hV.2.2.2 t ht.1 ht.2
  have h2 := hV.2.2.1 p t hp.1 hp.2 ht.1 ht.2
  have h1 := hV.2.1
  have mp := m_pointsOf (σ := τ) (p := p) (t := t) (by omega)
  rw [S_X7_isWanting]
  by_cases e : 0 < τ 61 (29 + 6 * p + t)
  · simp (disch := first | exact z_tt rfl | assumption | omega | (simp (disch := omega) only [zU_eq, zU_nc, zU_nj]; omega)) only [↓L_ald_n0, ↓L_ild_n1, ↓L_ild_n2, ↓I_X7_pointsOf_60, ↓r_ifle_t, ↓r_ifle_f, ↓J_X7_isWanting_25, ↓F_g60_0, ↓r_iconst, ↓r_iadd, ↓A_g3, ↓A_g4, ↓A_g5, ↓A_g6, ↓A_g7, ↓A_g9, ↓A_g10, ↓A_g12, ↓A_g13, ↓A_g15, ↓A_g16, ↓A_g19, ↓A_g20, ↓A_g21, ↓A_g22, ↓A_g23, ↓A_g25, ↓A_g26, ↓A_g28, ↓A_g29, ↓A_g31, ↓A_g32, ↓A_g34, ↓A_g36, ↓A_g37, ↓A_g38, ↓A_g39, ↓A_g41, ↓A_g42, ↓A_g43, ↓A_g44, ↓A_g61, ↓A_g62, ↓A_g63, ↓A_g65, ↓A_g66, ↓A_g67, ↓A_g68, ↓A_g69, ↓A_g70, ↓A_gN, ↓A_gT, ↓A_gC, ↓r_icne_t, ↓r_icne_f, ↓r_goto, ↓J_X7_isWanting_26, ↓r_zreturn, ↓U_X7_isWanting_0, ↓U_X7_isWanting_25, ↓U_X7_isWanting_26, ↓zthen_v, ↓zthen_0, zU_eq, zU_nc, zU_nj, mp]
  · simp (disch := first | exact z_tt rfl | assumption | omega | (simp (disch := omega) only [zU_eq, zU_nc, zU_nj]; omega)) only [↓L_ald_n0, ↓L_ild_n1, ↓L_ild_n2, ↓I_X7_pointsOf_60, ↓r_ifle_t, ↓r_ifle_f, ↓J_X7_isWanting_25, ↓F_g60_0, ↓r_iconst, ↓r_iadd, ↓A_g3, ↓A_g4, ↓A_g5, ↓A_g6, ↓A_g7, ↓A_g9, ↓A_g10, ↓A_g12, ↓A_g13, ↓A_g15, ↓A_g16, ↓A_g19, ↓A_g20, ↓A_g21, ↓A_g22, ↓A_g23, ↓A_g25, ↓A_g26, ↓A_g28, ↓A_g29, ↓A_g31, ↓A_g32, ↓A_g34, ↓A_g36, ↓A_g37, ↓A_g38, ↓A_g39, ↓A_g41, ↓A_g42, ↓A_g43, ↓A_g44, ↓A_g61, ↓A_g62, ↓A_g63, ↓A_g65, ↓A_g66, ↓A_g67, ↓A_g68, ↓A_g69, ↓A_g70, ↓A_gN, ↓A_gT, ↓A_gC, ↓r_icne_t, ↓r_icne_f, ↓r_goto, ↓J_X7_isWanting_26, ↓r_zreturn, ↓U_X7_isWanting_0, ↓U_X7_isWanting_25, ↓U_X7_isWanting_26, ↓zthen_v, ↓zthen_0, zU_eq, zU_nc, zU_nj, mp]
set_option maxRecDepth 20000 in
theorem m_fw_loop {τ : zM} {p : Int} (hV : V1 τ) (hp : 0 ≤ p ∧ p < 4) : ∀ (n : Nat) (j : Int), 0 ≤ j → j + n = τ 61 1 → zres 134 C_X7_firstWanting_2 [vR 60, vI p, vI j] [] τ = some (some (vI (fstI (fun t => decide (τ 61 (5 + t) = -1 ∧ 0 < τ 61 (29 + 6 * p + t))) j n)), τ) := by
  have hV0 := hV
  obtain ⟨v0, v1, v2, v3⟩ := hV0
  intro n
  induction n with
  | zero =>
    intro j hj hn
    simp (disch := first | exact z_tt rfl | assumption | omega | (simp (disch := omega) only [zU_eq, zU_nc, zU_nj]; omega)) only [↓r_iconst, ↓L_ist_n2, ↓L_ist_n2L, ↓L_ild_n2, ↓L_ald_n0, ↓F_g60_0, ↓A_g3, ↓A_g4, ↓A_g5, ↓A_g6, ↓A_g7, ↓A_g9, ↓A_g10, ↓A_g12, ↓A_g13, ↓A_g15, ↓A_g16, ↓A_g19, ↓A_g20, ↓A_g21, ↓A_g22, ↓A_g23, ↓A_g25, ↓A_g26, ↓A_g28, ↓A_g29, ↓A_g31, ↓A_g32, ↓A_g34, ↓A_g36, ↓A_g37, ↓A_g38, ↓A_g39, ↓A_g41, ↓A_g42, ↓A_g43, ↓A_g44, ↓A_g61, ↓A_g62, ↓A_g63, ↓A_g65, ↓A_g66, ↓A_g67, ↓A_g68, ↓A_g69, ↓A_g70, ↓A_gN, ↓A_gT, ↓A_gC, ↓r_icge_t, ↓r_icge_f, ↓J_X7_firstWanting_27, ↓L_ild_n1, ↓I_X7_isWanting_60, ↓r_ifne_t, ↓r_ifne_f, ↓L_iinc2, ↓r_goto, ↓J_X7_firstWanting_2, ↓r_ireturn, ↓U_X7_firstWanting_0, ↓U_X7_firstWanting_2, ↓U_X7_firstWanting_27, ↓zthen_v, ↓zthen_0, zU_eq, zU_nc, zU_nj, fstI]
  | succ n ih =>
    intro j hj hn
    have ht : 0 ≤ j ∧ j < τ 61 1 := by omega
    rw [U_X7_firstWanting_2]
    by_cases h : 0 < τ 61 (29 + 6 * p + j) ∧ τ 61 (5 + j) = -1
    · have hd := m_isWanting_t hV hp ht h
      simp (disch := first | exact z_tt rfl | assumption | omega | (simp (disch := omega) only [zU_eq, zU_nc, zU_nj]; omega)) only [↓r_iconst, ↓L_ist_n2, ↓L_ist_n2L, ↓L_ild_n2, ↓L_ald_n0, ↓F_g60_0, ↓A_g3, ↓A_g4, ↓A_g5, ↓A_g6, ↓A_g7, ↓A_g9, ↓A_g10, ↓A_g12, ↓A_g13, ↓A_g15, ↓A_g16, ↓A_g19, ↓A_g20, ↓A_g21, ↓A_g22, ↓A_g23, ↓A_g25, ↓A_g26, ↓A_g28, ↓A_g29, ↓A_g31, ↓A_g32, ↓A_g34, ↓A_g36, ↓A_g37, ↓A_g38, ↓A_g39, ↓A_g41, ↓A_g42, ↓A_g43, ↓A_g44, ↓A_g61, ↓A_g62, ↓A_g63, ↓A_g65, ↓A_g66, ↓A_g67, ↓A_g68, ↓A_g69, ↓A_g70, ↓A_gN, ↓A_gT, ↓A_gC, ↓r_icge_t, ↓r_icge_f, ↓J_X7_firstWanting_27, ↓L_ild_n1, ↓I_X7_isWanting_60, ↓r_ifne_t, ↓r_ifne_f, ↓L_iinc2, ↓r_goto, ↓J_X7_firstWanting_2, ↓r_ireturn, ↓U_X7_firstWanting_0, ↓U_X7_firstWanting_27, ↓zthen_v, ↓zthen_0, zU_eq, zU_nc, zU_nj, hd]
      rw [fstI, if_pos (by simp [h.1, h.2])]
    · have hd := m_isWanting_f hV hp ht h
      simp (disch := first | exact z_tt rfl | assumption | omega | (simp (disch := omega) only [zU_eq, zU_nc, zU_nj]; omega)) only [↓r_iconst, ↓L_ist_n2, ↓L_ist_n2L, ↓L_ild_n2, ↓L_ald_n0, ↓F_g60_0, ↓A_g3, ↓A_g4, ↓A_g5, ↓A_g6, ↓A_g7, ↓A_g9, ↓A_g10, ↓A_g12, ↓A_g13, ↓A_g15, ↓A_g16, ↓A_g19, ↓A_g20, ↓A_g21, ↓A_g22, ↓A_g23, ↓A_g25, ↓A_g26, ↓A_g28, ↓A_g29, ↓A_g31, ↓A_g32, ↓A_g34, ↓A_g36, ↓A_g37, ↓A_g38, ↓A_g39, ↓A_g41, ↓A_g42, ↓A_g43, ↓A_g44, ↓A_g61, ↓A_g62, ↓A_g63, ↓A_g65, ↓A_g66, ↓A_g67, ↓A_g68, ↓A_g69, ↓A_g70, ↓A_gN, ↓A_gT, ↓A_gC, ↓r_icge_t, ↓r_icge_f, ↓J_X7_firstWanting_27, ↓L_ild_n1, ↓I_X7_isWanting_60, ↓r_ifne_t, ↓r_ifne_f, ↓L_iinc2, ↓r_goto, ↓J_X7_firstWanting_2, ↓r_ireturn, ↓U_X7_firstWanting_0, ↓U_X7_firstWanting_27, ↓zthen_v, ↓zthen_0, zU_eq, zU_nc, zU_nj, hd]
      rw [ih (j + 1) (by omega) (by omega), fstI, if_neg (by simpa [and_comm] using h)]
def fwM (τ : zM) (p : Int) : Int := fstI (fun t => decide (τ 61 (5 + t) = -1 ∧ 0 < τ 61 (29 + 6 * p + t))) 0 (τ 61 1).toNat
set_option maxRecDepth 20000 in
theorem m_firstWanting {τ : zM} {p : Int} (hV : V1 τ) (hp : 0 ≤ p ∧ p < 4) : zcall 134 [vR 60, vI p] τ = some (some (vI (fwM τ p)), τ) := by
  have hV0 := hV
  obtain ⟨v0, v1, v2, v3⟩ := hV0
  rw [S_X7_firstWanting]
  simp (disch := first | exact z_tt rfl | assumption | omega | (simp (disch := omega) only [zU_eq, zU_nc, zU_nj]; omega)) only [↓r_iconst, ↓L_ist_n2, ↓L_ist_n2L, ↓L_ild_n2, ↓L_ald_n0, ↓F_g60_0, ↓A_g3, ↓A_g4, ↓A_g5, ↓A_g6, ↓A_g7, ↓A_g9, ↓A_g10, ↓A_g12, ↓A_g13, ↓A_g15, ↓A_g16, ↓A_g19, ↓A_g20, ↓A_g21, ↓A_g22, ↓A_g23, ↓A_g25, ↓A_g26, ↓A_g28, ↓A_g29, ↓A_g31, ↓A_g32, ↓A_g34, ↓A_g36, ↓A_g37, ↓A_g38, ↓A_g39, ↓A_g41, ↓A_g42, ↓A_g43, ↓A_g44, ↓A_g61, ↓A_g62, ↓A_g63, ↓A_g65, ↓A_g66, ↓A_g67, ↓A_g68, ↓A_g69, ↓A_g70, ↓A_gN, ↓A_gT, ↓A_gC, ↓r_icge_t, ↓r_icge_f, ↓J_X7_firstWanting_27, ↓L_ild_n1, ↓I_X7_isWanting_60, ↓r_ifne_t, ↓r_ifne_f, ↓L_iinc2, ↓r_goto, ↓J_X7_firstWanting_2, ↓r_ireturn, ↓U_X7_firstWanting_0, ↓U_X7_firstWanting_27, ↓zthen_v, ↓zthen_0, zU_eq, zU_nc, zU_nj]
  rw [m_fw_loop hV hp (τ 61 1).toNat 0 (by omega) (by omega)]
  rfl
