/-! sums and firsts -/
theorem sumI_bd {f : Int → Int} {B : Int} : ∀ (n : Nat) (j : Int), (∀ t : Int, j ≤ t → t < j + n → 0 ≤ f t ∧ f t ≤ B) → 0 ≤ sumI f j n ∧ sumI f j n ≤ n * B
  | 0, j, _ => by simp [sumI]
  | n + 1, j, h => by
    have h0 := h j (by omega) (by omega)
    have ih := sumI_bd n (j + 1) (fun t h1 h2 => h t (by omega) (by omega))
    rw [sumI]
    have e : ((n + 1 : Nat) : Int) * B = n * B + B := by rw [Int.natCast_succ, Int.add_mul, Int.one_mul]
    omega
theorem sumI_congr {f g : Int → Int} : ∀ (n : Nat) (j : Int), (∀ t : Int, j ≤ t → t < j + n → f t = g t) → sumI f j n = sumI g j n
  | 0, j, _ => rfl
  | n + 1, j, h => by
    rw [sumI, sumI, h j (by omega) (by omega), sumI_congr n (j + 1) (fun t h1 h2 => h t (by omega) (by omega))]
theorem cntI_congr {f g : Int → Bool} : ∀ (n : Nat) (j : Int), (∀ t : Int, j ≤ t → t < j + n → f t = g t) → cntI f j n = cntI g j n
  | 0, j, _ => rfl
  | n + 1, j, h => by
    rw [cntI, cntI, h j (by omega) (by omega), cntI_congr n (j + 1) (fun t h1 h2 => h t (by omega) (by omega))]
theorem bitI_congr {f g : Int → Bool} : ∀ (n : Nat) (a j : Int), (∀ t : Int, j ≤ t → t < j + n → f t = g t) → bitI f a j n = bitI g a j n
  | 0, a, j, _ => rfl
  | n + 1, a, j, h => by
    rw [bitI, bitI, h j (by omega) (by omega), bitI_congr n _ (j + 1) (fun t h1 h2 => h t (by omega) (by omega))]
theorem cntI_bd {f : Int → Bool} : ∀ (n : Nat) (j : Int), 0 ≤ cntI f j n ∧ cntI f j n ≤ n
  | 0, j => by simp [cntI]
  | n + 1, j => by
    have ih := cntI_bd (f := f) n (j + 1)
    rw [cntI]
    split <;> omega
/-- the first of j .. that holds, else -1 -/
def fstN (q : Int → Bool) : Int → Nat → Int
  | _, 0 => -1
  | j, n + 1 => if q j then j else fstN q (j + 1) n
/-- the first of j .. that holds, else the end -/
def fstI (q : Int → Bool) : Int → Nat → Int
  | j, 0 => j
  | j, n + 1 => if q j then j else fstI q (j + 1) n
theorem fstN_congr {f g : Int → Bool} : ∀ (n : Nat) (j : Int), (∀ t : Int, j ≤ t → t < j + n → f t = g t) → fstN f j n = fstN g j n
  | 0, j, _ => rfl
  | n + 1, j, h => by
    rw [fstN, fstN, h j (by omega) (by omega), fstN_congr n (j + 1) (fun t h1 h2 => h t (by omega) (by omega))]
theorem fstI_congr {f g : Int → Bool} : ∀ (n : Nat) (j : Int), (∀ t : Int, j ≤ t → t < j + n → f t = g t) → fstI f j n = fstI g j n
  | 0, j, _ => rfl
  | n + 1, j, h => by
    rw [fstI, fstI, h j (by omega) (by omega), fstI_congr n (j + 1) (fun t h1 h2 => h t (by omega) (by omega))]
/-- both firsts -/
theorem fst_both {q : Int → Bool} : ∀ (n : Nat) (j : Int), 0 ≤ j → (fstN q j n = -1 ∧ fstI q j n = j + n) ∨ (fstN q j n = fstI q j n ∧ j ≤ fstI q j n ∧ fstI q j n < j + n ∧ q (fstI q j n) = true)
  | 0, j, _ => by left; simp [fstN, fstI]
  | n + 1, j, h => by
    rw [fstN, fstI]
    by_cases hq : q j
    · right
      rw [if_pos hq, if_pos hq]
      exact ⟨rfl, Int.le_refl _, by omega, hq⟩
    · rw [if_neg hq, if_neg hq]
      rcases fst_both n (j + 1) (by omega) with ⟨h1, h2⟩ | ⟨h1, h2, h3, h4⟩
      · left; exact ⟨h1, by omega⟩
      · right; exact ⟨h1, by omega, by omega, h4⟩
theorem fstN_bd {q : Int → Bool} (n : Nat) (j : Int) (h : 0 ≤ j) : -1 ≤ fstN q j n ∧ fstN q j n < j + n := by
  rcases fst_both (q := q) n j h with ⟨h1, h2⟩ | ⟨h1, h2, h3, h4⟩ <;> omega
theorem allP_bd {σ : zM} (hW : W1 σ) {p : Int} (hp : 0 ≤ p ∧ p < 4) : 0 ≤ allP σ p ∧ allP σ p ≤ 594 := by
  obtain ⟨w0, w1, w2, w3, w4, w5, w6⟩ := hW
  have h := sumI_bd (f := σ (3 + p)) (B := 99) (σ 1 1).toNat 0 (fun t h1 h2 => w2 p t hp.1 hp.2 h1 (by omega))
  unfold allP
  omega
theorem wor_bd {σ : zM} (hW : W1 σ) {b w : Int} (hb : 0 ≤ b ∧ b < 4) : 0 ≤ wor σ b w ∧ wor σ b w ≤ 118800000 := by
  have hW0 := hW
  obtain ⟨w0, w1, w2, w3, w4, w5, w6⟩ := hW0
  have h := sumI_bd (f := fun t => σ (3 + b) t * prt σ w t) (B := 19800000) (σ 1 1).toNat 0 (fun t h1 h2 => by
    have e1 := w2 b t hb.1 hb.2 h1 (by omega)
    have e2 := prt_bd hW w t
    have e3 := Int.mul_nonneg e1.1 e2.1
    have e4 := Int.mul_le_mul e1.2 e2.2 e2.1 (by omega)
    exact ⟨e3, by omega⟩)
  unfold wor
  omega
/-! claims -/
set_option maxRecDepth 20000 in
theorem c_fu_loop {σ : zM} {p : Int} (hW : W1 σ) (hp : 0 ≤ p ∧ p < 4) : ∀ (n : Nat) (j : Int), 0 ≤ j → j + n = σ 1 1 → zres 100 C_X6_firstUnheld_2 [vR 0, vI p, vI j] [] σ = some (some (vI (fstN (fun t => decide (σ 7 t = -1 ∧ 0 < σ (3 + p) t)) j n)), σ) := by
  obtain ⟨w0, w1, w2, w3, w4, w5, w6⟩ := hW
  intro n
  induction n with
  | zero =>
    intro j hj hn
    simp (disch := first | exact z_tt rfl | assumption | omega | (simp (disch := omega) only [zU_eq, zU_nc, zU_nj]; omega)) only [↓r_iconst, ↓L_ist_n2, ↓L_ist_n2L, ↓L_ild_n2, ↓L_ald_n0, ↓F_g0_0, ↓F_g1_1, ↓F_g17_1, ↓r_icge_t, ↓r_icge_f, ↓J_X6_firstUnheld_48, ↓F_g1_3, ↓F_g17_3, ↓A_g3, ↓A_g4, ↓A_g5, ↓A_g6, ↓A_g7, ↓A_g9, ↓A_g10, ↓A_g12, ↓A_g13, ↓A_g15, ↓A_g16, ↓A_g19, ↓A_g20, ↓A_g21, ↓A_g22, ↓A_g23, ↓A_g25, ↓A_g26, ↓A_g28, ↓A_g29, ↓A_g31, ↓A_g32, ↓A_g34, ↓A_g36, ↓A_g37, ↓A_g38, ↓A_g39, ↓A_g41, ↓A_g42, ↓A_g43, ↓A_g44, ↓A_g61, ↓A_g62, ↓A_g63, ↓A_g65, ↓A_g66, ↓A_g67, ↓A_g68, ↓A_g69, ↓A_g70, ↓A_gN, ↓A_gT, ↓A_gC, ↓r_icne_t, ↓r_icne_f, ↓J_X6_firstUnheld_42, ↓F_g1_2, ↓F_g17_2, ↓L_ild_n1, ↓A_a2, ↓A_a18, ↓A_a40, ↓A_a47, ↓r_ifle_t, ↓r_ifle_f, ↓r_ireturn, ↓L_iinc2, ↓r_goto, ↓J_X6_firstUnheld_2, ↓U_X6_firstUnheld_0, ↓U_X6_firstUnheld_2, ↓U_X6_firstUnheld_42, ↓U_X6_firstUnheld_48, ↓zthen_v, ↓zthen_0, zU_eq, zU_nc, zU_nj, fstN]
  | succ n ih =>
    intro j hj hn
    have hb := w3 j hj (by omega)
    have hb2 := w2 p j hp.1 hp.2 hj (by omega)
    rw [U_X6_firstUnheld_2]
    by_cases h : σ 7 j = -1
    · by_cases h2 : 0 < σ (3 + p) j
      · simp (disch := first | exact z_tt rfl | assumption | omega | (simp (disch := omega) only [zU_eq, zU_nc, zU_nj]; omega)) only [↓r_iconst, ↓L_ist_n2, ↓L_ist_n2L, ↓L_ild_n2, ↓L_ald_n0, ↓F_g0_0, ↓F_g1_1, ↓F_g17_1, ↓r_icge_t, ↓r_icge_f, ↓J_X6_firstUnheld_48, ↓F_g1_3, ↓F_g17_3, ↓A_g3, ↓A_g4, ↓A_g5, ↓A_g6, ↓A_g7, ↓A_g9, ↓A_g10, ↓A_g12, ↓A_g13, ↓A_g15, ↓A_g16, ↓A_g19, ↓A_g20, ↓A_g21, ↓A_g22, ↓A_g23, ↓A_g25, ↓A_g26, ↓A_g28, ↓A_g29, ↓A_g31, ↓A_g32, ↓A_g34, ↓A_g36, ↓A_g37, ↓A_g38, ↓A_g39, ↓A_g41, ↓A_g42, ↓A_g43, ↓A_g44, ↓A_g61, ↓A_g62, ↓A_g63, ↓A_g65, ↓A_g66, ↓A_g67, ↓A_g68, ↓A_g69, ↓A_g70, ↓A_gN, ↓A_gT, ↓A_gC, ↓r_icne_t, ↓r_icne_f, ↓J_X6_firstUnheld_42, ↓F_g1_2, ↓F_g17_2, ↓L_ild_n1, ↓A_a2, ↓A_a18, ↓A_a40, ↓A_a47, ↓r_ifle_t, ↓r_ifle_f, ↓r_ireturn, ↓L_iinc2, ↓r_goto, ↓J_X6_firstUnheld_2, ↓U_X6_firstUnheld_0, ↓U_X6_firstUnheld_42, ↓U_X6_firstUnheld_48, ↓zthen_v, ↓zthen_0, zU_eq, zU_nc, zU_nj]
        rw [fstN, if_pos (by simp [h, h2])]
      · simp (disch := first | exact z_tt rfl | assumption | omega | (simp (disch := omega) only [zU_eq, zU_nc, zU_nj]; omega)) only [↓r_iconst, ↓L_ist_n2, ↓L_ist_n2L, ↓L_ild_n2, ↓L_ald_n0, ↓F_g0_0, ↓F_g1_1, ↓F_g17_1, ↓r_icge_t, ↓r_icge_f, ↓J_X6_firstUnheld_48, ↓F_g1_3, ↓F_g17_3, ↓A_g3, ↓A_g4, ↓A_g5, ↓A_g6, ↓A_g7, ↓A_g9, ↓A_g10, ↓A_g12, ↓A_g13, ↓A_g15, ↓A_g16, ↓A_g19, ↓A_g20, ↓A_g21, ↓A_g22, ↓A_g23, ↓A_g25, ↓A_g26, ↓A_g28, ↓A_g29, ↓A_g31, ↓A_g32, ↓A_g34, ↓A_g36, ↓A_g37, ↓A_g38, ↓A_g39, ↓A_g41, ↓A_g42, ↓A_g43, ↓A_g44, ↓A_g61, ↓A_g62, ↓A_g63, ↓A_g65, ↓A_g66, ↓A_g67, ↓A_g68, ↓A_g69, ↓A_g70, ↓A_gN, ↓A_gT, ↓A_gC, ↓r_icne_t, ↓r_icne_f, ↓J_X6_firstUnheld_42, ↓F_g1_2, ↓F_g17_2, ↓L_ild_n1, ↓A_a2, ↓A_a18, ↓A_a40, ↓A_a47, ↓r_ifle_t, ↓r_ifle_f, ↓r_ireturn, ↓L_iinc2, ↓r_goto, ↓J_X6_firstUnheld_2, ↓U_X6_firstUnheld_0, ↓U_X6_firstUnheld_42, ↓U_X6_firstUnheld_48, ↓zthen_v, ↓zthen_0, zU_eq, zU_nc, zU_nj]
        rw [ih (j + 1) (by omega) (by omega), fstN, if_neg (by simp [h2])]
    · simp (disch := first | exact z_tt rfl | assumption | omega | (simp (disch := omega) only [zU_eq, zU_nc, zU_nj]; omega)) only [↓r_iconst, ↓L_ist_n2, ↓L_ist_n2L, ↓L_ild_n2, ↓L_ald_n0, ↓F_g0_0, ↓F_g1_1, ↓F_g17_1, ↓r_icge_t, ↓r_icge_f, ↓J_X6_firstUnheld_48, ↓F_g1_3, ↓F_g17_3, ↓A_g3, ↓A_g4, ↓A_g5, ↓A_g6, ↓A_g7, ↓A_g9, ↓A_g10, ↓A_g12, ↓A_g13, ↓A_g15, ↓A_g16, ↓A_g19, ↓A_g20, ↓A_g21, ↓A_g22, ↓A_g23, ↓A_g25, ↓A_g26, ↓A_g28, ↓A_g29, ↓A_g31, ↓A_g32, ↓A_g34, ↓A_g36, ↓A_g37, ↓A_g38, ↓A_g39, ↓A_g41, ↓A_g42, ↓A_g43, ↓A_g44, ↓A_g61, ↓A_g62, ↓A_g63, ↓A_g65, ↓A_g66, ↓A_g67, ↓A_g68, ↓A_g69, ↓A_g70, ↓A_gN, ↓A_gT, ↓A_gC, ↓r_icne_t, ↓r_icne_f, ↓J_X6_firstUnheld_42, ↓F_g1_2, ↓F_g17_2, ↓L_ild_n1, ↓A_a2, ↓A_a18, ↓A_a40, ↓A_a47, ↓r_ifle_t, ↓r_ifle_f, ↓r_ireturn, ↓L_iinc2, ↓r_goto, ↓J_X6_firstUnheld_2, ↓U_X6_firstUnheld_0, ↓U_X6_firstUnheld_42, ↓U_X6_firstUnheld_48, ↓zthen_v, ↓zthen_0, zU_eq, zU_nc, zU_nj]
      rw [ih (j + 1) (by omega) (by omega), fstN, if_neg (by simp [h])]
def fuP (σ : zM) (p : Int) : Int := fstN (fun t => decide (σ 7 t = -1 ∧ 0 < σ (3 + p) t)) 0 (σ 1 1).toNat
set_option maxRecDepth 20000 in
theorem c_X6_firstUnheld {σ : zM} {p : Int} (hW : W1 σ) (hp : 0 ≤ p ∧ p < 4) : zcall 100 [vR 0, vI p] σ = some (some (vI (fuP σ p)), σ) := by
  have hW0 := hW
  obtain ⟨w0, w1, w2, w3, w4, w5, w6⟩ := hW0
  rw [S_X6_firstUnheld]
  simp (disch := first | exact z_tt rfl | assumption | omega | (simp (disch := omega) only [zU_eq, zU_nc, zU_nj]; omega)) only [↓r_iconst, ↓L_ist_n2, ↓L_ist_n2L, ↓L_ild_n2, ↓L_ald_n0, ↓F_g0_0, ↓F_g1_1, ↓F_g17_1, ↓r_icge_t, ↓r_icge_f, ↓J_X6_firstUnheld_48, ↓F_g1_3, ↓F_g17_3, ↓A_g3, ↓A_g4, ↓A_g5, ↓A_g6, ↓A_g7, ↓A_g9, ↓A_g10, ↓A_g12, ↓A_g13, ↓A_g15, ↓A_g16, ↓A_g19, ↓A_g20, ↓A_g21, ↓A_g22, ↓A_g23, ↓A_g25, ↓A_g26, ↓A_g28, ↓A_g29, ↓A_g31, ↓A_g32, ↓A_g34, ↓A_g36, ↓A_g37, ↓A_g38, ↓A_g39, ↓A_g41, ↓A_g42, ↓A_g43, ↓A_g44, ↓A_g61, ↓A_g62, ↓A_g63, ↓A_g65, ↓A_g66, ↓A_g67, ↓A_g68, ↓A_g69, ↓A_g70, ↓A_gN, ↓A_gT, ↓A_gC, ↓r_icne_t, ↓r_icne_f, ↓J_X6_firstUnheld_42, ↓F_g1_2, ↓F_g17_2, ↓L_ild_n1, ↓A_a2, ↓A_a18, ↓A_a40, ↓A_a47, ↓r_ifle_t, ↓r_ifle_f, ↓r_ireturn, ↓L_iinc2, ↓r_goto, ↓J_X6_firstUnheld_2, ↓U_X6_firstUnheld_0, ↓U_X6_firstUnheld_42, ↓U_X6_firstUnheld_48, ↓zthen_v, ↓zthen_0, zU_eq, zU_nc, zU_nj]
  rw [c_fu_loop hW hp (σ 1 1).toNat 0 (by omega) (by omega)]
  rfl
set_option maxRecDepth 20000 in
theorem c_fe_loop {σ : zM} {p : Int} (hW : W1 σ) (hp : 0 ≤ p ∧ p < 4) : ∀ (n : Nat) (j : Int), 0 ≤ j → j + n = σ 1 0 → zres 101 C_X6_firstEnvied_13 [vR 0, vI p, vL (wor σ p p), vU, vI j] [] σ = some (some (vI (fstN (fun q => decide (wor σ p p < wor σ p q)) j n)), σ) := by
  have hW0 := hW
  obtain ⟨w0, w1, w2, w3, w4, w5, w6⟩ := hW0
  have hbo := wor_bd hW (b := p) (w := p) hp
  intro n
  induction n with
  | zero =>
    intro j hj hn
    simp (disch := first | exact z_tt rfl | assumption | omega | (simp (disch := omega) only [zU_eq, zU_nc, zU_nj]; omega)) only [↓L_ald_n0, ↓F_g0_0, ↓L_ild_n1, ↓I_X2_worth_1, ↓I_X2_worth_17, ↓L_lst_n2, ↓L_lst_n2L, ↓r_iconst, ↓L_ist4, ↓L_ist4L, ↓L_ild4, ↓F_g1_0, ↓F_g17_0, ↓r_icge_t, ↓r_icge_f, ↓J_X6_firstEnvied_49, ↓L_lld_n2, ↓r_ifle_t, ↓r_ifle_f, ↓J_X6_firstEnvied_43, ↓r_lle_t, ↓r_lle_f, ↓r_ireturn, ↓L_iinc4, ↓r_goto, ↓J_X6_firstEnvied_13, ↓U_X6_firstEnvied_0, ↓U_X6_firstEnvied_13, ↓U_X6_firstEnvied_43, ↓U_X6_firstEnvied_49, ↓zthen_v, ↓zthen_0, zU_eq, zU_nc, zU_nj, fstN]
  | succ n ih =>
    intro j hj hn
    have hj4 : j < 4 := by omega
    have hb := wor_bd hW (b := p) (w := j) hp
    rw [U_X6_firstEnvied_13]
    by_cases h : wor σ p p < wor σ p j
    · simp (disch := first | exact z_tt rfl | assumption | omega | (simp (disch := omega) only [zU_eq, zU_nc, zU_nj]; omega)) only [↓L_ald_n0, ↓F_g0_0, ↓L_ild_n1, ↓I_X2_worth_1, ↓I_X2_worth_17, ↓L_lst_n2, ↓L_lst_n2L, ↓r_iconst, ↓L_ist4, ↓L_ist4L, ↓L_ild4, ↓F_g1_0, ↓F_g17_0, ↓r_icge_t, ↓r_icge_f, ↓J_X6_firstEnvied_49, ↓L_lld_n2, ↓r_ifle_t, ↓r_ifle_f, ↓J_X6_firstEnvied_43, ↓r_lle_t, ↓r_lle_f, ↓r_ireturn, ↓L_iinc4, ↓r_goto, ↓J_X6_firstEnvied_13, ↓U_X6_firstEnvied_0, ↓U_X6_firstEnvied_43, ↓U_X6_firstEnvied_49, ↓zthen_v, ↓zthen_0, zU_eq, zU_nc, zU_nj, c_X2_worth hW hp]
      rw [fstN, if_pos (by simpa using h)]
    · simp (disch := first | exact z_tt rfl | assumption | omega | (simp (disch := omega) only [zU_eq, zU_nc, zU_nj]; omega)) only [↓L_ald_n0, ↓F_g0_0, ↓L_ild_n1, ↓I_X2_worth_1, ↓I_X2_worth_17, ↓L_lst_n2, ↓L_lst_n2L, ↓r_iconst, ↓L_ist4, ↓L_ist4L, ↓L_ild4, ↓F_g1_0, ↓F_g17_0, ↓r_icge_t, ↓r_icge_f, ↓J_X6_firstEnvied_49, ↓L_lld_n2, ↓r_ifle_t, ↓r_ifle_f, ↓J_X6_firstEnvied_43, ↓r_lle_t, ↓r_lle_f, ↓r_ireturn, ↓L_iinc4, ↓r_goto, ↓J_X6_firstEnvied_13, ↓U_X6_firstEnvied_0, ↓U_X6_firstEnvied_43, ↓U_X6_firstEnvied_49, ↓zthen_v, ↓zthen_0, zU_eq, zU_nc, zU_nj, c_X2_worth hW hp]
      rw [ih (j + 1) (by omega) (by omega), fstN, if_neg (by simpa using h)]
def feP (σ : zM) (p : Int) : Int := fstN (fun q => decide (wor σ p p < wor σ p q)) 0 (σ 1 0).toNat
set_option maxRecDepth 20000 in
theorem c_X6_firstEnvied {σ : zM} {p : Int} (hW : W1 σ) (hp : 0 ≤ p ∧ p < 4) : zcall 101 [vR 0, vI p] σ = some (some (vI (feP σ p)), σ) := by
  have hW0 := hW
  obtain ⟨w0, w1, w2, w3, w4, w5, w6⟩ := hW0
  rw [S_X6_firstEnvied]
  simp (disch := first | exact z_tt rfl | assumption | omega | (simp (disch := omega) only [zU_eq, zU_nc, zU_nj]; omega)) only [↓L_ald_n0, ↓F_g0_0, ↓L_ild_n1, ↓I_X2_worth_1, ↓I_X2_worth_17, ↓L_lst_n2, ↓L_lst_n2L, ↓r_iconst, ↓L_ist4, ↓L_ist4L, ↓L_ild4, ↓F_g1_0, ↓F_g17_0, ↓r_icge_t, ↓r_icge_f, ↓J_X6_firstEnvied_49, ↓L_lld_n2, ↓r_ifle_t, ↓r_ifle_f, ↓J_X6_firstEnvied_43, ↓r_lle_t, ↓r_lle_f, ↓r_ireturn, ↓L_iinc4, ↓r_goto, ↓J_X6_firstEnvied_13, ↓U_X6_firstEnvied_0, ↓U_X6_firstEnvied_43, ↓U_X6_firstEnvied_49, ↓zthen_v, ↓zthen_0, zU_eq, zU_nc, zU_nj, c_X2_worth hW hp hp]
  rw [c_fe_loop hW hp (σ 1 0).toNat 0 (by omega) (by omega)]
  rfl
def claP (σ : zM) (p : Int) : Int := if allP σ p = 0 then 1 else if 0 ≤ fuP σ p then 2 else if wor σ p p * σ 1 0 < allP σ p * σ 1 7 then 3 else if 0 ≤ feP σ p then 4 else 0
theorem fuP_bd {σ : zM} (hW : W1 σ) (p : Int) : -1 ≤ fuP σ p ∧ fuP σ p < σ 1 1 ∨ fuP σ p = -1 := by
  obtain ⟨w0, w1, -⟩ := hW
  have := fstN_bd (q := fun t => decide (σ 7 t = -1 ∧ 0 < σ (3 + p) t)) (σ 1 1).toNat 0 (by omega)
  unfold fuP
  omega
theorem feP_bd {σ : zM} (hW : W1 σ) (p : Int) : -1 ≤ feP σ p ∧ feP σ p < σ 1 0 := by
  obtain ⟨w0, w1, -⟩ := hW
  have := fstN_bd (q := fun q => decide (wor σ p p < wor σ p q)) (σ 1 0).toNat 0 (by omega)
  unfold feP
  omega
set_option maxRecDepth 20000 in
theorem c_X6_claimOf {σ : zM} {p : Int} (hW : W1 σ) (hp : 0 ≤ p ∧ p < 4) : zcall 97 [vR 0, vI p] σ = some (some (vI (claP σ p)), σ) := by
  have hW0 := hW
  obtain ⟨w0, w1, w2, w3, w4, w5, w6⟩ := hW0
  have ha := allP_bd hW hp
  have hf := fuP_bd hW p
  have he := feP_bd hW p
  have hw := wor_bd hW (b := p) (w := p) hp
  have hm1 : 0 ≤ wor σ p p * σ 1 0 ∧ wor σ p p * σ 1 0 ≤ 475200000 := by
    have e1 := Int.mul_nonneg hw.1 (by omega : 0 ≤ σ 1 0)
    have e2 := Int.mul_le_mul hw.2 w0.2 (by omega) (by omega)
    omega
  have hm2 : 0 ≤ allP σ p * σ 1 7 ∧ allP σ p * σ 1 7 ≤ 118800000 := by
    have e1 := Int.mul_nonneg ha.1 (by omega : 0 ≤ σ 1 7)
    have e2 := Int.mul_le_mul ha.2 w6.2.2 (by omega) (by omega)
    omega
  rw [S_X6_claimOf]
  unfold claP
  by_cases h1 : allP σ p = 0
  · rw [if_pos h1]
    simp (disch := first | exact z_tt rfl | assumption | omega | (simp (disch := omega) only [zU_eq, zU_nc, zU_nj]; omega)) only [↓L_ald_n0, ↓F_g0_0, ↓L_ild_n1, ↓I_X2_total_1, ↓I_X2_total_17, ↓r_ifne_t, ↓r_ifne_f, ↓J_X6_claimOf_13, ↓r_iconst, ↓r_ireturn, ↓I_X6_firstUnheld_0, ↓r_iflt_t, ↓r_iflt_f, ↓J_X6_claimOf_23, ↓I_X2_worth_1, ↓I_X2_worth_17, ↓F_g1_0, ↓F_g17_0, ↓r_i2l, ↓r_lmul, ↓F_g1_7, ↓F_g17_7, ↓r_ifge_t, ↓r_ifge_f, ↓J_X6_claimOf_64, ↓r_lge_t, ↓r_lge_f, ↓I_X6_firstEnvied_0, ↓J_X6_claimOf_76, ↓r_goto, ↓J_X6_claimOf_77, ↓U_X6_claimOf_0, ↓U_X6_claimOf_13, ↓U_X6_claimOf_23, ↓U_X6_claimOf_64, ↓U_X6_claimOf_76, ↓U_X6_claimOf_77, ↓zthen_v, ↓zthen_0, zU_eq, zU_nc, zU_nj, c_X2_total hW hp]
  · rw [if_neg h1]
    by_cases h2 : 0 ≤ fuP σ p
    · rw [if_pos h2]
      simp (disch := first | exact z_tt rfl | assumption | omega | (simp (disch := omega) only [zU_eq, zU_nc, zU_nj]; omega)) only [↓L_ald_n0, ↓F_g0_0, ↓L_ild_n1, ↓I_X2_total_1, ↓I_X2_total_17, ↓r_ifne_t, ↓r_ifne_f, ↓J_X6_claimOf_13, ↓r_iconst, ↓r_ireturn, ↓I_X6_firstUnheld_0, ↓r_iflt_t, ↓r_iflt_f, ↓J_X6_claimOf_23, ↓I_X2_worth_1, ↓I_X2_worth_17, ↓F_g1_0, ↓F_g17_0, ↓r_i2l, ↓r_lmul, ↓F_g1_7, ↓F_g17_7, ↓r_ifge_t, ↓r_ifge_f, ↓J_X6_claimOf_64, ↓r_lge_t, ↓r_lge_f, ↓I_X6_firstEnvied_0, ↓J_X6_claimOf_76, ↓r_goto, ↓J_X6_claimOf_77, ↓U_X6_claimOf_0, ↓U_X6_claimOf_13, ↓U_X6_claimOf_23, ↓U_X6_claimOf_64, ↓U_X6_claimOf_76, ↓U_X6_claimOf_77, ↓zthen_v, ↓zthen_0, zU_eq, zU_nc, zU_nj, c_X2_total hW hp, c_X6_firstUnheld hW hp]
    · rw [if_neg h2]
      by_cases h3 : wor σ p p * σ 1 0 < allP σ p * σ 1 7
      · rw [if_pos h3]
        simp (disch := first | exact z_tt rfl | assumption | omega | (simp (disch := omega) only [zU_eq, zU_nc, zU_nj]; omega)) only [↓L_ald_n0, ↓F_g0_0, ↓L_ild_n1, ↓I_X2_total_1, ↓I_X2_total_17, ↓r_ifne_t, ↓r_ifne_f, ↓J_X6_claimOf_13, ↓r_iconst, ↓r_ireturn, ↓I_X6_firstUnheld_0, ↓r_iflt_t, ↓r_iflt_f, ↓J_X6_claimOf_23, ↓I_X2_worth_1, ↓I_X2_worth_17, ↓F_g1_0, ↓F_g17_0, ↓r_i2l, ↓r_lmul, ↓F_g1_7, ↓F_g17_7, ↓r_ifge_t, ↓r_ifge_f, ↓J_X6_claimOf_64, ↓r_lge_t, ↓r_lge_f, ↓I_X6_firstEnvied_0, ↓J_X6_claimOf_76, ↓r_goto, ↓J_X6_claimOf_77, ↓U_X6_claimOf_0, ↓U_X6_claimOf_13, ↓U_X6_claimOf_23, ↓U_X6_claimOf_64, ↓U_X6_claimOf_76, ↓U_X6_claimOf_77, ↓zthen_v, ↓zthen_0, zU_eq, zU_nc, zU_nj, c_X2_total hW hp, c_X6_firstUnheld hW hp, c_X2_worth hW hp hp]
      · rw [if_neg h3]
        by_cases h4 : 0 ≤ feP σ p
        · rw [if_pos h4]
          simp (disch := first | exact z_tt rfl | assumption | omega | (simp (disch := omega) only [zU_eq, zU_nc, zU_nj]; omega)) only [↓L_ald_n0, ↓F_g0_0, ↓L_ild_n1, ↓I_X2_total_1, ↓I_X2_total_17, ↓r_ifne_t, ↓r_ifne_f, ↓J_X6_claimOf_13, ↓r_iconst, ↓r_ireturn, ↓I_X6_firstUnheld_0, ↓r_iflt_t, ↓r_iflt_f, ↓J_X6_claimOf_23, ↓I_X2_worth_1, ↓I_X2_worth_17, ↓F_g1_0, ↓F_g17_0, ↓r_i2l, ↓r_lmul, ↓F_g1_7, ↓F_g17_7, ↓r_ifge_t, ↓r_ifge_f, ↓J_X6_claimOf_64, ↓r_lge_t, ↓r_lge_f, ↓I_X6_firstEnvied_0, ↓J_X6_claimOf_76, ↓r_goto, ↓J_X6_claimOf_77, ↓U_X6_claimOf_0, ↓U_X6_claimOf_13, ↓U_X6_claimOf_23, ↓U_X6_claimOf_64, ↓U_X6_claimOf_76, ↓U_X6_claimOf_77, ↓zthen_v, ↓zthen_0, zU_eq, zU_nc, zU_nj, c_X2_total hW hp, c_X6_firstUnheld hW hp, c_X2_worth hW hp hp, c_X6_firstEnvied hW hp]
        · rw [if_neg h4]
          simp (disch := first | exact z_tt rfl | assumption | omega | (simp (disch := omega) only [zU_eq, zU_nc, zU_nj]; omega)) only [↓L_ald_n0, ↓F_g0_0, ↓L_ild_n1, ↓I_X2_total_1, ↓I_X2_total_17, ↓r_ifne_t, ↓r_ifne_f, ↓J_X6_claimOf_13, ↓r_iconst, ↓r_ireturn, ↓I_X6_firstUnheld_0, ↓r_iflt_t, ↓r_iflt_f, ↓J_X6_claimOf_23, ↓I_X2_worth_1, ↓I_X2_worth_17, ↓F_g1_0, ↓F_g17_0, ↓r_i2l, ↓r_lmul, ↓F_g1_7, ↓F_g17_7, ↓r_ifge_t, ↓r_ifge_f, ↓J_X6_claimOf_64, ↓r_lge_t, ↓r_lge_f, ↓I_X6_firstEnvied_0, ↓J_X6_claimOf_76, ↓r_goto, ↓J_X6_claimOf_77, ↓U_X6_claimOf_0, ↓U_X6_claimOf_13, ↓U_X6_claimOf_23, ↓U_X6_claimOf_64, ↓U_X6_claimOf_76, ↓U_X6_claimOf_77, ↓zthen_v, ↓zthen_0, zU_eq, zU_nc, zU_nj, c_X2_total hW hp, c_X6_firstUnheld hW hp, c_X2_worth hW hp hp, c_X6_firstEnvied hW hp]
set_option maxRecDepth 20000 in
theorem c_eb_loop {σ : zM} (hW : W1 σ) : ∀ (n : Nat) (j s : Int), 0 ≤ j → j + n = σ 1 0 → zres 102 C_X6_enviousBits_4 [vR 0, vI s, vI j] [] σ = some (some (vI (bitI (fun p => decide (0 ≤ feP σ p)) s j n)), σ) := by
  have hW0 := hW
  obtain ⟨w0, w1, w2, w3, w4, w5, w6⟩ := hW0
  intro n
  induction n with
  | zero =>
    intro j s hj hn
    simp (disch := first | exact z_tt rfl | assumption | omega | (simp (disch := omega) only [zU_eq, zU_nc, zU_nj]; omega)) only [↓r_iconst, ↓L_ist_n1, ↓L_ist_n1L, ↓L_ist_n2, ↓L_ist_n2L, ↓L_ild_n2, ↓L_ald_n0, ↓F_g0_0, ↓F_g1_0, ↓F_g17_0, ↓r_icge_t, ↓r_icge_f, ↓J_X6_enviousBits_35, ↓I_X6_firstEnvied_0, ↓r_iflt_t, ↓r_iflt_f, ↓J_X6_enviousBits_29, ↓L_ild_n1, ↓r_ishl, ↓r_ior, ↓L_iinc2, ↓r_goto, ↓J_X6_enviousBits_4, ↓r_ireturn, ↓U_X6_enviousBits_0, ↓U_X6_enviousBits_4, ↓U_X6_enviousBits_29, ↓U_X6_enviousBits_35, ↓zthen_v, ↓zthen_0, zU_eq, zU_nc, zU_nj, bitI]
  | succ n ih =>
    intro j s hj hn
    have hj4 : j < 4 := by omega
    have hb := feP_bd hW j
    rw [U_X6_enviousBits_4]
    by_cases h : 0 ≤ feP σ j
    · simp (disch := first | exact z_tt rfl | assumption | omega | (simp (disch := omega) only [zU_eq, zU_nc, zU_nj]; omega)) only [↓r_iconst, ↓L_ist_n1, ↓L_ist_n1L, ↓L_ist_n2, ↓L_ist_n2L, ↓L_ild_n2, ↓L_ald_n0, ↓F_g0_0, ↓F_g1_0, ↓F_g17_0, ↓r_icge_t, ↓r_icge_f, ↓J_X6_enviousBits_35, ↓I_X6_firstEnvied_0, ↓r_iflt_t, ↓r_iflt_f, ↓J_X6_enviousBits_29, ↓L_ild_n1, ↓r_ishl, ↓r_ior, ↓L_iinc2, ↓r_goto, ↓J_X6_enviousBits_4, ↓r_ireturn, ↓U_X6_enviousBits_0, ↓U_X6_enviousBits_29, ↓U_X6_enviousBits_35, ↓zthen_v, ↓zthen_0, zU_eq, zU_nc, zU_nj, c_X6_firstEnvied hW]
      rw [ih (j + 1) _ (by omega) (by omega), bitI, if_pos (by simpa using h)]
    · simp (disch := first | exact z_tt rfl | assumption | omega | (simp (disch := omega) only [zU_eq, zU_nc, zU_nj]; omega)) only [↓r_iconst, ↓L_ist_n1, ↓L_ist_n1L, ↓L_ist_n2, ↓L_ist_n2L, ↓L_ild_n2, ↓L_ald_n0, ↓F_g0_0, ↓F_g1_0, ↓F_g17_0, ↓r_icge_t, ↓r_icge_f, ↓J_X6_enviousBits_35, ↓I_X6_firstEnvied_0, ↓r_iflt_t, ↓r_iflt_f, ↓J_X6_enviousBits_29, ↓L_ild_n1, ↓r_ishl, ↓r_ior, ↓L_iinc2, ↓r_goto, ↓J_X6_enviousBits_4, ↓r_ireturn, ↓U_X6_enviousBits_0, ↓U_X6_enviousBits_29, ↓U_X6_enviousBits_35, ↓zthen_v, ↓zthen_0, zU_eq, zU_nc, zU_nj, c_X6_firstEnvied hW]
      rw [ih (j + 1) _ (by omega) (by omega), bitI, if_neg (by simpa using h)]
set_option maxRecDepth 20000 in
theorem c_X6_enviousBits {σ : zM} (hW : W1 σ) : zcall 102 [vR 0] σ = some (some (vI (bitI (fun p => decide (0 ≤ feP σ p)) 0 0 (σ 1 0).toNat)), σ) := by
  have hW0 := hW
  obtain ⟨w0, w1, w2, w3, w4, w5, w6⟩ := hW0
  rw [S_X6_enviousBits]
  simp (disch := first | exact z_tt rfl | assumption | omega | (simp (disch := omega) only [zU_eq, zU_nc, zU_nj]; omega)) only [↓r_iconst, ↓L_ist_n1, ↓L_ist_n1L, ↓L_ist_n2, ↓L_ist_n2L, ↓L_ild_n2, ↓L_ald_n0, ↓F_g0_0, ↓F_g1_0, ↓F_g17_0, ↓r_icge_t, ↓r_icge_f, ↓J_X6_enviousBits_35, ↓I_X6_firstEnvied_0, ↓r_iflt_t, ↓r_iflt_f, ↓J_X6_enviousBits_29, ↓L_ild_n1, ↓r_ishl, ↓r_ior, ↓L_iinc2, ↓r_goto, ↓J_X6_enviousBits_4, ↓r_ireturn, ↓U_X6_enviousBits_0, ↓U_X6_enviousBits_29, ↓U_X6_enviousBits_35, ↓zthen_v, ↓zthen_0, zU_eq, zU_nc, zU_nj]
  rw [c_eb_loop hW (σ 1 0).toNat 0 0 (by omega) (by omega)]
