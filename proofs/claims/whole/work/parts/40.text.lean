/-! the text: cells 45 and 46 -/
def TX (σ : zM) : Prop := (0 ≤ σ 45 1 ∧ σ 45 1 ≤ 100) ∧ (∀ j : Int, 0 ≤ j → j < 100 → 0 ≤ σ 46 j ∧ σ 46 j ≤ 127)
def sgn (σ : zM) (i : Int) : Int := if 0 ≤ i ∧ i < σ 45 1 then σ 46 i else -1
def dig (σ : zM) (i : Int) : Int := if 48 ≤ sgn σ i ∧ sgn σ i ≤ 57 then sgn σ i - 48 else -1
def dgB (x : Int) : Int := if x = 116 then 0 else if x = 110 then 1 else if x = 104 ∨ x = 115 then 2 else if x = 112 then 3 else -1
theorem sgn_bd {σ : zM} (hT : TX σ) (i : Int) : -1 ≤ sgn σ i ∧ sgn σ i ≤ 127 := by
  unfold sgn
  by_cases h : 0 ≤ i ∧ i < σ 45 1
  · rw [if_pos h]
    have := hT.2 i h.1 (by have := hT.1; omega)
    omega
  · rw [if_neg h]; omega
theorem dig_bd (σ : zM) (i : Int) : -1 ≤ dig σ i ∧ dig σ i ≤ 9 := by
  unfold dig
  by_cases h : 48 ≤ sgn σ i ∧ sgn σ i ≤ 57
  · rw [if_pos h]; omega
  · rw [if_neg h]; omega
theorem dgB_bd (x : Int) : -1 ≤ dgB x ∧ dgB x ≤ 3 := by
  unfold dgB
  split
  · omega
  · split
    · omega
    · split
      · omega
      · split
        · omega
        · omega
theorem i2B_low {x : Int} (h : 0 ≤ x ∧ x ≤ 127) : i2B x = x := by
  have q : ∀ n : Fin 128, i2B (n.val : Int) = (n.val : Int) := by decide
  have q2 := q ⟨x.toNat, by omega⟩
  have q3 : ((x.toNat : Nat) : Int) = x := by omega
  simpa only [q3] using q2
set_option maxRecDepth 20000 in
theorem c_X4_append {σ : zM} {x : Int} (h : 0 ≤ σ 45 1 ∧ σ 45 1 < 100) (hx : 0 ≤ x ∧ x ≤ 127) : zcall 28 [vR 45, vI x] σ = some (some (vI (σ 45 1 + 1)), zU (zU σ 46 (σ 45 1) x) 45 1 (σ 45 1 + 1)) := by
  rw [S_X4_append]
  simp (disch := first | exact z_tt rfl | assumption | omega | (simp (disch := omega) only [zU_eq, zU_nc, zU_nj]; omega)) only [↓L_ald_n0, ↓F_g45_0, ↓F_g45_1, ↓L_ild_n1, ↓r_i2b, ↓A_bp46, ↓A_zp64, ↓r_dupI, ↓r_dupR, ↓r_iconst, ↓r_iadd, ↓F_p45_1, ↓r_ireturn, ↓U_X4_append_0, ↓zthen_v, ↓zthen_0, zU_eq, zU_nc, zU_nj]
  rw [i2B_low hx]
set_option maxRecDepth 20000 in
theorem c_X4_signAt {σ : zM} {i : Int} (hT : TX σ) (hi : -2147483648 ≤ i ∧ i < 2147483648) : zcall 29 [vR 45, vI i] σ = some (some (vI (sgn σ i)), σ) := by
  have h1 := hT.1
  rw [S_X4_signAt]
  unfold sgn
  by_cases h : 0 ≤ i ∧ i < σ 45 1
  · rw [if_pos h]
    have h2 := hT.2 i h.1 (by omega)
    have h3 : -128 ≤ σ 46 i ∧ σ 46 i < 128 := by omega
    simp (disch := first | exact z_tt rfl | assumption | omega | (simp (disch := omega) only [zU_eq, zU_nc, zU_nj]; omega)) only [↓L_ild_n1, ↓r_iflt_t, ↓r_iflt_f, ↓J_X4_signAt_21, ↓L_ald_n0, ↓F_g45_1, ↓r_icge_t, ↓r_icge_f, ↓F_g45_0, ↓A_b46, ↓A_z64, ↓r_goto, ↓J_X4_signAt_22, ↓r_iconst, ↓r_ireturn, ↓U_X4_signAt_0, ↓U_X4_signAt_21, ↓U_X4_signAt_22, ↓zthen_v, ↓zthen_0, zU_eq, zU_nc, zU_nj]
  · rw [if_neg h]
    by_cases h4 : i < 0
    · simp (disch := first | exact z_tt rfl | assumption | omega | (simp (disch := omega) only [zU_eq, zU_nc, zU_nj]; omega)) only [↓L_ild_n1, ↓r_iflt_t, ↓r_iflt_f, ↓J_X4_signAt_21, ↓L_ald_n0, ↓F_g45_1, ↓r_icge_t, ↓r_icge_f, ↓F_g45_0, ↓A_b46, ↓A_z64, ↓r_goto, ↓J_X4_signAt_22, ↓r_iconst, ↓r_ireturn, ↓U_X4_signAt_0, ↓U_X4_signAt_21, ↓U_X4_signAt_22, ↓zthen_v, ↓zthen_0, zU_eq, zU_nc, zU_nj]
    · simp (disch := first | exact z_tt rfl | assumption | omega | (simp (disch := omega) only [zU_eq, zU_nc, zU_nj]; omega)) only [↓L_ild_n1, ↓r_iflt_t, ↓r_iflt_f, ↓J_X4_signAt_21, ↓L_ald_n0, ↓F_g45_1, ↓r_icge_t, ↓r_icge_f, ↓F_g45_0, ↓A_b46, ↓A_z64, ↓r_goto, ↓J_X4_signAt_22, ↓r_iconst, ↓r_ireturn, ↓U_X4_signAt_0, ↓U_X4_signAt_21, ↓U_X4_signAt_22, ↓zthen_v, ↓zthen_0, zU_eq, zU_nc, zU_nj]
set_option maxRecDepth 20000 in
theorem c_X4_digitAt {σ : zM} {i : Int} (hT : TX σ) (hi : -2147483648 ≤ i ∧ i < 2147483648) : zcall 30 [vR 45, vI i] σ = some (some (vI (dig σ i)), σ) := by
  have hs := sgn_bd hT i
  rw [S_X4_digitAt]
  unfold dig
  by_cases h : 48 ≤ sgn σ i ∧ sgn σ i ≤ 57
  · rw [if_pos h]
    simp (disch := first | exact z_tt rfl | assumption | omega | (simp (disch := omega) only [zU_eq, zU_nc, zU_nj]; omega)) only [↓L_ald_n0, ↓L_ild_n1, ↓I_X4_signAt_45, ↓L_ist_n2, ↓L_ist_n2L, ↓L_ild_n2, ↓r_bipush, ↓r_iclt_t, ↓r_iclt_f, ↓J_X4_digitAt_25, ↓r_icgt_t, ↓r_icgt_f, ↓r_isub, ↓r_goto, ↓J_X4_digitAt_26, ↓r_iconst, ↓r_ireturn, ↓U_X4_digitAt_0, ↓U_X4_digitAt_25, ↓U_X4_digitAt_26, ↓zthen_v, ↓zthen_0, zU_eq, zU_nc, zU_nj, c_X4_signAt hT hi]
  · rw [if_neg h]
    by_cases h4 : sgn σ i < 48
    · simp (disch := first | exact z_tt rfl | assumption | omega | (simp (disch := omega) only [zU_eq, zU_nc, zU_nj]; omega)) only [↓L_ald_n0, ↓L_ild_n1, ↓I_X4_signAt_45, ↓L_ist_n2, ↓L_ist_n2L, ↓L_ild_n2, ↓r_bipush, ↓r_iclt_t, ↓r_iclt_f, ↓J_X4_digitAt_25, ↓r_icgt_t, ↓r_icgt_f, ↓r_isub, ↓r_goto, ↓J_X4_digitAt_26, ↓r_iconst, ↓r_ireturn, ↓U_X4_digitAt_0, ↓U_X4_digitAt_25, ↓U_X4_digitAt_26, ↓zthen_v, ↓zthen_0, zU_eq, zU_nc, zU_nj, c_X4_signAt hT hi]
    · simp (disch := first | exact z_tt rfl | assumption | omega | (simp (disch := omega) only [zU_eq, zU_nc, zU_nj]; omega)) only [↓L_ald_n0, ↓L_ild_n1, ↓I_X4_signAt_45, ↓L_ist_n2, ↓L_ist_n2L, ↓L_ild_n2, ↓r_bipush, ↓r_iclt_t, ↓r_iclt_f, ↓J_X4_digitAt_25, ↓r_icgt_t, ↓r_icgt_f, ↓r_isub, ↓r_goto, ↓J_X4_digitAt_26, ↓r_iconst, ↓r_ireturn, ↓U_X4_digitAt_0, ↓U_X4_digitAt_25, ↓U_X4_digitAt_26, ↓zthen_v, ↓zthen_0, zU_eq, zU_nc, zU_nj, c_X4_signAt hT hi]
set_option maxRecDepth 20000 in
theorem c_X4_numberIn1 {σ : zM} {i : Int} (hT : TX σ) (hi : 0 ≤ i ∧ i < 2000) : zcall 31 [vR 45, vI i, vI (i + 1)] σ = some (some (vI (dig σ i)), σ) := by
  have hd := dig_bd σ i
  rw [S_X4_numberIn]
  simp (disch := first | exact z_tt rfl | assumption | omega | (simp (disch := omega) only [zU_eq, zU_nc, zU_nj]; omega)) only [↓r_iconst, ↓L_ist_n3, ↓L_ist_n3L, ↓L_ild_n1, ↓L_ist4, ↓L_ist4L, ↓L_ild4, ↓L_ild_n2, ↓r_icge_t, ↓r_icge_f, ↓J_X4_numberIn_29, ↓r_bipush, ↓L_ild_n3, ↓r_imul, ↓L_ald_n0, ↓I_X4_digitAt_45, ↓r_iadd, ↓L_iinc4, ↓r_goto, ↓J_X4_numberIn_5, ↓r_ireturn, ↓U_X4_numberIn_0, ↓U_X4_numberIn_29, ↓zthen_v, ↓zthen_0, zU_eq, zU_nc, zU_nj]
  rw [U_X4_numberIn_5]
  simp (disch := first | exact z_tt rfl | assumption | omega | (simp (disch := omega) only [zU_eq, zU_nc, zU_nj]; omega)) only [↓r_iconst, ↓L_ist_n3, ↓L_ist_n3L, ↓L_ild_n1, ↓L_ist4, ↓L_ist4L, ↓L_ild4, ↓L_ild_n2, ↓r_icge_t, ↓r_icge_f, ↓J_X4_numberIn_29, ↓r_bipush, ↓L_ild_n3, ↓r_imul, ↓L_ald_n0, ↓I_X4_digitAt_45, ↓r_iadd, ↓L_iinc4, ↓r_goto, ↓J_X4_numberIn_5, ↓r_ireturn, ↓U_X4_numberIn_0, ↓U_X4_numberIn_29, ↓zthen_v, ↓zthen_0, zU_eq, zU_nc, zU_nj, c_X4_digitAt hT]
  rw [U_X4_numberIn_5]
  simp (disch := first | exact z_tt rfl | assumption | omega | (simp (disch := omega) only [zU_eq, zU_nc, zU_nj]; omega)) only [↓r_iconst, ↓L_ist_n3, ↓L_ist_n3L, ↓L_ild_n1, ↓L_ist4, ↓L_ist4L, ↓L_ild4, ↓L_ild_n2, ↓r_icge_t, ↓r_icge_f, ↓J_X4_numberIn_29, ↓r_bipush, ↓L_ild_n3, ↓r_imul, ↓L_ald_n0, ↓I_X4_digitAt_45, ↓r_iadd, ↓L_iinc4, ↓r_goto, ↓J_X4_numberIn_5, ↓r_ireturn, ↓U_X4_numberIn_0, ↓U_X4_numberIn_29, ↓zthen_v, ↓zthen_0, zU_eq, zU_nc, zU_nj, c_X4_digitAt hT]
  try rw [show 10 * (0 : Int) + dig σ i = dig σ i from by omega]
set_option maxRecDepth 20000 in
theorem c_X4_numberIn2 {σ : zM} {i : Int} (hT : TX σ) (hi : 0 ≤ i ∧ i < 2000) : zcall 31 [vR 45, vI i, vI (i + 2)] σ = some (some (vI (10 * dig σ i + dig σ (i + 1))), σ) := by
  have hd := dig_bd σ i
  have hd2 := dig_bd σ (i + 1)
  rw [S_X4_numberIn]
  simp (disch := first | exact z_tt rfl | assumption | omega | (simp (disch := omega) only [zU_eq, zU_nc, zU_nj]; omega)) only [↓r_iconst, ↓L_ist_n3, ↓L_ist_n3L, ↓L_ild_n1, ↓L_ist4, ↓L_ist4L, ↓L_ild4, ↓L_ild_n2, ↓r_icge_t, ↓r_icge_f, ↓J_X4_numberIn_29, ↓r_bipush, ↓L_ild_n3, ↓r_imul, ↓L_ald_n0, ↓I_X4_digitAt_45, ↓r_iadd, ↓L_iinc4, ↓r_goto, ↓J_X4_numberIn_5, ↓r_ireturn, ↓U_X4_numberIn_0, ↓U_X4_numberIn_29, ↓zthen_v, ↓zthen_0, zU_eq, zU_nc, zU_nj]
  rw [U_X4_numberIn_5]
  simp (disch := first | exact z_tt rfl | assumption | omega | (simp (disch := omega) only [zU_eq, zU_nc, zU_nj]; omega)) only [↓r_iconst, ↓L_ist_n3, ↓L_ist_n3L, ↓L_ild_n1, ↓L_ist4, ↓L_ist4L, ↓L_ild4, ↓L_ild_n2, ↓r_icge_t, ↓r_icge_f, ↓J_X4_numberIn_29, ↓r_bipush, ↓L_ild_n3, ↓r_imul, ↓L_ald_n0, ↓I_X4_digitAt_45, ↓r_iadd, ↓L_iinc4, ↓r_goto, ↓J_X4_numberIn_5, ↓r_ireturn, ↓U_X4_numberIn_0, ↓U_X4_numberIn_29, ↓zthen_v, ↓zthen_0, zU_eq, zU_nc, zU_nj, c_X4_digitAt hT]
  rw [U_X4_numberIn_5]
  simp (disch := first | exact z_tt rfl | assumption | omega | (simp (disch := omega) only [zU_eq, zU_nc, zU_nj]; omega)) only [↓r_iconst, ↓L_ist_n3, ↓L_ist_n3L, ↓L_ild_n1, ↓L_ist4, ↓L_ist4L, ↓L_ild4, ↓L_ild_n2, ↓r_icge_t, ↓r_icge_f, ↓J_X4_numberIn_29, ↓r_bipush, ↓L_ild_n3, ↓r_imul, ↓L_ald_n0, ↓I_X4_digitAt_45, ↓r_iadd, ↓L_iinc4, ↓r_goto, ↓J_X4_numberIn_5, ↓r_ireturn, ↓U_X4_numberIn_0, ↓U_X4_numberIn_29, ↓zthen_v, ↓zthen_0, zU_eq, zU_nc, zU_nj, c_X4_digitAt hT]
  rw [U_X4_numberIn_5]
  simp (disch := first | exact z_tt rfl | assumption | omega | (simp (disch := omega) only [zU_eq, zU_nc, zU_nj]; omega)) only [↓r_iconst, ↓L_ist_n3, ↓L_ist_n3L, ↓L_ild_n1, ↓L_ist4, ↓L_ist4L, ↓L_ild4, ↓L_ild_n2, ↓r_icge_t, ↓r_icge_f, ↓J_X4_numberIn_29, ↓r_bipush, ↓L_ild_n3, ↓r_imul, ↓L_ald_n0, ↓I_X4_digitAt_45, ↓r_iadd, ↓L_iinc4, ↓r_goto, ↓J_X4_numberIn_5, ↓r_ireturn, ↓U_X4_numberIn_0, ↓U_X4_numberIn_29, ↓zthen_v, ↓zthen_0, zU_eq, zU_nc, zU_nj, c_X4_digitAt hT]
  try rw [show 10 * (10 * (0 : Int) + dig σ i) + dig σ (i + 1) = 10 * dig σ i + dig σ (i + 1) from by omega]
set_option maxRecDepth 20000 in
set_option maxHeartbeats 4000000 in
theorem c_X4_digitsBehind {σ : zM} {x : Int} (hx : -2147483648 ≤ x ∧ x < 2147483648) : zcall 32 [vI x] σ = some (some (vI (dgB x)), σ) := by
  rw [S_X4_digitsBehind]
  unfold dgB
  by_cases h1 : x < 104 ∨ 116 < x
  · rw [if_neg (by omega), if_neg (by omega), if_neg (by omega), if_neg (by omega)]
    simp (disch := first | exact z_tt rfl | assumption | omega | (simp (disch := omega) only [zU_eq, zU_nc, zU_nj]; omega)) only [↓L_ild_n0, ↓r_tab, ↓W_X4_digitsBehind_1_104, ↓W_X4_digitsBehind_1_105, ↓W_X4_digitsBehind_1_106, ↓W_X4_digitsBehind_1_107, ↓W_X4_digitsBehind_1_108, ↓W_X4_digitsBehind_1_109, ↓W_X4_digitsBehind_1_110, ↓W_X4_digitsBehind_1_111, ↓W_X4_digitsBehind_1_112, ↓W_X4_digitsBehind_1_113, ↓W_X4_digitsBehind_1_114, ↓W_X4_digitsBehind_1_115, ↓W_X4_digitsBehind_1_116, ↓W_X4_digitsBehind_1_d, ↓r_iconst, ↓r_ireturn, ↓U_X4_digitsBehind_0, ↓U_X4_digitsBehind_68, ↓U_X4_digitsBehind_70, ↓U_X4_digitsBehind_72, ↓U_X4_digitsBehind_74, ↓U_X4_digitsBehind_76, ↓zthen_v, ↓zthen_0, zU_eq, zU_nc, zU_nj]
  · have h2 : x = 104 ∨ x = 105 ∨ x = 106 ∨ x = 107 ∨ x = 108 ∨ x = 109 ∨ x = 110 ∨ x = 111 ∨ x = 112 ∨ x = 113 ∨ x = 114 ∨ x = 115 ∨ x = 116 := by omega
    rcases h2 with h | h | h | h | h | h | h | h | h | h | h | h | h
    all_goals
      subst h
      simp (disch := first | exact z_tt rfl | assumption | omega | (simp (disch := omega) only [zU_eq, zU_nc, zU_nj]; omega)) only [↓L_ild_n0, ↓r_tab, ↓W_X4_digitsBehind_1_104, ↓W_X4_digitsBehind_1_105, ↓W_X4_digitsBehind_1_106, ↓W_X4_digitsBehind_1_107, ↓W_X4_digitsBehind_1_108, ↓W_X4_digitsBehind_1_109, ↓W_X4_digitsBehind_1_110, ↓W_X4_digitsBehind_1_111, ↓W_X4_digitsBehind_1_112, ↓W_X4_digitsBehind_1_113, ↓W_X4_digitsBehind_1_114, ↓W_X4_digitsBehind_1_115, ↓W_X4_digitsBehind_1_116, ↓W_X4_digitsBehind_1_d, ↓r_iconst, ↓r_ireturn, ↓U_X4_digitsBehind_0, ↓U_X4_digitsBehind_68, ↓U_X4_digitsBehind_70, ↓U_X4_digitsBehind_72, ↓U_X4_digitsBehind_74, ↓U_X4_digitsBehind_76, ↓zthen_v, ↓zthen_0, zU_eq, zU_nc, zU_nj]
      rfl
/-! the end of a clause and the first fault -/
def eoD (σ : zM) : Int → Nat → Option Int
  | _, 0 => none
  | j, n + 1 => if dig σ j < 0 then some j else eoD σ (j + 1) n
def eoE (σ : zM) (i e : Int) : Int := if sgn σ i = 112 ∧ 0 ≤ dig σ e then e + 1 else e
def eoc (σ : zM) (i : Int) : Int := if dgB (sgn σ i) < 0 then -1 - i else match eoD σ (i + 1) (dgB (sgn σ i)).toNat with
  | some j => -1 - j
  | none => eoE σ i (i + 1 + dgB (sgn σ i))
theorem eoD_bd (σ : zM) : ∀ (n : Nat) (j k : Int), eoD σ j n = some k → j ≤ k ∧ k < j + n := by
  intro n
  induction n with
  | zero => intro j k h; simp [eoD] at h
  | succ n ih =>
    intro j k h
    unfold eoD at h
    by_cases q : dig σ j < 0
    · rw [if_pos q] at h
      have := Option.some.inj h
      omega
    · rw [if_neg q] at h
      have := ih (j + 1) k h
      omega
theorem eoE_bd (σ : zM) (i e : Int) : e ≤ eoE σ i e ∧ eoE σ i e ≤ e + 1 := by
  unfold eoE
  by_cases h : sgn σ i = 112 ∧ 0 ≤ dig σ e
  · rw [if_pos h]; omega
  · rw [if_neg h]; omega
theorem eoc_bd (σ : zM) (i : Int) (hi : 0 ≤ i) : -4 - i ≤ eoc σ i ∧ eoc σ i ≤ i + 5 := by
  have hk := dgB_bd (sgn σ i)
  unfold eoc
  by_cases q : dgB (sgn σ i) < 0
  · rw [if_pos q]; omega
  · rw [if_neg q]
    cases hd : eoD σ (i + 1) (dgB (sgn σ i)).toNat with
    | some j =>
      have := eoD_bd σ _ _ _ hd
      dsimp only
      omega
    | none =>
      have := eoE_bd σ i (i + 1 + dgB (sgn σ i))
      dsimp only
      omega
def eoR (σ : zM) (i e : Int) : Option Int → Int
  | some j => -1 - j
  | none => eoE σ i e
set_option maxRecDepth 20000 in
theorem c_X4_eoc_loop {σ : zM} (hT : TX σ) (i k e : Int) (hi : 0 ≤ i ∧ i < 2000) (he : e < 3000) : ∀ (n : Nat) (j : Int), 0 ≤ j → j + n = e → zres 33 C_X4_endOfClause_28 [vR 45, vI i, vI k, vI e, vI j] [] σ = some (some (vI (eoR σ i e (eoD σ j n))), σ) := by
  intro n
  induction n with
  | zero =>
    intro j hj hn
    have hje : j = e := by omega
    subst hje
    have h1 := sgn_bd hT i
    have h2 := dig_bd σ j
    unfold eoD eoR eoE
    dsimp only
    by_cases q : sgn σ i = 112
    · by_cases q2 : dig σ j < 0
      · rw [if_neg (by omega)]
        simp (disch := first | exact z_tt rfl | assumption | omega | (simp (disch := omega) only [zU_eq, zU_nc, zU_nj]; omega)) only [↓L_ald_n0, ↓L_ild_n1, ↓I_X4_signAt_45, ↓I_X4_digitsBehind, ↓L_ist_n2, ↓L_ist_n2L, ↓L_ild_n2, ↓r_ifge_t, ↓r_ifge_f, ↓J_X4_endOfClause_17, ↓r_iconst, ↓r_isub, ↓r_ireturn, ↓r_iadd, ↓L_ist_n3, ↓L_ist_n3L, ↓L_ist4, ↓L_ist4L, ↓L_ild4, ↓L_ild_n3, ↓r_icge_t, ↓r_icge_f, ↓J_X4_endOfClause_54, ↓I_X4_digitAt_45, ↓J_X4_endOfClause_48, ↓L_iinc4, ↓r_goto, ↓J_X4_endOfClause_28, ↓r_bipush, ↓r_icne_t, ↓r_icne_f, ↓J_X4_endOfClause_78, ↓r_iflt_t, ↓r_iflt_f, ↓J_X4_endOfClause_79, ↓U_X4_endOfClause_0, ↓U_X4_endOfClause_17, ↓U_X4_endOfClause_28, ↓U_X4_endOfClause_48, ↓U_X4_endOfClause_54, ↓U_X4_endOfClause_78, ↓U_X4_endOfClause_79, ↓zthen_v, ↓zthen_0, zU_eq, zU_nc, zU_nj, c_X4_signAt hT, c_X4_digitAt hT]
      · rw [if_pos (by omega)]
        simp (disch := first | exact z_tt rfl | assumption | omega | (simp (disch := omega) only [zU_eq, zU_nc, zU_nj]; omega)) only [↓L_ald_n0, ↓L_ild_n1, ↓I_X4_signAt_45, ↓I_X4_digitsBehind, ↓L_ist_n2, ↓L_ist_n2L, ↓L_ild_n2, ↓r_ifge_t, ↓r_ifge_f, ↓J_X4_endOfClause_17, ↓r_iconst, ↓r_isub, ↓r_ireturn, ↓r_iadd, ↓L_ist_n3, ↓L_ist_n3L, ↓L_ist4, ↓L_ist4L, ↓L_ild4, ↓L_ild_n3, ↓r_icge_t, ↓r_icge_f, ↓J_X4_endOfClause_54, ↓I_X4_digitAt_45, ↓J_X4_endOfClause_48, ↓L_iinc4, ↓r_goto, ↓J_X4_endOfClause_28, ↓r_bipush, ↓r_icne_t, ↓r_icne_f, ↓J_X4_endOfClause_78, ↓r_iflt_t, ↓r_iflt_f, ↓J_X4_endOfClause_79, ↓U_X4_endOfClause_0, ↓U_X4_endOfClause_17, ↓U_X4_endOfClause_28, ↓U_X4_endOfClause_48, ↓U_X4_endOfClause_54, ↓U_X4_endOfClause_78, ↓U_X4_endOfClause_79, ↓zthen_v, ↓zthen_0, zU_eq, zU_nc, zU_nj, c_X4_signAt hT, c_X4_digitAt hT]
    · rw [if_neg (by omega)]
      simp (disch := first | exact z_tt rfl | assumption | omega | (simp (disch := omega) only [zU_eq, zU_nc, zU_nj]; omega)) only [↓L_ald_n0, ↓L_ild_n1, ↓I_X4_signAt_45, ↓I_X4_digitsBehind, ↓L_ist_n2, ↓L_ist_n2L, ↓L_ild_n2, ↓r_ifge_t, ↓r_ifge_f, ↓J_X4_endOfClause_17, ↓r_iconst, ↓r_isub, ↓r_ireturn, ↓r_iadd, ↓L_ist_n3, ↓L_ist_n3L, ↓L_ist4, ↓L_ist4L, ↓L_ild4, ↓L_ild_n3, ↓r_icge_t, ↓r_icge_f, ↓J_X4_endOfClause_54, ↓I_X4_digitAt_45, ↓J_X4_endOfClause_48, ↓L_iinc4, ↓r_goto, ↓J_X4_endOfClause_28, ↓r_bipush, ↓r_icne_t, ↓r_icne_f, ↓J_X4_endOfClause_78, ↓r_iflt_t, ↓r_iflt_f, ↓J_X4_endOfClause_79, ↓U_X4_endOfClause_0, ↓U_X4_endOfClause_17, ↓U_X4_endOfClause_28, ↓U_X4_endOfClause_48, ↓U_X4_endOfClause_54, ↓U_X4_endOfClause_78, ↓U_X4_endOfClause_79, ↓zthen_v, ↓zthen_0, zU_eq, zU_nc, zU_nj, c_X4_signAt hT, c_X4_digitAt hT]
  | succ n ih =>
    intro j hj hn
    have h2 := dig_bd σ j
    rw [U_X4_endOfClause_28, eoD]
    by_cases q : dig σ j < 0
    · rw [if_pos q, eoR]
      simp (disch := first | exact z_tt rfl | assumption | omega | (simp (disch := omega) only [zU_eq, zU_nc, zU_nj]; omega)) only [↓L_ald_n0, ↓L_ild_n1, ↓I_X4_signAt_45, ↓I_X4_digitsBehind, ↓L_ist_n2, ↓L_ist_n2L, ↓L_ild_n2, ↓r_ifge_t, ↓r_ifge_f, ↓J_X4_endOfClause_17, ↓r_iconst, ↓r_isub, ↓r_ireturn, ↓r_iadd, ↓L_ist_n3, ↓L_ist_n3L, ↓L_ist4, ↓L_ist4L, ↓L_ild4, ↓L_ild_n3, ↓r_icge_t, ↓r_icge_f, ↓J_X4_endOfClause_54, ↓I_X4_digitAt_45, ↓J_X4_endOfClause_48, ↓L_iinc4, ↓r_goto, ↓J_X4_endOfClause_28, ↓r_bipush, ↓r_icne_t, ↓r_icne_f, ↓J_X4_endOfClause_78, ↓r_iflt_t, ↓r_iflt_f, ↓J_X4_endOfClause_79, ↓U_X4_endOfClause_0, ↓U_X4_endOfClause_17, ↓U_X4_endOfClause_48, ↓U_X4_endOfClause_54, ↓U_X4_endOfClause_78, ↓U_X4_endOfClause_79, ↓zthen_v, ↓zthen_0, zU_eq, zU_nc, zU_nj, c_X4_signAt hT, c_X4_digitAt hT]
    · rw [if_neg q]
      simp (disch := first | exact z_tt rfl | assumption | omega | (simp (disch := omega) only [zU_eq, zU_nc, zU_nj]; omega)) only [↓L_ald_n0, ↓L_ild_n1, ↓I_X4_signAt_45, ↓I_X4_digitsBehind, ↓L_ist_n2, ↓L_ist_n2L, ↓L_ild_n2, ↓r_ifge_t, ↓r_ifge_f, ↓J_X4_endOfClause_17, ↓r_iconst, ↓r_isub, ↓r_ireturn, ↓r_iadd, ↓L_ist_n3, ↓L_ist_n3L, ↓L_ist4, ↓L_ist4L, ↓L_ild4, ↓L_ild_n3, ↓r_icge_t, ↓r_icge_f, ↓J_X4_endOfClause_54, ↓I_X4_digitAt_45, ↓J_X4_endOfClause_48, ↓L_iinc4, ↓r_goto, ↓J_X4_endOfClause_28, ↓r_bipush, ↓r_icne_t, ↓r_icne_f, ↓J_X4_endOfClause_78, ↓r_iflt_t, ↓r_iflt_f, ↓J_X4_endOfClause_79, ↓U_X4_endOfClause_0, ↓U_X4_endOfClause_17, ↓U_X4_endOfClause_48, ↓U_X4_endOfClause_54, ↓U_X4_endOfClause_78, ↓U_X4_endOfClause_79, ↓zthen_v, ↓zthen_0, zU_eq, zU_nc, zU_nj, c_X4_signAt hT, c_X4_digitAt hT]
      rw [ih (j + 1) (by omega) (by omega)]
set_option maxRecDepth 20000 in
theorem c_X4_endOfClause {σ : zM} {i : Int} (hT : TX σ) (hi : 0 ≤ i ∧ i < 2000) : zcall 33 [vR 45, vI i] σ = some (some (vI (eoc σ i)), σ) := by
  have h1 := sgn_bd hT i
  have h2 := dgB_bd (sgn σ i)
  rw [S_X4_endOfClause]
  unfold eoc
  by_cases q : dgB (sgn σ i) < 0
  · rw [if_pos q]
    simp (disch := first | exact z_tt rfl | assumption | omega | (simp (disch := omega) only [zU_eq, zU_nc, zU_nj]; omega)) only [↓L_ald_n0, ↓L_ild_n1, ↓I_X4_signAt_45, ↓I_X4_digitsBehind, ↓L_ist_n2, ↓L_ist_n2L, ↓L_ild_n2, ↓r_ifge_t, ↓r_ifge_f, ↓J_X4_endOfClause_17, ↓r_iconst, ↓r_isub, ↓r_ireturn, ↓r_iadd, ↓L_ist_n3, ↓L_ist_n3L, ↓L_ist4, ↓L_ist4L, ↓L_ild4, ↓L_ild_n3, ↓r_icge_t, ↓r_icge_f, ↓J_X4_endOfClause_54, ↓I_X4_digitAt_45, ↓J_X4_endOfClause_48, ↓L_iinc4, ↓r_goto, ↓J_X4_endOfClause_28, ↓r_bipush, ↓r_icne_t, ↓r_icne_f, ↓J_X4_endOfClause_78, ↓r_iflt_t, ↓r_iflt_f, ↓J_X4_endOfClause_79, ↓U_X4_endOfClause_0, ↓U_X4_endOfClause_17, ↓U_X4_endOfClause_48, ↓U_X4_endOfClause_54, ↓U_X4_endOfClause_78, ↓U_X4_endOfClause_79, ↓zthen_v, ↓zthen_0, zU_eq, zU_nc, zU_nj, c_X4_signAt hT, c_X4_digitsBehind]
  · rw [if_neg q]
    simp (disch := first | exact z_tt rfl | assumption | omega | (simp (disch := omega) only [zU_eq, zU_nc, zU_nj]; omega)) only [↓L_ald_n0, ↓L_ild_n1, ↓I_X4_signAt_45, ↓I_X4_digitsBehind, ↓L_ist_n2, ↓L_ist_n2L, ↓L_ild_n2, ↓r_ifge_t, ↓r_ifge_f, ↓J_X4_endOfClause_17, ↓r_iconst, ↓r_isub, ↓r_ireturn, ↓r_iadd, ↓L_ist_n3, ↓L_ist_n3L, ↓L_ist4, ↓L_ist4L, ↓L_ild4, ↓L_ild_n3, ↓r_icge_t, ↓r_icge_f, ↓J_X4_endOfClause_54, ↓I_X4_digitAt_45, ↓J_X4_endOfClause_48, ↓L_iinc4, ↓r_goto, ↓J_X4_endOfClause_28, ↓r_bipush, ↓r_icne_t, ↓r_icne_f, ↓J_X4_endOfClause_78, ↓r_iflt_t, ↓r_iflt_f, ↓J_X4_endOfClause_79, ↓U_X4_endOfClause_0, ↓U_X4_endOfClause_17, ↓U_X4_endOfClause_48, ↓U_X4_endOfClause_54, ↓U_X4_endOfClause_78, ↓U_X4_endOfClause_79, ↓zthen_v, ↓zthen_0, zU_eq, zU_nc, zU_nj, c_X4_signAt hT, c_X4_digitsBehind]
    rw [c_X4_eoc_loop hT i _ _ hi (by omega) (dgB (sgn σ i)).toNat (i + 1) (by omega) (by omega)]
    cases eoD σ (i + 1) (dgB (sgn σ i)).toNat <;> rfl
def flt (σ : zM) : Int → Nat → Int
  | a, 0 => a
  | a, n + 1 => if eoc σ a < 0 then -1 - eoc σ a else if eoc σ a = σ 45 1 then -1 else if n = 0 ∨ ¬ sgn σ (eoc σ a) = 59 then eoc σ a else flt σ (eoc σ a + 1) n
set_option maxRecDepth 20000 in
theorem c_X4_flt_loop {σ : zM} (hT : TX σ) : ∀ (n : Nat) (a c : Int) (z : zV), 0 ≤ a → a + 6 * n ≤ 1000 → 1 ≤ c → c + n = 15 → zres 34 C_X4_fault_4 [vR 45, vI a, vI c, z] [] σ = some (some (vI (flt σ a n)), σ) := by
  have h0 := hT.1
  intro n
  induction n with
  | zero =>
    intro a c z ha hb hc hn
    unfold flt
    simp (disch := first | exact z_tt rfl | assumption | omega | (simp (disch := omega) only [zU_eq, zU_nc, zU_nj]; omega)) only [↓r_iconst, ↓L_ist_n1, ↓L_ist_n1L, ↓L_ist_n2, ↓L_ist_n2L, ↓L_ild_n2, ↓r_bipush, ↓r_icgt_t, ↓r_icgt_f, ↓J_X4_fault_62, ↓L_ald_n0, ↓L_ild_n1, ↓I_X4_endOfClause_45, ↓L_ist_n3, ↓L_ist_n3L, ↓L_ild_n3, ↓r_ifge_t, ↓r_ifge_f, ↓J_X4_fault_24, ↓r_isub, ↓r_ireturn, ↓F_g45_1, ↓r_icne_t, ↓r_icne_f, ↓J_X4_fault_34, ↓r_iceq_t, ↓r_iceq_f, ↓J_X4_fault_50, ↓I_X4_signAt_45, ↓J_X4_fault_52, ↓r_iadd, ↓L_iinc2, ↓r_goto, ↓J_X4_fault_4, ↓U_X4_fault_0, ↓U_X4_fault_4, ↓U_X4_fault_24, ↓U_X4_fault_34, ↓U_X4_fault_50, ↓U_X4_fault_52, ↓U_X4_fault_62, ↓zthen_v, ↓zthen_0, zU_eq, zU_nc, zU_nj]
  | succ n ih =>
    intro a c z ha hb hc hn
    have hE := eoc_bd σ a ha
    have hS := sgn_bd hT (eoc σ a)
    rw [U_X4_fault_4, flt]
    by_cases q1 : eoc σ a < 0
    · rw [if_pos q1]
      simp (disch := first | exact z_tt rfl | assumption | omega | (simp (disch := omega) only [zU_eq, zU_nc, zU_nj]; omega)) only [↓r_iconst, ↓L_ist_n1, ↓L_ist_n1L, ↓L_ist_n2, ↓L_ist_n2L, ↓L_ild_n2, ↓r_bipush, ↓r_icgt_t, ↓r_icgt_f, ↓J_X4_fault_62, ↓L_ald_n0, ↓L_ild_n1, ↓I_X4_endOfClause_45, ↓L_ist_n3, ↓L_ist_n3L, ↓L_ild_n3, ↓r_ifge_t, ↓r_ifge_f, ↓J_X4_fault_24, ↓r_isub, ↓r_ireturn, ↓F_g45_1, ↓r_icne_t, ↓r_icne_f, ↓J_X4_fault_34, ↓r_iceq_t, ↓r_iceq_f, ↓J_X4_fault_50, ↓I_X4_signAt_45, ↓J_X4_fault_52, ↓r_iadd, ↓L_iinc2, ↓r_goto, ↓J_X4_fault_4, ↓U_X4_fault_0, ↓U_X4_fault_24, ↓U_X4_fault_34, ↓U_X4_fault_50, ↓U_X4_fault_52, ↓U_X4_fault_62, ↓zthen_v, ↓zthen_0, zU_eq, zU_nc, zU_nj, c_X4_endOfClause hT]
    · rw [if_neg q1]
      by_cases q2 : eoc σ a = σ 45 1
      · rw [if_pos q2]
        simp (disch := first | exact z_tt rfl | assumption | omega | (simp (disch := omega) only [zU_eq, zU_nc, zU_nj]; omega)) only [↓r_iconst, ↓L_ist_n1, ↓L_ist_n1L, ↓L_ist_n2, ↓L_ist_n2L, ↓L_ild_n2, ↓r_bipush, ↓r_icgt_t, ↓r_icgt_f, ↓J_X4_fault_62, ↓L_ald_n0, ↓L_ild_n1, ↓I_X4_endOfClause_45, ↓L_ist_n3, ↓L_ist_n3L, ↓L_ild_n3, ↓r_ifge_t, ↓r_ifge_f, ↓J_X4_fault_24, ↓r_isub, ↓r_ireturn, ↓F_g45_1, ↓r_icne_t, ↓r_icne_f, ↓J_X4_fault_34, ↓r_iceq_t, ↓r_iceq_f, ↓J_X4_fault_50, ↓I_X4_signAt_45, ↓J_X4_fault_52, ↓r_iadd, ↓L_iinc2, ↓r_goto, ↓J_X4_fault_4, ↓U_X4_fault_0, ↓U_X4_fault_24, ↓U_X4_fault_34, ↓U_X4_fault_50, ↓U_X4_fault_52, ↓U_X4_fault_62, ↓zthen_v, ↓zthen_0, zU_eq, zU_nc, zU_nj, c_X4_endOfClause hT]
      · rw [if_neg q2]
        by_cases q3 : n = 0
        · rw [if_pos (Or.inl q3)]
          simp (disch := first | exact z_tt rfl | assumption | omega | (simp (disch := omega) only [zU_eq, zU_nc, zU_nj]; omega)) only [↓r_iconst, ↓L_ist_n1, ↓L_ist_n1L, ↓L_ist_n2, ↓L_ist_n2L, ↓L_ild_n2, ↓r_bipush, ↓r_icgt_t, ↓r_icgt_f, ↓J_X4_fault_62, ↓L_ald_n0, ↓L_ild_n1, ↓I_X4_endOfClause_45, ↓L_ist_n3, ↓L_ist_n3L, ↓L_ild_n3, ↓r_ifge_t, ↓r_ifge_f, ↓J_X4_fault_24, ↓r_isub, ↓r_ireturn, ↓F_g45_1, ↓r_icne_t, ↓r_icne_f, ↓J_X4_fault_34, ↓r_iceq_t, ↓r_iceq_f, ↓J_X4_fault_50, ↓I_X4_signAt_45, ↓J_X4_fault_52, ↓r_iadd, ↓L_iinc2, ↓r_goto, ↓J_X4_fault_4, ↓U_X4_fault_0, ↓U_X4_fault_24, ↓U_X4_fault_34, ↓U_X4_fault_50, ↓U_X4_fault_52, ↓U_X4_fault_62, ↓zthen_v, ↓zthen_0, zU_eq, zU_nc, zU_nj, c_X4_endOfClause hT]
        · by_cases q4 : sgn σ (eoc σ a) = 59
          · rw [if_neg (by omega)]
            simp (disch := first | exact z_tt rfl | assumption | omega | (simp (disch := omega) only [zU_eq, zU_nc, zU_nj]; omega)) only [↓r_iconst, ↓L_ist_n1, ↓L_ist_n1L, ↓L_ist_n2, ↓L_ist_n2L, ↓L_ild_n2, ↓r_bipush, ↓r_icgt_t, ↓r_icgt_f, ↓J_X4_fault_62, ↓L_ald_n0, ↓L_ild_n1, ↓I_X4_endOfClause_45, ↓L_ist_n3, ↓L_ist_n3L, ↓L_ild_n3, ↓r_ifge_t, ↓r_ifge_f, ↓J_X4_fault_24, ↓r_isub, ↓r_ireturn, ↓F_g45_1, ↓r_icne_t, ↓r_icne_f, ↓J_X4_fault_34, ↓r_iceq_t, ↓r_iceq_f, ↓J_X4_fault_50, ↓I_X4_signAt_45, ↓J_X4_fault_52, ↓r_iadd, ↓L_iinc2, ↓r_goto, ↓J_X4_fault_4, ↓U_X4_fault_0, ↓U_X4_fault_24, ↓U_X4_fault_34, ↓U_X4_fault_50, ↓U_X4_fault_52, ↓U_X4_fault_62, ↓zthen_v, ↓zthen_0, zU_eq, zU_nc, zU_nj, c_X4_endOfClause hT, c_X4_signAt hT]
            rw [ih (eoc σ a + 1) (c + 1) _ (by omega) (by omega) (by omega) (by omega)]
          · rw [if_pos (Or.inr q4)]
            simp (disch := first | exact z_tt rfl | assumption | omega | (simp (disch := omega) only [zU_eq, zU_nc, zU_nj]; omega)) only [↓r_iconst, ↓L_ist_n1, ↓L_ist_n1L, ↓L_ist_n2, ↓L_ist_n2L, ↓L_ild_n2, ↓r_bipush, ↓r_icgt_t, ↓r_icgt_f, ↓J_X4_fault_62, ↓L_ald_n0, ↓L_ild_n1, ↓I_X4_endOfClause_45, ↓L_ist_n3, ↓L_ist_n3L, ↓L_ild_n3, ↓r_ifge_t, ↓r_ifge_f, ↓J_X4_fault_24, ↓r_isub, ↓r_ireturn, ↓F_g45_1, ↓r_icne_t, ↓r_icne_f, ↓J_X4_fault_34, ↓r_iceq_t, ↓r_iceq_f, ↓J_X4_fault_50, ↓I_X4_signAt_45, ↓J_X4_fault_52, ↓r_iadd, ↓L_iinc2, ↓r_goto, ↓J_X4_fault_4, ↓U_X4_fault_0, ↓U_X4_fault_24, ↓U_X4_fault_34, ↓U_X4_fault_50, ↓U_X4_fault_52, ↓U_X4_fault_62, ↓zthen_v, ↓zthen_0, zU_eq, zU_nc, zU_nj, c_X4_endOfClause hT, c_X4_signAt hT]
set_option maxRecDepth 20000 in
theorem c_X4_fault {σ : zM} (hT : TX σ) : zcall 34 [vR 45] σ = some (some (vI (flt σ 0 14)), σ) := by
  rw [S_X4_fault]
  simp (disch := first | exact z_tt rfl | assumption | omega | (simp (disch := omega) only [zU_eq, zU_nc, zU_nj]; omega)) only [↓r_iconst, ↓L_ist_n1, ↓L_ist_n1L, ↓L_ist_n2, ↓L_ist_n2L, ↓L_ild_n2, ↓r_bipush, ↓r_icgt_t, ↓r_icgt_f, ↓J_X4_fault_62, ↓L_ald_n0, ↓L_ild_n1, ↓I_X4_endOfClause_45, ↓L_ist_n3, ↓L_ist_n3L, ↓L_ild_n3, ↓r_ifge_t, ↓r_ifge_f, ↓J_X4_fault_24, ↓r_isub, ↓r_ireturn, ↓F_g45_1, ↓r_icne_t, ↓r_icne_f, ↓J_X4_fault_34, ↓r_iceq_t, ↓r_iceq_f, ↓J_X4_fault_50, ↓I_X4_signAt_45, ↓J_X4_fault_52, ↓r_iadd, ↓L_iinc2, ↓r_goto, ↓J_X4_fault_4, ↓U_X4_fault_0, ↓U_X4_fault_24, ↓U_X4_fault_34, ↓U_X4_fault_50, ↓U_X4_fault_52, ↓U_X4_fault_62, ↓zthen_v, ↓zthen_0, zU_eq, zU_nc, zU_nj]
  rw [c_X4_flt_loop hT 14 0 1 _ (by omega) (by omega) (by omega) (by omega)]
