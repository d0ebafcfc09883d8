/-! fits -/
def Pv (σ : zM) (p th v : Int) : Int → Int → Int := fun q u => if q = p ∧ u = th then v else σ (3 + q) u
def FrT (σ s : zM) : Prop := ∀ c j : Int, (c < 33 ∨ (34 < c ∧ c < 41) ∨ 44 < c) → s c j = σ c j
def VC (σ : zM) (p th v : Int) (s : zM) : Prop := FrT σ s ∧ Ow6 s ∧ TrC s (Pv σ p th v)
def VM (τ : zM) (p th v : Int) (t : zM) : Prop := (∀ c j : Int, (c < 60 ∨ (61 < c ∧ c < 64) ∨ 64 < c ∨ (c = 60 ∧ (j < 5 ∨ 10 < j)) ∨ (c = 61 ∧ ¬ j = 29 + 6 * p + th)) → t c j = τ c j) ∧ Fl t ∧ t 61 (29 + 6 * p + th) = v
theorem FrT_rfl (σ : zM) : FrT σ σ := fun _ _ _ => rfl
theorem VM_TrM {σ τ t : zM} {p th v : Int} (R : Rel1 σ τ) (hp : 0 ≤ p ∧ p < 4) (ht : 0 ≤ th ∧ th < σ 1 1) (h : VM τ p th v t) : TrM t (Pv σ p th v) (σ 1 1) := by
  have hm := R.m
  intro q u a b c d
  unfold Pv
  by_cases e : q = p ∧ u = th
  · rw [if_pos e, e.1, e.2]; exact h.2.2
  · rw [if_neg e, h.1 _ _ (by omega)]
    exact R.pt q u a b c d
theorem VM_V1 {σ τ t : zM} {p th v : Int} (R : Rel1 σ τ) (hp : 0 ≤ p ∧ p < 4) (ht : 0 ≤ th ∧ th < σ 1 1) (hv : 0 ≤ v ∧ v ≤ 99) (h : VM τ p th v t) : V1 t := by
  have hm := R.m
  have K := VM_TrM R hp ht h
  have e1 : t 61 1 = τ 61 1 := h.1 _ _ (by omega)
  obtain ⟨a1, a2, a3, a4⟩ := Rel1_V1 R
  refine ⟨by rw [h.1 61 0 (by omega)]; exact a1, by rw [e1]; exact a2, fun q u a b c d => ?_, fun u a b => ?_⟩
  · rw [K q u a b c (by omega)]
    unfold Pv
    split
    · exact hv
    · exact R.ptr q u a b c (by omega)
  · rw [e1] at b
    rw [h.1 61 (5 + u) (by omega), h.1 61 (11 + u) (by omega), h.1 61 (17 + u) (by omega), h.1 61 (23 + u) (by omega)]
    exact a4 u a b
theorem fit_ex {σ τ s t : zM} {p th v : Int} (R : Rel1 σ τ) (hp : 0 ≤ p ∧ p < 4) (ht : 0 ≤ th ∧ th < σ 1 1) (hv : 0 ≤ v ∧ v ≤ 99) (hs : VC σ p th v s) (h : VM τ p th v t) : ∃ (b : Bool) (s1 t1 : zM), zcall 103 [vR 0] s = some (some (vI (if b = true then 1 else 0)), s1) ∧ zcall 172 [vR 60] t = some (some (vI (if b = true then 1 else 0)), t1) ∧ VC σ p th v s1 ∧ VM τ p th v t1 := by
  have hm := R.m
  have e1 : s 1 1 = σ 1 1 := hs.1 _ _ (by omega)
  have K := VM_TrM R hp ht h
  obtain ⟨b, s1, t1, c, m, Ro, RF, F1, F2⟩ := seen_one (s := s) (t := t) (P := Pv σ p th v) hs.2.1 h.2.1 (VM_V1 R hp ht hv h) (by rw [e1, h.1 _ _ (by omega)]; exact hm.2.2) hs.2.2 (by rw [e1]; exact K) (RSs_fr R.2.1 (hs.1 _ _ (by omega)) (fun k => hs.1 _ _ (by omega)) (fun k => hs.1 _ _ (by omega)) (fun j q => h.1 _ _ (by omega)))
  refine ⟨b, s1, t1, c, m, ⟨fun c j q => by rw [F1 _ _ (by omega)]; exact hs.1 _ _ q, Ro, fun q u a b c d => by rw [F1 _ _ (by omega)]; exact hs.2.2 q u a b c d⟩, fun c j q => by rw [F2 _ _ (by omega)]; exact h.1 _ _ q, RF, by rw [F2 _ _ (by omega)]; exact h.2.2⟩
noncomputable def FB (τ : zM) (p th v : Int) : Bool := @decide (∃ t1, zcall 172 [vR 60] (zU τ 61 (29 + 6 * p + th) v) = some (some (vI 1), t1)) (Classical.propDecidable _)
theorem VM_0 {τ : zM} {p th : Int} (v : Int) (hF : Fl τ) : VM τ p th v (zU τ 61 (29 + 6 * p + th) v) := ⟨fun c j h => zU_ow _ _ _ _ _ _ (by omega), Fl_o hF (by omega), zU_eq _ _ _ _⟩
theorem VM_set {τ t : zM} {p th w : Int} (v : Int) (h : VM τ p th w t) : VM τ p th v (zU t 61 (29 + 6 * p + th) v) := ⟨fun c j q => by rw [zU_ow _ _ _ _ _ _ (by omega)]; exact h.1 c j q, Fl_o h.2.1 (by omega), zU_eq _ _ _ _⟩
theorem VC_set {σ s : zM} {p th w v : Int} (hp : 0 ≤ p ∧ p < 4) (hv : 0 ≤ v ∧ v ≤ 99) (h : VC σ p th w s) : VC σ p th v (zU s (41 + p) th v) := by
  refine ⟨fun c j q => by rw [zU_ow _ _ _ _ _ _ (by omega)]; exact h.1 c j q, fun u a b => by rw [zU_ow _ _ _ _ _ _ (by omega)]; exact h.2.1 u a b, fun q u a b c d => ?_⟩
  have k := h.2.2 q u a b c d
  unfold Pv at k ⊢
  by_cases e : q = p ∧ u = th
  · rw [if_pos e, e.1, e.2, zU_eq]
    exact ⟨rfl, hv⟩
  · rw [if_neg e] at k ⊢
    rw [zU_ow _ _ _ _ _ _ (by omega)]
    exact k
theorem cpP_tr {σ : zM} {q u : Int} (hq : 0 ≤ q ∧ q < 4) (hu : 0 ≤ u ∧ u < 6) : cpP σ 2 40 (41 + q) u = σ (3 + q) u := by
  have h := cpP_in σ 2 40 q u (by omega) hq hu
  rw [show (40 : Int) + 1 + q = 41 + q by omega, show (2 : Int) + 1 + q = 3 + q by omega] at h
  exact h
theorem VC_cp {σ τ : zM} {p th : Int} (R : Rel1 σ τ) (ho : Ow6 σ) : VC σ p th (σ (3 + p) th) (cpP σ 2 40) := by
  refine ⟨fun c j q => cpP_nc _ _ _ _ _ (by omega), fun u a b => by rw [cpP_nc _ _ _ _ _ (by omega)]; exact ho u a b, fun q u a b c d => ?_⟩
  rw [cpP_tr ⟨a, b⟩ ⟨c, d⟩]
  have k := R.ptr q u a b c d
  unfold Pv
  split
  · rename_i e
    rw [e.1, e.2] at k ⊢
    exact ⟨rfl, k⟩
  · exact ⟨rfl, k⟩
theorem fit_c {σ τ s : zM} {p th v : Int} (R : Rel1 σ τ) (hF : Fl τ) (hp : 0 ≤ p ∧ p < 4) (ht : 0 ≤ th ∧ th < σ 1 1) (hv : 0 ≤ v ∧ v ≤ 99) (hs : VC σ p th v s) : ∃ s1, zcall 103 [vR 0] s = some (some (vI (if FB τ p th v = true then 1 else 0)), s1) ∧ VC σ p th v s1 := by
  obtain ⟨b, s1, t1, c, m, C1, M1⟩ := fit_ex R hp ht hv hs (VM_0 v hF)
  have e : FB τ p th v = b := by
    unfold FB
    cases b with
    | true => exact @decide_eq_true _ (Classical.propDecidable _) ⟨t1, m⟩
    | false =>
      refine @decide_eq_false _ (Classical.propDecidable _) ?_
      rintro ⟨t2, m2⟩
      rw [m] at m2
      have h3 := congrArg (fun x => match x with | some (some (_, (w : Int)), (_ : zM)) => w | _ => 2) m2
      simp at h3
  rw [e]
  exact ⟨s1, c, C1⟩
theorem fit_m {σ τ t : zM} {p th v : Int} (R : Rel1 σ τ) (ho : Ow6 σ) (hF : Fl τ) (hp : 0 ≤ p ∧ p < 4) (ht : 0 ≤ th ∧ th < σ 1 1) (hv : 0 ≤ v ∧ v ≤ 99) (h : VM τ p th v t) : ∃ t1, zcall 172 [vR 60] t = some (some (vI (if FB τ p th v = true then 1 else 0)), t1) ∧ VM τ p th v t1 := by
  have hs : VC σ p th v (zU (cpP σ 2 40) (41 + p) th v) := VC_set hp hv (VC_cp R ho)
  obtain ⟨b, s1, t1, c, m, C1, M1⟩ := fit_ex R hp ht hv hs h
  obtain ⟨s2, c2, C2⟩ := fit_c R hF hp ht hv hs
  rw [c] at c2
  have e : (if b = true then (1 : Int) else 0) = (if FB τ p th v = true then 1 else 0) := by
    injection c2 with c2
    injection c2 with c3 c4
    injection c3 with c5
    injection c5
  rw [e] at m
  exact ⟨t1, m, M1⟩
theorem fstN_snoc {B : Int → Bool} : ∀ (n : Nat) (j : Int), 0 ≤ j → fstN B j (n + 1) = if 0 ≤ fstN B j n then fstN B j n else if B (j + n) = true then j + n else -1
  | 0, j, h => by
    show (if B j = true then j else fstN B (j + 1) 0) = _
    rw [show fstN B (j + 1) 0 = -1 from rfl, show fstN B j 0 = -1 from rfl, if_neg (show ¬ (0 : Int) ≤ -1 by decide), show j + ((0 : Nat) : Int) = j by omega]
  | n + 1, j, h => by
    have ih := fstN_snoc (B := B) n (j + 1) (by omega)
    rw [fstN]
    by_cases q : B j = true
    · rw [if_pos q, fstN, if_pos q, if_pos h]
    · rw [if_neg q, ih, fstN, if_neg q, show j + 1 + (n : Int) = j + ((n + 1 : Nat) : Int) by omega]
theorem cntI_snoc {B : Int → Bool} : ∀ (n : Nat) (j : Int), cntI B j (n + 1) = cntI B j n + (if B (j + n) = true then 1 else 0)
  | 0, j => by
    show (if B j = true then 1 else 0) + cntI B (j + 1) 0 = _
    rw [show cntI B (j + 1) 0 = 0 from rfl, show cntI B j 0 = 0 from rfl, show j + ((0 : Nat) : Int) = j by omega]
    omega
  | n + 1, j => by
    have ih := cntI_snoc (B := B) n (j + 1)
    rw [cntI, ih, cntI, show j + 1 + (n : Int) = j + ((n + 1 : Nat) : Int) by omega]
    omega
def flU (B : Int → Bool) : Int → Int → Int → Nat → Int
  | _, l, _, 0 => l
  | m, l, v, n + 1 => if B v = true then flU B (m + 1) (if m = 0 then v else l) (v + 1) n else flU B m l (v + 1) n
def flD (B : Int → Bool) : Int → Int → Nat → Int
  | l, _, 0 => l
  | l, v, n + 1 => flD B (if B v = true then v else l) (v + -1) n
theorem flU_pos {B : Int → Bool} : ∀ (n : Nat) (m l v : Int), 0 < m → flU B m l v n = l
  | 0, m, l, v, h => rfl
  | n + 1, m, l, v, h => by
    rw [flU, if_neg (show ¬ m = 0 by omega), flU_pos n _ _ _ (by omega), flU_pos n _ _ _ h]
    split <;> rfl
theorem flU_0 {B : Int → Bool} : ∀ (n : Nat) (l v : Int), 0 ≤ v → flU B 0 l v n = if 0 ≤ fstN B v n then fstN B v n else l
  | 0, l, v, h => by rw [flU, fstN, if_neg (by omega)]
  | n + 1, l, v, h => by
    rw [flU, fstN, if_pos rfl]
    by_cases q : B v = true
    · rw [if_pos q, if_pos q, flU_pos n _ _ _ (by omega), if_pos h]
    · rw [if_neg q, if_neg q, flU_0 n l (v + 1) (by omega)]
theorem flD_0 {B : Int → Bool} : ∀ (n : Nat) (l v : Int), n ≤ v + 1 → flD B l v n = if 0 ≤ fstN B (v + 1 - n) n then fstN B (v + 1 - n) n else l
  | 0, l, v, h => by rw [flD, fstN, if_neg (by omega)]
  | n + 1, l, v, h => by
    rw [flD, flD_0 n _ (v + -1) (by omega), show v + -1 + 1 - (n : Int) = v + 1 - ((n + 1 : Nat) : Int) by omega, fstN_snoc n _ (by omega), show v + 1 - ((n + 1 : Nat) : Int) + (n : Int) = v by omega]
    by_cases q : 0 ≤ fstN B (v + 1 - ((n + 1 : Nat) : Int)) n
    · rw [if_pos q, if_pos q, if_pos q]
    · rw [if_neg q, if_neg q]
      by_cases q2 : B v = true
      · rw [if_pos q2, if_pos q2, if_pos (by omega)]
      · rw [if_neg q2, if_neg q2, if_neg (by omega)]
set_option maxRecDepth 20000 in
set_option maxHeartbeats 4000000 in
theorem c_ft_loop {σ τ : zM} {p th w : Int} (R : Rel1 σ τ) (hF : Fl τ) (hp : 0 ≤ p ∧ p ≤ 1) (ht : 0 ≤ th ∧ th < σ 1 1) : ∀ (n : Nat) (v mn l : Int) (s : zM), 0 ≤ v → v + n = 21 → 0 ≤ mn → mn ≤ v → (∃ v0, VC σ p th v0 s) → ∃ s1, (∃ v0, VC σ p th v0 s1) ∧ zres 70 C_X6_fits_52 [vR 0, vI p, vI th, vI w, vI mn, vI l, vI v] [] s = zres 70 C_X6_fits_94 [vR 0, vI p, vI th, vI w, vI (mn + cntI (FB τ p th) v n), vI (flU (FB τ p th) mn l v n), vI 21] [] s1 := by
  have hm := R.m
  intro n
  induction n with
  | zero =>
    intro v mn l s hv hn h1 h2 hs
    have e : v = 21 := by omega
    subst e
    refine ⟨s, hs, ?_⟩
    rw [U_X6_fits_52, cntI, flU, Int.add_zero]
    simp (disch := first | exact z_tt rfl | assumption | omega | (simp (disch := omega) only [zU_eq, zU_nc, zU_nj]; omega)) only [↓L_ild_n1, ↓r_iflt_t, ↓r_iflt_f, ↓J_X6_fits_26, ↓r_iconst, ↓r_icgt_t, ↓r_icgt_f, ↓L_ald_n0, ↓L_ild_n2, ↓I_X6_isThing_0, ↓r_ifeq_t, ↓r_ifeq_f, ↓L_ild_n3, ↓r_icle_t, ↓r_icle_f, ↓J_X6_fits_28, ↓r_ireturn, ↓F_g0_0, ↓F_g1_2, ↓F_g17_2, ↓F_g0_5, ↓I_X6_copyPoints, ↓L_ist4, ↓L_ist4L, ↓r_bipush, ↓L_ist5, ↓L_ist5L, ↓L_ist6, ↓L_ist6L, ↓L_ild6, ↓J_X6_fits_94, ↓A_a2, ↓A_a18, ↓A_a40, ↓A_a47, ↓A_p3, ↓A_p4, ↓A_p5, ↓A_p6, ↓A_p7, ↓A_p9, ↓A_p10, ↓A_p12, ↓A_p13, ↓A_p15, ↓A_p16, ↓A_p19, ↓A_p20, ↓A_p21, ↓A_p22, ↓A_p23, ↓A_p25, ↓A_p26, ↓A_p28, ↓A_p29, ↓A_p31, ↓A_p32, ↓A_p34, ↓A_p36, ↓A_p37, ↓A_p38, ↓A_p39, ↓A_p41, ↓A_p42, ↓A_p43, ↓A_p44, ↓A_p61, ↓A_p62, ↓A_p63, ↓A_p65, ↓A_p66, ↓A_p67, ↓A_p68, ↓A_p69, ↓A_p70, ↓A_pN, ↓A_pT, ↓I_X6_triedFitsSeen_0, ↓J_X6_fits_88, ↓L_ild4, ↓r_ifne_t, ↓r_ifne_f, ↓J_X6_fits_85, ↓L_iinc4, ↓L_iinc6, ↓r_goto, ↓J_X6_fits_52, ↓J_X6_fits_103, ↓J_X6_fits_105, ↓L_ild5, ↓U_X6_fits_0, ↓U_X6_fits_26, ↓U_X6_fits_28, ↓U_X6_fits_85, ↓U_X6_fits_88, ↓U_X6_fits_103, ↓U_X6_fits_105, ↓zthen_v, ↓zthen_0, zU_eq, zU_nc, zU_nj]
  | succ n ih =>
    intro v mn l s hv hn h1 h2 hs
    obtain ⟨v0, hs⟩ := hs
    obtain ⟨s1, c1, C1⟩ := fit_c R hF (by omega) ht (v := v) (by omega) (VC_set (v := v) (by omega) (by omega) hs)
    rw [U_X6_fits_52, cntI, flU]
    by_cases q : FB τ p th v = true
    · rw [if_pos q] at c1
      rw [if_pos q, if_pos q]
      by_cases q2 : mn = 0
      · subst q2
        obtain ⟨s2, C2, E⟩ := ih (v + 1) (0 + 1) v s1 (by omega) (by omega) (by omega) (by omega) ⟨v, C1⟩
        refine ⟨s2, C2, ?_⟩
        rw [if_pos rfl, ← Int.add_assoc, ← E]
        simp (disch := first | exact z_tt rfl | assumption | omega | (simp (disch := omega) only [zU_eq, zU_nc, zU_nj]; omega)) only [↓L_ild_n1, ↓r_iflt_t, ↓r_iflt_f, ↓J_X6_fits_26, ↓r_iconst, ↓r_icgt_t, ↓r_icgt_f, ↓L_ald_n0, ↓L_ild_n2, ↓I_X6_isThing_0, ↓r_ifeq_t, ↓r_ifeq_f, ↓L_ild_n3, ↓r_icle_t, ↓r_icle_f, ↓J_X6_fits_28, ↓r_ireturn, ↓F_g0_0, ↓F_g1_2, ↓F_g17_2, ↓F_g0_5, ↓I_X6_copyPoints, ↓L_ist4, ↓L_ist4L, ↓r_bipush, ↓L_ist5, ↓L_ist5L, ↓L_ist6, ↓L_ist6L, ↓L_ild6, ↓J_X6_fits_94, ↓A_a2, ↓A_a18, ↓A_a40, ↓A_a47, ↓A_p3, ↓A_p4, ↓A_p5, ↓A_p6, ↓A_p7, ↓A_p9, ↓A_p10, ↓A_p12, ↓A_p13, ↓A_p15, ↓A_p16, ↓A_p19, ↓A_p20, ↓A_p21, ↓A_p22, ↓A_p23, ↓A_p25, ↓A_p26, ↓A_p28, ↓A_p29, ↓A_p31, ↓A_p32, ↓A_p34, ↓A_p36, ↓A_p37, ↓A_p38, ↓A_p39, ↓A_p41, ↓A_p42, ↓A_p43, ↓A_p44, ↓A_p61, ↓A_p62, ↓A_p63, ↓A_p65, ↓A_p66, ↓A_p67, ↓A_p68, ↓A_p69, ↓A_p70, ↓A_pN, ↓A_pT, ↓I_X6_triedFitsSeen_0, ↓J_X6_fits_88, ↓L_ild4, ↓r_ifne_t, ↓r_ifne_f, ↓J_X6_fits_85, ↓L_iinc4, ↓L_iinc6, ↓r_goto, ↓J_X6_fits_52, ↓J_X6_fits_103, ↓J_X6_fits_105, ↓L_ild5, ↓U_X6_fits_0, ↓U_X6_fits_26, ↓U_X6_fits_28, ↓U_X6_fits_85, ↓U_X6_fits_88, ↓U_X6_fits_103, ↓U_X6_fits_105, ↓zthen_v, ↓zthen_0, zU_eq, zU_nc, zU_nj, c1]
      · obtain ⟨s2, C2, E⟩ := ih (v + 1) (mn + 1) l s1 (by omega) (by omega) (by omega) (by omega) ⟨v, C1⟩
        refine ⟨s2, C2, ?_⟩
        rw [if_neg q2, ← Int.add_assoc, ← E]
        simp (disch := first | exact z_tt rfl | assumption | omega | (simp (disch := omega) only [zU_eq, zU_nc, zU_nj]; omega)) only [↓L_ild_n1, ↓r_iflt_t, ↓r_iflt_f, ↓J_X6_fits_26, ↓r_iconst, ↓r_icgt_t, ↓r_icgt_f, ↓L_ald_n0, ↓L_ild_n2, ↓I_X6_isThing_0, ↓r_ifeq_t, ↓r_ifeq_f, ↓L_ild_n3, ↓r_icle_t, ↓r_icle_f, ↓J_X6_fits_28, ↓r_ireturn, ↓F_g0_0, ↓F_g1_2, ↓F_g17_2, ↓F_g0_5, ↓I_X6_copyPoints, ↓L_ist4, ↓L_ist4L, ↓r_bipush, ↓L_ist5, ↓L_ist5L, ↓L_ist6, ↓L_ist6L, ↓L_ild6, ↓J_X6_fits_94, ↓A_a2, ↓A_a18, ↓A_a40, ↓A_a47, ↓A_p3, ↓A_p4, ↓A_p5, ↓A_p6, ↓A_p7, ↓A_p9, ↓A_p10, ↓A_p12, ↓A_p13, ↓A_p15, ↓A_p16, ↓A_p19, ↓A_p20, ↓A_p21, ↓A_p22, ↓A_p23, ↓A_p25, ↓A_p26, ↓A_p28, ↓A_p29, ↓A_p31, ↓A_p32, ↓A_p34, ↓A_p36, ↓A_p37, ↓A_p38, ↓A_p39, ↓A_p41, ↓A_p42, ↓A_p43, ↓A_p44, ↓A_p61, ↓A_p62, ↓A_p63, ↓A_p65, ↓A_p66, ↓A_p67, ↓A_p68, ↓A_p69, ↓A_p70, ↓A_pN, ↓A_pT, ↓I_X6_triedFitsSeen_0, ↓J_X6_fits_88, ↓L_ild4, ↓r_ifne_t, ↓r_ifne_f, ↓J_X6_fits_85, ↓L_iinc4, ↓L_iinc6, ↓r_goto, ↓J_X6_fits_52, ↓J_X6_fits_103, ↓J_X6_fits_105, ↓L_ild5, ↓U_X6_fits_0, ↓U_X6_fits_26, ↓U_X6_fits_28, ↓U_X6_fits_85, ↓U_X6_fits_88, ↓U_X6_fits_103, ↓U_X6_fits_105, ↓zthen_v, ↓zthen_0, zU_eq, zU_nc, zU_nj, c1]
    · rw [if_neg q] at c1
      rw [if_neg q, if_neg q, Int.zero_add]
      obtain ⟨s2, C2, E⟩ := ih (v + 1) mn l s1 (by omega) (by omega) (by omega) (by omega) ⟨v, C1⟩
      refine ⟨s2, C2, ?_⟩
      rw [← E]
      simp (disch := first | exact z_tt rfl | assumption | omega | (simp (disch := omega) only [zU_eq, zU_nc, zU_nj]; omega)) only [↓L_ild_n1, ↓r_iflt_t, ↓r_iflt_f, ↓J_X6_fits_26, ↓r_iconst, ↓r_icgt_t, ↓r_icgt_f, ↓L_ald_n0, ↓L_ild_n2, ↓I_X6_isThing_0, ↓r_ifeq_t, ↓r_ifeq_f, ↓L_ild_n3, ↓r_icle_t, ↓r_icle_f, ↓J_X6_fits_28, ↓r_ireturn, ↓F_g0_0, ↓F_g1_2, ↓F_g17_2, ↓F_g0_5, ↓I_X6_copyPoints, ↓L_ist4, ↓L_ist4L, ↓r_bipush, ↓L_ist5, ↓L_ist5L, ↓L_ist6, ↓L_ist6L, ↓L_ild6, ↓J_X6_fits_94, ↓A_a2, ↓A_a18, ↓A_a40, ↓A_a47, ↓A_p3, ↓A_p4, ↓A_p5, ↓A_p6, ↓A_p7, ↓A_p9, ↓A_p10, ↓A_p12, ↓A_p13, ↓A_p15, ↓A_p16, ↓A_p19, ↓A_p20, ↓A_p21, ↓A_p22, ↓A_p23, ↓A_p25, ↓A_p26, ↓A_p28, ↓A_p29, ↓A_p31, ↓A_p32, ↓A_p34, ↓A_p36, ↓A_p37, ↓A_p38, ↓A_p39, ↓A_p41, ↓A_p42, ↓A_p43, ↓A_p44, ↓A_p61, ↓A_p62, ↓A_p63, ↓A_p65, ↓A_p66, ↓A_p67, ↓A_p68, ↓A_p69, ↓A_p70, ↓A_pN, ↓A_pT, ↓I_X6_triedFitsSeen_0, ↓J_X6_fits_88, ↓L_ild4, ↓r_ifne_t, ↓r_ifne_f, ↓J_X6_fits_85, ↓L_iinc4, ↓L_iinc6, ↓r_goto, ↓J_X6_fits_52, ↓J_X6_fits_103, ↓J_X6_fits_105, ↓L_ild5, ↓U_X6_fits_0, ↓U_X6_fits_26, ↓U_X6_fits_28, ↓U_X6_fits_85, ↓U_X6_fits_88, ↓U_X6_fits_103, ↓U_X6_fits_105, ↓zthen_v, ↓zthen_0, zU_eq, zU_nc, zU_nj, c1]
set_option maxRecDepth 20000 in
set_option maxHeartbeats 4000000 in
theorem m_ft_loop {σ τ : zM} {p th w was : Int} (R : Rel1 σ τ) (ho : Ow6 σ) (hF : Fl τ) (hp : 0 ≤ p ∧ p ≤ 1) (ht : 0 ≤ th ∧ th < σ 1 1) : ∀ (n : Nat) (v mn l : Int) (t : zM), v + 1 = n → n ≤ 21 → (∃ v0, VM τ p th v0 t) → ∃ t1, (∃ v0, VM τ p th v0 t1) ∧ zres 173 C_X7_fits_61 [vR 60, vI p, vI th, vI w, vI (29 + 6 * p + th), vI was, vI mn, vI l, vI v] [] t = zres 173 C_X7_fits_95 [vR 60, vI p, vI th, vI w, vI (29 + 6 * p + th), vI was, vI (mn + cntI (FB τ p th) 0 n), vI (flD (FB τ p th) l v n), vI (-1)] [] t1 := by
  have hm := R.m
  intro n
  induction n with
  | zero =>
    intro v mn l t hv hn hs
    have e : v = -1 := by omega
    subst e
    refine ⟨t, hs, ?_⟩
    rw [U_X7_fits_61, cntI, flD, Int.add_zero]
    simp (disch := first | exact z_tt rfl | assumption | omega | (simp (disch := omega) only [zU_eq, zU_nc, zU_nj]; omega)) only [↓L_ild_n1, ↓r_i2l, ↓r_lconst, ↓I_X7_in, ↓r_ifeq_t, ↓r_ifeq_f, ↓J_X7_fits_28, ↓L_ald_n0, ↓L_ild_n2, ↓I_X7_isThing_60, ↓L_ild_n3, ↓r_ifne_t, ↓r_ifne_f, ↓J_X7_fits_30, ↓r_iconst, ↓r_ireturn, ↓r_bipush, ↓r_imul, ↓r_iadd, ↓L_ist4, ↓L_ist4L, ↓F_g60_0, ↓L_ild4, ↓A_g3, ↓A_g4, ↓A_g5, ↓A_g6, ↓A_g7, ↓A_g9, ↓A_g10, ↓A_g12, ↓A_g13, ↓A_g15, ↓A_g16, ↓A_g19, ↓A_g20, ↓A_g21, ↓A_g22, ↓A_g23, ↓A_g25, ↓A_g26, ↓A_g28, ↓A_g29, ↓A_g31, ↓A_g32, ↓A_g34, ↓A_g36, ↓A_g37, ↓A_g38, ↓A_g39, ↓A_g41, ↓A_g42, ↓A_g43, ↓A_g44, ↓A_g61, ↓A_g62, ↓A_g63, ↓A_g65, ↓A_g66, ↓A_g67, ↓A_g68, ↓A_g69, ↓A_g70, ↓A_gN, ↓A_gT, ↓A_gC, ↓L_ist5, ↓L_ist5L, ↓L_ist6, ↓L_ist6L, ↓L_ist7, ↓L_ist7L, ↓L_ist8, ↓L_ist8L, ↓L_ild8, ↓r_iflt_t, ↓r_iflt_f, ↓J_X7_fits_95, ↓A_p3, ↓A_p4, ↓A_p5, ↓A_p6, ↓A_p7, ↓A_p9, ↓A_p10, ↓A_p12, ↓A_p13, ↓A_p15, ↓A_p16, ↓A_p19, ↓A_p20, ↓A_p21, ↓A_p22, ↓A_p23, ↓A_p25, ↓A_p26, ↓A_p28, ↓A_p29, ↓A_p31, ↓A_p32, ↓A_p34, ↓A_p36, ↓A_p37, ↓A_p38, ↓A_p39, ↓A_p41, ↓A_p42, ↓A_p43, ↓A_p44, ↓A_p61, ↓A_p62, ↓A_p63, ↓A_p65, ↓A_p66, ↓A_p67, ↓A_p68, ↓A_p69, ↓A_p70, ↓A_pN, ↓A_pT, ↓I_X7_isSeenSo_60, ↓J_X7_fits_89, ↓L_iinc6, ↓L_iinc8, ↓r_goto, ↓J_X7_fits_61, ↓L_ild5, ↓J_X7_fits_113, ↓L_ild6, ↓J_X7_fits_115, ↓L_ild7, ↓U_X7_fits_0, ↓U_X7_fits_28, ↓U_X7_fits_30, ↓U_X7_fits_89, ↓U_X7_fits_113, ↓U_X7_fits_115, ↓zthen_v, ↓zthen_0, zU_eq, zU_nc, zU_nj]
  | succ n ih =>
    intro v mn l t hv hn hs
    obtain ⟨v0, hs⟩ := hs
    obtain ⟨t1, m1, M1⟩ := fit_m R ho hF (by omega) ht (v := v) (by omega) (VM_set (v := v) hs)
    rw [U_X7_fits_61, cntI_snoc, flD, Int.zero_add, show (n : Int) = v by omega]
    by_cases q : FB τ p th v = true
    · rw [if_pos q] at m1
      rw [if_pos q, if_pos q]
      obtain ⟨t2, M2, E⟩ := ih (v + -1) (mn + 1) v t1 (by omega) (by omega) ⟨v, M1⟩
      refine ⟨t2, M2, ?_⟩
      rw [show mn + (cntI (FB τ p th) 0 n + 1) = mn + 1 + cntI (FB τ p th) 0 n by omega, ← E]
      simp (disch := first | exact z_tt rfl | assumption | omega | (simp (disch := omega) only [zU_eq, zU_nc, zU_nj]; omega)) only [↓L_ild_n1, ↓r_i2l, ↓r_lconst, ↓I_X7_in, ↓r_ifeq_t, ↓r_ifeq_f, ↓J_X7_fits_28, ↓L_ald_n0, ↓L_ild_n2, ↓I_X7_isThing_60, ↓L_ild_n3, ↓r_ifne_t, ↓r_ifne_f, ↓J_X7_fits_30, ↓r_iconst, ↓r_ireturn, ↓r_bipush, ↓r_imul, ↓r_iadd, ↓L_ist4, ↓L_ist4L, ↓F_g60_0, ↓L_ild4, ↓A_g3, ↓A_g4, ↓A_g5, ↓A_g6, ↓A_g7, ↓A_g9, ↓A_g10, ↓A_g12, ↓A_g13, ↓A_g15, ↓A_g16, ↓A_g19, ↓A_g20, ↓A_g21, ↓A_g22, ↓A_g23, ↓A_g25, ↓A_g26, ↓A_g28, ↓A_g29, ↓A_g31, ↓A_g32, ↓A_g34, ↓A_g36, ↓A_g37, ↓A_g38, ↓A_g39, ↓A_g41, ↓A_g42, ↓A_g43, ↓A_g44, ↓A_g61, ↓A_g62, ↓A_g63, ↓A_g65, ↓A_g66, ↓A_g67, ↓A_g68, ↓A_g69, ↓A_g70, ↓A_gN, ↓A_gT, ↓A_gC, ↓L_ist5, ↓L_ist5L, ↓L_ist6, ↓L_ist6L, ↓L_ist7, ↓L_ist7L, ↓L_ist8, ↓L_ist8L, ↓L_ild8, ↓r_iflt_t, ↓r_iflt_f, ↓J_X7_fits_95, ↓A_p3, ↓A_p4, ↓A_p5, ↓A_p6, ↓A_p7, ↓A_p9, ↓A_p10, ↓A_p12, ↓A_p13, ↓A_p15, ↓A_p16, ↓A_p19, ↓A_p20, ↓A_p21, ↓A_p22, ↓A_p23, ↓A_p25, ↓A_p26, ↓A_p28, ↓A_p29, ↓A_p31, ↓A_p32, ↓A_p34, ↓A_p36, ↓A_p37, ↓A_p38, ↓A_p39, ↓A_p41, ↓A_p42, ↓A_p43, ↓A_p44, ↓A_p61, ↓A_p62, ↓A_p63, ↓A_p65, ↓A_p66, ↓A_p67, ↓A_p68, ↓A_p69, ↓A_p70, ↓A_pN, ↓A_pT, ↓I_X7_isSeenSo_60, ↓J_X7_fits_89, ↓L_iinc6, ↓L_iinc8, ↓r_goto, ↓J_X7_fits_61, ↓L_ild5, ↓J_X7_fits_113, ↓L_ild6, ↓J_X7_fits_115, ↓L_ild7, ↓U_X7_fits_0, ↓U_X7_fits_28, ↓U_X7_fits_30, ↓U_X7_fits_89, ↓U_X7_fits_113, ↓U_X7_fits_115, ↓zthen_v, ↓zthen_0, zU_eq, zU_nc, zU_nj, m1]
    · rw [if_neg q] at m1
      rw [if_neg q, if_neg q, Int.add_zero]
      obtain ⟨t2, M2, E⟩ := ih (v + -1) mn l t1 (by omega) (by omega) ⟨v, M1⟩
      refine ⟨t2, M2, ?_⟩
      rw [← E]
      simp (disch := first | exact z_tt rfl | assumption | omega | (simp (disch := omega) only [zU_eq, zU_nc, zU_nj]; omega)) only [↓L_ild_n1, ↓r_i2l, ↓r_lconst, ↓I_X7_in, ↓r_ifeq_t, ↓r_ifeq_f, ↓J_X7_fits_28, ↓L_ald_n0, ↓L_ild_n2, ↓I_X7_isThing_60, ↓L_ild_n3, ↓r_ifne_t, ↓r_ifne_f, ↓J_X7_fits_30, ↓r_iconst, ↓r_ireturn, ↓r_bipush, ↓r_imul, ↓r_iadd, ↓L_ist4, ↓L_ist4L, ↓F_g60_0, ↓L_ild4, ↓A_g3, ↓A_g4, ↓A_g5, ↓A_g6, ↓A_g7, ↓A_g9, ↓A_g10, ↓A_g12, ↓A_g13, ↓A_g15, ↓A_g16, ↓A_g19, ↓A_g20, ↓A_g21, ↓A_g22, ↓A_g23, ↓A_g25, ↓A_g26, ↓A_g28, ↓A_g29, ↓A_g31, ↓A_g32, ↓A_g34, ↓A_g36, ↓A_g37, ↓A_g38, ↓A_g39, ↓A_g41, ↓A_g42, ↓A_g43, ↓A_g44, ↓A_g61, ↓A_g62, ↓A_g63, ↓A_g65, ↓A_g66, ↓A_g67, ↓A_g68, ↓A_g69, ↓A_g70, ↓A_gN, ↓A_gT, ↓A_gC, ↓L_ist5, ↓L_ist5L, ↓L_ist6, ↓L_ist6L, ↓L_ist7, ↓L_ist7L, ↓L_ist8, ↓L_ist8L, ↓L_ild8, ↓r_iflt_t, ↓r_iflt_f, ↓J_X7_fits_95, ↓A_p3, ↓A_p4, ↓A_p5, ↓A_p6, ↓A_p7, ↓A_p9, ↓A_p10, ↓A_p12, ↓A_p13, ↓A_p15, ↓A_p16, ↓A_p19, ↓A_p20, ↓A_p21, ↓A_p22, ↓A_p23, ↓A_p25, ↓A_p26, ↓A_p28, ↓A_p29, ↓A_p31, ↓A_p32, ↓A_p34, ↓A_p36, ↓A_p37, ↓A_p38, ↓A_p39, ↓A_p41, ↓A_p42, ↓A_p43, ↓A_p44, ↓A_p61, ↓A_p62, ↓A_p63, ↓A_p65, ↓A_p66, ↓A_p67, ↓A_p68, ↓A_p69, ↓A_p70, ↓A_pN, ↓A_pT, ↓I_X7_isSeenSo_60, ↓J_X7_fits_89, ↓L_iinc6, ↓L_iinc8, ↓r_goto, ↓J_X7_fits_61, ↓L_ild5, ↓J_X7_fits_113, ↓L_ild6, ↓J_X7_fits_115, ↓L_ild7, ↓U_X7_fits_0, ↓U_X7_fits_28, ↓U_X7_fits_30, ↓U_X7_fits_89, ↓U_X7_fits_113, ↓U_X7_fits_115, ↓zthen_v, ↓zthen_0, zU_eq, zU_nc, zU_nj, m1]
def SameT (k : Int → zV) (σ τ : zM) (xc xm : Option (Option zV × zM)) : Prop := ∃ r σ1 τ1, xc = some (some (k r), σ1) ∧ xm = some (some (k r), τ1) ∧ RelA σ1 τ1 ∧ FrT σ σ1 ∧ FrB τ τ1
theorem SameT_id {k : Int → zV} {σ τ : zM} {xc xm : Option (Option zV × zM)} (R : RelA σ τ) (r : Int) (h1 : xc = some (some (k r), σ)) (h2 : xm = some (some (k r), τ)) : SameT k σ τ xc xm := ⟨r, σ, τ, h1, h2, R, fun _ _ _ => rfl, fun _ _ _ => rfl⟩
theorem VM_back {τ t : zM} {p th v : Int} (h : VM τ p th v t) : Fl (zU t 61 (29 + 6 * p + th) (τ 61 (29 + 6 * p + th))) ∧ FrB τ (zU t 61 (29 + 6 * p + th) (τ 61 (29 + 6 * p + th))) ∧ (∀ j, zU t 61 (29 + 6 * p + th) (τ 61 (29 + 6 * p + th)) 61 j = τ 61 j) := by
  have k : ∀ j, zU t 61 (29 + 6 * p + th) (τ 61 (29 + 6 * p + th)) 61 j = τ 61 j := fun j => by
    by_cases e : j = 29 + 6 * p + th
    · rw [e, zU_eq]
    · rw [zU_ow _ _ _ _ _ _ (by omega)]; exact h.1 _ _ (by omega)
  refine ⟨Fl_o h.2.1 (by omega), fun c j q => ?_, k⟩
  by_cases e : c = 61
  · subst e; exact k j
  · rw [zU_ow _ _ _ _ _ _ (by omega)]; exact h.1 _ _ (by omega)
set_option maxRecDepth 20000 in
set_option maxHeartbeats 4000000 in
theorem op_fits {σ τ : zM} {p th w : Int} (RR : RelA σ τ) (hp : -2147483648 ≤ p ∧ p < 2147483648) (ht : -2147483648 ≤ th ∧ th < 2147483648) (hw : -2147483648 ≤ w ∧ w < 2147483648) : SameT vI σ τ (zcall 70 [vR 0, vI p, vI th, vI w] σ) (zcall 173 [vR 60, vI p, vI th, vI w] τ) := by
  have R := RR.1
  have hn := R.n
  have hm := R.m
  by_cases q1 : 0 ≤ p ∧ p ≤ 1
  · have m1 := m_in_t (σ := τ) (v := p) (lo := 0) (hi := 1) (by omega)
    by_cases q2 : 0 ≤ th ∧ th < σ 1 1
    · have c2 := c_X6_isThing_t (σ := σ) (p := th) q2 (by omega)
      have m2 := m_isThing_t (σ := τ) (p := th) (by omega) (by omega)
      by_cases q3 : 0 ≤ w ∧ w ≤ 1
      · have m3 := m_in_t (σ := τ) (v := w) (lo := 0) (hi := 1) (by omega)
        obtain ⟨s1, ⟨v1, C1⟩, E1⟩ := c_ft_loop (w := w) R RR.2.2 q1 q2 21 0 0 (-5) (cpP σ 2 40) (by omega) (by omega) (by omega) (by omega) ⟨_, VC_cp R RR.2.1⟩
        obtain ⟨t1, ⟨v2, M1⟩, E2⟩ := m_ft_loop (w := w) (was := τ 61 (29 + 6 * p + th)) R RR.2.1 RR.2.2 q1 q2 21 20 0 (-5) τ (by omega) (by omega) ⟨_, ⟨fun _ _ _ => rfl, RR.2.2, rfl⟩⟩
        have e : flD (FB τ p th) (-5) 20 21 = flU (FB τ p th) 0 (-5) 0 21 := by
          rw [flU_0 _ _ _ (by omega), flD_0 _ _ _ (by omega)]
          rfl
        rw [e] at E2
        rw [Int.zero_add] at E1 E2
        have B := VM_back M1
        have cb := cntI_bd (f := FB τ p th) 21 0
        generalize cntI (FB τ p th) 0 21 = K at E1 E2 cb
        generalize flU (FB τ p th) 0 (-5) 0 21 = L at E1 E2
        refine ⟨(if w = 0 then K else L), s1, zU t1 61 (29 + 6 * p + th) (τ 61 (29 + 6 * p + th)), ?_, ?_, ⟨Rel1_fr R (fun c j a b => C1.1 _ _ (by omega)) B.2.2, C1.2.1, B.1⟩, C1.1, B.2.1⟩
        · rw [S_X6_fits]
          simp (disch := first | exact z_tt rfl | assumption | omega | (simp (disch := omega) only [zU_eq, zU_nc, zU_nj]; omega)) only [↓L_ild_n1, ↓r_iflt_t, ↓r_iflt_f, ↓J_X6_fits_26, ↓r_iconst, ↓r_icgt_t, ↓r_icgt_f, ↓L_ald_n0, ↓L_ild_n2, ↓I_X6_isThing_0, ↓r_ifeq_t, ↓r_ifeq_f, ↓L_ild_n3, ↓r_icle_t, ↓r_icle_f, ↓J_X6_fits_28, ↓r_ireturn, ↓F_g0_0, ↓F_g1_2, ↓F_g17_2, ↓F_g0_5, ↓I_X6_copyPoints, ↓L_ist4, ↓L_ist4L, ↓r_bipush, ↓L_ist5, ↓L_ist5L, ↓L_ist6, ↓L_ist6L, ↓L_ild6, ↓J_X6_fits_94, ↓A_a2, ↓A_a18, ↓A_a40, ↓A_a47, ↓A_p3, ↓A_p4, ↓A_p5, ↓A_p6, ↓A_p7, ↓A_p9, ↓A_p10, ↓A_p12, ↓A_p13, ↓A_p15, ↓A_p16, ↓A_p19, ↓A_p20, ↓A_p21, ↓A_p22, ↓A_p23, ↓A_p25, ↓A_p26, ↓A_p28, ↓A_p29, ↓A_p31, ↓A_p32, ↓A_p34, ↓A_p36, ↓A_p37, ↓A_p38, ↓A_p39, ↓A_p41, ↓A_p42, ↓A_p43, ↓A_p44, ↓A_p61, ↓A_p62, ↓A_p63, ↓A_p65, ↓A_p66, ↓A_p67, ↓A_p68, ↓A_p69, ↓A_p70, ↓A_pN, ↓A_pT, ↓I_X6_triedFitsSeen_0, ↓J_X6_fits_88, ↓L_ild4, ↓r_ifne_t, ↓r_ifne_f, ↓J_X6_fits_85, ↓L_iinc4, ↓L_iinc6, ↓r_goto, ↓J_X6_fits_52, ↓J_X6_fits_103, ↓J_X6_fits_105, ↓L_ild5, ↓U_X6_fits_0, ↓U_X6_fits_26, ↓U_X6_fits_28, ↓U_X6_fits_85, ↓U_X6_fits_88, ↓U_X6_fits_103, ↓U_X6_fits_105, ↓zthen_v, ↓zthen_0, zU_eq, zU_nc, zU_nj, c2, c_X6_copyPoints_2_40]
          rw [E1, U_X6_fits_94]
          by_cases q4 : w = 0
          · rw [if_pos q4]
            simp (disch := first | exact z_tt rfl | assumption | omega | (simp (disch := omega) only [zU_eq, zU_nc, zU_nj]; omega)) only [↓L_ild_n1, ↓r_iflt_t, ↓r_iflt_f, ↓J_X6_fits_26, ↓r_iconst, ↓r_icgt_t, ↓r_icgt_f, ↓L_ald_n0, ↓L_ild_n2, ↓I_X6_isThing_0, ↓r_ifeq_t, ↓r_ifeq_f, ↓L_ild_n3, ↓r_icle_t, ↓r_icle_f, ↓J_X6_fits_28, ↓r_ireturn, ↓F_g0_0, ↓F_g1_2, ↓F_g17_2, ↓F_g0_5, ↓I_X6_copyPoints, ↓L_ist4, ↓L_ist4L, ↓r_bipush, ↓L_ist5, ↓L_ist5L, ↓L_ist6, ↓L_ist6L, ↓L_ild6, ↓J_X6_fits_94, ↓A_a2, ↓A_a18, ↓A_a40, ↓A_a47, ↓A_p3, ↓A_p4, ↓A_p5, ↓A_p6, ↓A_p7, ↓A_p9, ↓A_p10, ↓A_p12, ↓A_p13, ↓A_p15, ↓A_p16, ↓A_p19, ↓A_p20, ↓A_p21, ↓A_p22, ↓A_p23, ↓A_p25, ↓A_p26, ↓A_p28, ↓A_p29, ↓A_p31, ↓A_p32, ↓A_p34, ↓A_p36, ↓A_p37, ↓A_p38, ↓A_p39, ↓A_p41, ↓A_p42, ↓A_p43, ↓A_p44, ↓A_p61, ↓A_p62, ↓A_p63, ↓A_p65, ↓A_p66, ↓A_p67, ↓A_p68, ↓A_p69, ↓A_p70, ↓A_pN, ↓A_pT, ↓I_X6_triedFitsSeen_0, ↓J_X6_fits_88, ↓L_ild4, ↓r_ifne_t, ↓r_ifne_f, ↓J_X6_fits_85, ↓L_iinc4, ↓L_iinc6, ↓r_goto, ↓J_X6_fits_52, ↓J_X6_fits_103, ↓J_X6_fits_105, ↓L_ild5, ↓U_X6_fits_0, ↓U_X6_fits_26, ↓U_X6_fits_28, ↓U_X6_fits_85, ↓U_X6_fits_88, ↓U_X6_fits_103, ↓U_X6_fits_105, ↓zthen_v, ↓zthen_0, zU_eq, zU_nc, zU_nj]
          · rw [if_neg q4]
            simp (disch := first | exact z_tt rfl | assumption | omega | (simp (disch := omega) only [zU_eq, zU_nc, zU_nj]; omega)) only [↓L_ild_n1, ↓r_iflt_t, ↓r_iflt_f, ↓J_X6_fits_26, ↓r_iconst, ↓r_icgt_t, ↓r_icgt_f, ↓L_ald_n0, ↓L_ild_n2, ↓I_X6_isThing_0, ↓r_ifeq_t, ↓r_ifeq_f, ↓L_ild_n3, ↓r_icle_t, ↓r_icle_f, ↓J_X6_fits_28, ↓r_ireturn, ↓F_g0_0, ↓F_g1_2, ↓F_g17_2, ↓F_g0_5, ↓I_X6_copyPoints, ↓L_ist4, ↓L_ist4L, ↓r_bipush, ↓L_ist5, ↓L_ist5L, ↓L_ist6, ↓L_ist6L, ↓L_ild6, ↓J_X6_fits_94, ↓A_a2, ↓A_a18, ↓A_a40, ↓A_a47, ↓A_p3, ↓A_p4, ↓A_p5, ↓A_p6, ↓A_p7, ↓A_p9, ↓A_p10, ↓A_p12, ↓A_p13, ↓A_p15, ↓A_p16, ↓A_p19, ↓A_p20, ↓A_p21, ↓A_p22, ↓A_p23, ↓A_p25, ↓A_p26, ↓A_p28, ↓A_p29, ↓A_p31, ↓A_p32, ↓A_p34, ↓A_p36, ↓A_p37, ↓A_p38, ↓A_p39, ↓A_p41, ↓A_p42, ↓A_p43, ↓A_p44, ↓A_p61, ↓A_p62, ↓A_p63, ↓A_p65, ↓A_p66, ↓A_p67, ↓A_p68, ↓A_p69, ↓A_p70, ↓A_pN, ↓A_pT, ↓I_X6_triedFitsSeen_0, ↓J_X6_fits_88, ↓L_ild4, ↓r_ifne_t, ↓r_ifne_f, ↓J_X6_fits_85, ↓L_iinc4, ↓L_iinc6, ↓r_goto, ↓J_X6_fits_52, ↓J_X6_fits_103, ↓J_X6_fits_105, ↓L_ild5, ↓U_X6_fits_0, ↓U_X6_fits_26, ↓U_X6_fits_28, ↓U_X6_fits_85, ↓U_X6_fits_88, ↓U_X6_fits_103, ↓U_X6_fits_105, ↓zthen_v, ↓zthen_0, zU_eq, zU_nc, zU_nj]
        · rw [S_X7_fits]
          simp (disch := first | exact z_tt rfl | assumption | omega | (simp (disch := omega) only [zU_eq, zU_nc, zU_nj]; omega)) only [↓L_ild_n1, ↓r_i2l, ↓r_lconst, ↓I_X7_in, ↓r_ifeq_t, ↓r_ifeq_f, ↓J_X7_fits_28, ↓L_ald_n0, ↓L_ild_n2, ↓I_X7_isThing_60, ↓L_ild_n3, ↓r_ifne_t, ↓r_ifne_f, ↓J_X7_fits_30, ↓r_iconst, ↓r_ireturn, ↓r_bipush, ↓r_imul, ↓r_iadd, ↓L_ist4, ↓L_ist4L, ↓F_g60_0, ↓L_ild4, ↓A_g3, ↓A_g4, ↓A_g5, ↓A_g6, ↓A_g7, ↓A_g9, ↓A_g10, ↓A_g12, ↓A_g13, ↓A_g15, ↓A_g16, ↓A_g19, ↓A_g20, ↓A_g21, ↓A_g22, ↓A_g23, ↓A_g25, ↓A_g26, ↓A_g28, ↓A_g29, ↓A_g31, ↓A_g32, ↓A_g34, ↓A_g36, ↓A_g37, ↓A_g38, ↓A_g39, ↓A_g41, ↓A_g42, ↓A_g43, ↓A_g44, ↓A_g61, ↓A_g62, ↓A_g63, ↓A_g65, ↓A_g66, ↓A_g67, ↓A_g68, ↓A_g69, ↓A_g70, ↓A_gN, ↓A_gT, ↓A_gC, ↓L_ist5, ↓L_ist5L, ↓L_ist6, ↓L_ist6L, ↓L_ist7, ↓L_ist7L, ↓L_ist8, ↓L_ist8L, ↓L_ild8, ↓r_iflt_t, ↓r_iflt_f, ↓J_X7_fits_95, ↓A_p3, ↓A_p4, ↓A_p5, ↓A_p6, ↓A_p7, ↓A_p9, ↓A_p10, ↓A_p12, ↓A_p13, ↓A_p15, ↓A_p16, ↓A_p19, ↓A_p20, ↓A_p21, ↓A_p22, ↓A_p23, ↓A_p25, ↓A_p26, ↓A_p28, ↓A_p29, ↓A_p31, ↓A_p32, ↓A_p34, ↓A_p36, ↓A_p37, ↓A_p38, ↓A_p39, ↓A_p41, ↓A_p42, ↓A_p43, ↓A_p44, ↓A_p61, ↓A_p62, ↓A_p63, ↓A_p65, ↓A_p66, ↓A_p67, ↓A_p68, ↓A_p69, ↓A_p70, ↓A_pN, ↓A_pT, ↓I_X7_isSeenSo_60, ↓J_X7_fits_89, ↓L_iinc6, ↓L_iinc8, ↓r_goto, ↓J_X7_fits_61, ↓L_ild5, ↓J_X7_fits_113, ↓L_ild6, ↓J_X7_fits_115, ↓L_ild7, ↓U_X7_fits_0, ↓U_X7_fits_28, ↓U_X7_fits_30, ↓U_X7_fits_89, ↓U_X7_fits_113, ↓U_X7_fits_115, ↓zthen_v, ↓zthen_0, zU_eq, zU_nc, zU_nj, m1, m2, m3]
          rw [E2, U_X7_fits_95]
          by_cases q4 : w = 0
          · rw [if_pos q4]
            simp (disch := first | exact z_tt rfl | assumption | omega | (simp (disch := omega) only [zU_eq, zU_nc, zU_nj]; omega)) only [↓L_ild_n1, ↓r_i2l, ↓r_lconst, ↓I_X7_in, ↓r_ifeq_t, ↓r_ifeq_f, ↓J_X7_fits_28, ↓L_ald_n0, ↓L_ild_n2, ↓I_X7_isThing_60, ↓L_ild_n3, ↓r_ifne_t, ↓r_ifne_f, ↓J_X7_fits_30, ↓r_iconst, ↓r_ireturn, ↓r_bipush, ↓r_imul, ↓r_iadd, ↓L_ist4, ↓L_ist4L, ↓F_g60_0, ↓L_ild4, ↓A_g3, ↓A_g4, ↓A_g5, ↓A_g6, ↓A_g7, ↓A_g9, ↓A_g10, ↓A_g12, ↓A_g13, ↓A_g15, ↓A_g16, ↓A_g19, ↓A_g20, ↓A_g21, ↓A_g22, ↓A_g23, ↓A_g25, ↓A_g26, ↓A_g28, ↓A_g29, ↓A_g31, ↓A_g32, ↓A_g34, ↓A_g36, ↓A_g37, ↓A_g38, ↓A_g39, ↓A_g41, ↓A_g42, ↓A_g43, ↓A_g44, ↓A_g61, ↓A_g62, ↓A_g63, ↓A_g65, ↓A_g66, ↓A_g67, ↓A_g68, ↓A_g69, ↓A_g70, ↓A_gN, ↓A_gT, ↓A_gC, ↓L_ist5, ↓L_ist5L, ↓L_ist6, ↓L_ist6L, ↓L_ist7, ↓L_ist7L, ↓L_ist8, ↓L_ist8L, ↓L_ild8, ↓r_iflt_t, ↓r_iflt_f, ↓J_X7_fits_95, ↓A_p3, ↓A_p4, ↓A_p5, ↓A_p6, ↓A_p7, ↓A_p9, ↓A_p10, ↓A_p12, ↓A_p13, ↓A_p15, ↓A_p16, ↓A_p19, ↓A_p20, ↓A_p21, ↓A_p22, ↓A_p23, ↓A_p25, ↓A_p26, ↓A_p28, ↓A_p29, ↓A_p31, ↓A_p32, ↓A_p34, ↓A_p36, ↓A_p37, ↓A_p38, ↓A_p39, ↓A_p41, ↓A_p42, ↓A_p43, ↓A_p44, ↓A_p61, ↓A_p62, ↓A_p63, ↓A_p65, ↓A_p66, ↓A_p67, ↓A_p68, ↓A_p69, ↓A_p70, ↓A_pN, ↓A_pT, ↓I_X7_isSeenSo_60, ↓J_X7_fits_89, ↓L_iinc6, ↓L_iinc8, ↓r_goto, ↓J_X7_fits_61, ↓L_ild5, ↓J_X7_fits_113, ↓L_ild6, ↓J_X7_fits_115, ↓L_ild7, ↓U_X7_fits_0, ↓U_X7_fits_28, ↓U_X7_fits_30, ↓U_X7_fits_89, ↓U_X7_fits_113, ↓U_X7_fits_115, ↓zthen_v, ↓zthen_0, zU_eq, zU_nc, zU_nj]
          · rw [if_neg q4]
            simp (disch := first | exact z_tt rfl | assumption | omega | (simp (disch := omega) only [zU_eq, zU_nc, zU_nj]; omega)) only [↓L_ild_n1, ↓r_i2l, ↓r_lconst, ↓I_X7_in, ↓r_ifeq_t, ↓r_ifeq_f, ↓J_X7_fits_28, ↓L_ald_n0, ↓L_ild_n2, ↓I_X7_isThing_60, ↓L_ild_n3, ↓r_ifne_t, ↓r_ifne_f, ↓J_X7_fits_30, ↓r_iconst, ↓r_ireturn, ↓r_bipush, ↓r_imul, ↓r_iadd, ↓L_ist4, ↓L_ist4L, ↓F_g60_0, ↓L_ild4, ↓A_g3, ↓A_g4, ↓A_g5, ↓A_g6, ↓A_g7, ↓A_g9, ↓A_g10, ↓A_g12, ↓A_g13, ↓A_g15, ↓A_g16, ↓A_g19, ↓A_g20, ↓A_g21, ↓A_g22, ↓A_g23, ↓A_g25, ↓A_g26, ↓A_g28, ↓A_g29, ↓A_g31, ↓A_g32, ↓A_g34, ↓A_g36, ↓A_g37, ↓A_g38, ↓A_g39, ↓A_g41, ↓A_g42, ↓A_g43, ↓A_g44, ↓A_g61, ↓A_g62, ↓A_g63, ↓A_g65, ↓A_g66, ↓A_g67, ↓A_g68, ↓A_g69, ↓A_g70, ↓A_gN, ↓A_gT, ↓A_gC, ↓L_ist5, ↓L_ist5L, ↓L_ist6, ↓L_ist6L, ↓L_ist7, ↓L_ist7L, ↓L_ist8, ↓L_ist8L, ↓L_ild8, ↓r_iflt_t, ↓r_iflt_f, ↓J_X7_fits_95, ↓A_p3, ↓A_p4, ↓A_p5, ↓A_p6, ↓A_p7, ↓A_p9, ↓A_p10, ↓A_p12, ↓A_p13, ↓A_p15, ↓A_p16, ↓A_p19, ↓A_p20, ↓A_p21, ↓A_p22, ↓A_p23, ↓A_p25, ↓A_p26, ↓A_p28, ↓A_p29, ↓A_p31, ↓A_p32, ↓A_p34, ↓A_p36, ↓A_p37, ↓A_p38, ↓A_p39, ↓A_p41, ↓A_p42, ↓A_p43, ↓A_p44, ↓A_p61, ↓A_p62, ↓A_p63, ↓A_p65, ↓A_p66, ↓A_p67, ↓A_p68, ↓A_p69, ↓A_p70, ↓A_pN, ↓A_pT, ↓I_X7_isSeenSo_60, ↓J_X7_fits_89, ↓L_iinc6, ↓L_iinc8, ↓r_goto, ↓J_X7_fits_61, ↓L_ild5, ↓J_X7_fits_113, ↓L_ild6, ↓J_X7_fits_115, ↓L_ild7, ↓U_X7_fits_0, ↓U_X7_fits_28, ↓U_X7_fits_30, ↓U_X7_fits_89, ↓U_X7_fits_113, ↓U_X7_fits_115, ↓zthen_v, ↓zthen_0, zU_eq, zU_nc, zU_nj]
      · have m3 := m_in_f (σ := τ) (v := w) (lo := 0) (hi := 1) (by omega)
        refine SameT_id RR (-1) ?_ ?_
        · rw [S_X6_fits]
          by_cases q4 : w < 0
          · simp (disch := first | exact z_tt rfl | assumption | omega | (simp (disch := omega) only [zU_eq, zU_nc, zU_nj]; omega)) only [↓L_ild_n1, ↓r_iflt_t, ↓r_iflt_f, ↓J_X6_fits_26, ↓r_iconst, ↓r_icgt_t, ↓r_icgt_f, ↓L_ald_n0, ↓L_ild_n2, ↓I_X6_isThing_0, ↓r_ifeq_t, ↓r_ifeq_f, ↓L_ild_n3, ↓r_icle_t, ↓r_icle_f, ↓J_X6_fits_28, ↓r_ireturn, ↓F_g0_0, ↓F_g1_2, ↓F_g17_2, ↓F_g0_5, ↓I_X6_copyPoints, ↓L_ist4, ↓L_ist4L, ↓r_bipush, ↓L_ist5, ↓L_ist5L, ↓L_ist6, ↓L_ist6L, ↓L_ild6, ↓J_X6_fits_94, ↓A_a2, ↓A_a18, ↓A_a40, ↓A_a47, ↓A_p3, ↓A_p4, ↓A_p5, ↓A_p6, ↓A_p7, ↓A_p9, ↓A_p10, ↓A_p12, ↓A_p13, ↓A_p15, ↓A_p16, ↓A_p19, ↓A_p20, ↓A_p21, ↓A_p22, ↓A_p23, ↓A_p25, ↓A_p26, ↓A_p28, ↓A_p29, ↓A_p31, ↓A_p32, ↓A_p34, ↓A_p36, ↓A_p37, ↓A_p38, ↓A_p39, ↓A_p41, ↓A_p42, ↓A_p43, ↓A_p44, ↓A_p61, ↓A_p62, ↓A_p63, ↓A_p65, ↓A_p66, ↓A_p67, ↓A_p68, ↓A_p69, ↓A_p70, ↓A_pN, ↓A_pT, ↓I_X6_triedFitsSeen_0, ↓J_X6_fits_88, ↓L_ild4, ↓r_ifne_t, ↓r_ifne_f, ↓J_X6_fits_85, ↓L_iinc4, ↓L_iinc6, ↓r_goto, ↓J_X6_fits_52, ↓J_X6_fits_103, ↓J_X6_fits_105, ↓L_ild5, ↓U_X6_fits_0, ↓U_X6_fits_26, ↓U_X6_fits_28, ↓U_X6_fits_85, ↓U_X6_fits_88, ↓U_X6_fits_94, ↓U_X6_fits_103, ↓U_X6_fits_105, ↓zthen_v, ↓zthen_0, zU_eq, zU_nc, zU_nj, c2]
          · simp (disch := first | exact z_tt rfl | assumption | omega | (simp (disch := omega) only [zU_eq, zU_nc, zU_nj]; omega)) only [↓L_ild_n1, ↓r_iflt_t, ↓r_iflt_f, ↓J_X6_fits_26, ↓r_iconst, ↓r_icgt_t, ↓r_icgt_f, ↓L_ald_n0, ↓L_ild_n2, ↓I_X6_isThing_0, ↓r_ifeq_t, ↓r_ifeq_f, ↓L_ild_n3, ↓r_icle_t, ↓r_icle_f, ↓J_X6_fits_28, ↓r_ireturn, ↓F_g0_0, ↓F_g1_2, ↓F_g17_2, ↓F_g0_5, ↓I_X6_copyPoints, ↓L_ist4, ↓L_ist4L, ↓r_bipush, ↓L_ist5, ↓L_ist5L, ↓L_ist6, ↓L_ist6L, ↓L_ild6, ↓J_X6_fits_94, ↓A_a2, ↓A_a18, ↓A_a40, ↓A_a47, ↓A_p3, ↓A_p4, ↓A_p5, ↓A_p6, ↓A_p7, ↓A_p9, ↓A_p10, ↓A_p12, ↓A_p13, ↓A_p15, ↓A_p16, ↓A_p19, ↓A_p20, ↓A_p21, ↓A_p22, ↓A_p23, ↓A_p25, ↓A_p26, ↓A_p28, ↓A_p29, ↓A_p31, ↓A_p32, ↓A_p34, ↓A_p36, ↓A_p37, ↓A_p38, ↓A_p39, ↓A_p41, ↓A_p42, ↓A_p43, ↓A_p44, ↓A_p61, ↓A_p62, ↓A_p63, ↓A_p65, ↓A_p66, ↓A_p67, ↓A_p68, ↓A_p69, ↓A_p70, ↓A_pN, ↓A_pT, ↓I_X6_triedFitsSeen_0, ↓J_X6_fits_88, ↓L_ild4, ↓r_ifne_t, ↓r_ifne_f, ↓J_X6_fits_85, ↓L_iinc4, ↓L_iinc6, ↓r_goto, ↓J_X6_fits_52, ↓J_X6_fits_103, ↓J_X6_fits_105, ↓L_ild5, ↓U_X6_fits_0, ↓U_X6_fits_26, ↓U_X6_fits_28, ↓U_X6_fits_85, ↓U_X6_fits_88, ↓U_X6_fits_94, ↓U_X6_fits_103, ↓U_X6_fits_105, ↓zthen_v, ↓zthen_0, zU_eq, zU_nc, zU_nj, c2]
        · rw [S_X7_fits]
          simp (disch := first | exact z_tt rfl | assumption | omega | (simp (disch := omega) only [zU_eq, zU_nc, zU_nj]; omega)) only [↓L_ild_n1, ↓r_i2l, ↓r_lconst, ↓I_X7_in, ↓r_ifeq_t, ↓r_ifeq_f, ↓J_X7_fits_28, ↓L_ald_n0, ↓L_ild_n2, ↓I_X7_isThing_60, ↓L_ild_n3, ↓r_ifne_t, ↓r_ifne_f, ↓J_X7_fits_30, ↓r_iconst, ↓r_ireturn, ↓r_bipush, ↓r_imul, ↓r_iadd, ↓L_ist4, ↓L_ist4L, ↓F_g60_0, ↓L_ild4, ↓A_g3, ↓A_g4, ↓A_g5, ↓A_g6, ↓A_g7, ↓A_g9, ↓A_g10, ↓A_g12, ↓A_g13, ↓A_g15, ↓A_g16, ↓A_g19, ↓A_g20, ↓A_g21, ↓A_g22, ↓A_g23, ↓A_g25, ↓A_g26, ↓A_g28, ↓A_g29, ↓A_g31, ↓A_g32, ↓A_g34, ↓A_g36, ↓A_g37, ↓A_g38, ↓A_g39, ↓A_g41, ↓A_g42, ↓A_g43, ↓A_g44, ↓A_g61, ↓A_g62, ↓A_g63, ↓A_g65, ↓A_g66, ↓A_g67, ↓A_g68, ↓A_g69, ↓A_g70, ↓A_gN, ↓A_gT, ↓A_gC, ↓L_ist5, ↓L_ist5L, ↓L_ist6, ↓L_ist6L, ↓L_ist7, ↓L_ist7L, ↓L_ist8, ↓L_ist8L, ↓L_ild8, ↓r_iflt_t, ↓r_iflt_f, ↓J_X7_fits_95, ↓A_p3, ↓A_p4, ↓A_p5, ↓A_p6, ↓A_p7, ↓A_p9, ↓A_p10, ↓A_p12, ↓A_p13, ↓A_p15, ↓A_p16, ↓A_p19, ↓A_p20, ↓A_p21, ↓A_p22, ↓A_p23, ↓A_p25, ↓A_p26, ↓A_p28, ↓A_p29, ↓A_p31, ↓A_p32, ↓A_p34, ↓A_p36, ↓A_p37, ↓A_p38, ↓A_p39, ↓A_p41, ↓A_p42, ↓A_p43, ↓A_p44, ↓A_p61, ↓A_p62, ↓A_p63, ↓A_p65, ↓A_p66, ↓A_p67, ↓A_p68, ↓A_p69, ↓A_p70, ↓A_pN, ↓A_pT, ↓I_X7_isSeenSo_60, ↓J_X7_fits_89, ↓L_iinc6, ↓L_iinc8, ↓r_goto, ↓J_X7_fits_61, ↓L_ild5, ↓J_X7_fits_113, ↓L_ild6, ↓J_X7_fits_115, ↓L_ild7, ↓U_X7_fits_0, ↓U_X7_fits_28, ↓U_X7_fits_30, ↓U_X7_fits_89, ↓U_X7_fits_95, ↓U_X7_fits_113, ↓U_X7_fits_115, ↓zthen_v, ↓zthen_0, zU_eq, zU_nc, zU_nj, m1, m2, m3]
    · have c2 := c_X6_isThing_f (σ := σ) (p := th) (by omega) (by omega)
      have m2 := m_isThing_f (σ := τ) (p := th) (by omega) (by omega)
      refine SameT_id RR (-1) ?_ ?_
      · rw [S_X6_fits]
        simp (disch := first | exact z_tt rfl | assumption | omega | (simp (disch := omega) only [zU_eq, zU_nc, zU_nj]; omega)) only [↓L_ild_n1, ↓r_iflt_t, ↓r_iflt_f, ↓J_X6_fits_26, ↓r_iconst, ↓r_icgt_t, ↓r_icgt_f, ↓L_ald_n0, ↓L_ild_n2, ↓I_X6_isThing_0, ↓r_ifeq_t, ↓r_ifeq_f, ↓L_ild_n3, ↓r_icle_t, ↓r_icle_f, ↓J_X6_fits_28, ↓r_ireturn, ↓F_g0_0, ↓F_g1_2, ↓F_g17_2, ↓F_g0_5, ↓I_X6_copyPoints, ↓L_ist4, ↓L_ist4L, ↓r_bipush, ↓L_ist5, ↓L_ist5L, ↓L_ist6, ↓L_ist6L, ↓L_ild6, ↓J_X6_fits_94, ↓A_a2, ↓A_a18, ↓A_a40, ↓A_a47, ↓A_p3, ↓A_p4, ↓A_p5, ↓A_p6, ↓A_p7, ↓A_p9, ↓A_p10, ↓A_p12, ↓A_p13, ↓A_p15, ↓A_p16, ↓A_p19, ↓A_p20, ↓A_p21, ↓A_p22, ↓A_p23, ↓A_p25, ↓A_p26, ↓A_p28, ↓A_p29, ↓A_p31, ↓A_p32, ↓A_p34, ↓A_p36, ↓A_p37, ↓A_p38, ↓A_p39, ↓A_p41, ↓A_p42, ↓A_p43, ↓A_p44, ↓A_p61, ↓A_p62, ↓A_p63, ↓A_p65, ↓A_p66, ↓A_p67, ↓A_p68, ↓A_p69, ↓A_p70, ↓A_pN, ↓A_pT, ↓I_X6_triedFitsSeen_0, ↓J_X6_fits_88, ↓L_ild4, ↓r_ifne_t, ↓r_ifne_f, ↓J_X6_fits_85, ↓L_iinc4, ↓L_iinc6, ↓r_goto, ↓J_X6_fits_52, ↓J_X6_fits_103, ↓J_X6_fits_105, ↓L_ild5, ↓U_X6_fits_0, ↓U_X6_fits_26, ↓U_X6_fits_28, ↓U_X6_fits_85, ↓U_X6_fits_88, ↓U_X6_fits_94, ↓U_X6_fits_103, ↓U_X6_fits_105, ↓zthen_v, ↓zthen_0, zU_eq, zU_nc, zU_nj, c2]
      · rw [S_X7_fits]
        simp (disch := first | exact z_tt rfl | assumption | omega | (simp (disch := omega) only [zU_eq, zU_nc, zU_nj]; omega)) only [↓L_ild_n1, ↓r_i2l, ↓r_lconst, ↓I_X7_in, ↓r_ifeq_t, ↓r_ifeq_f, ↓J_X7_fits_28, ↓L_ald_n0, ↓L_ild_n2, ↓I_X7_isThing_60, ↓L_ild_n3, ↓r_ifne_t, ↓r_ifne_f, ↓J_X7_fits_30, ↓r_iconst, ↓r_ireturn, ↓r_bipush, ↓r_imul, ↓r_iadd, ↓L_ist4, ↓L_ist4L, ↓F_g60_0, ↓L_ild4, ↓A_g3, ↓A_g4, ↓A_g5, ↓A_g6, ↓A_g7, ↓A_g9, ↓A_g10, ↓A_g12, ↓A_g13, ↓A_g15, ↓A_g16, ↓A_g19, ↓A_g20, ↓A_g21, ↓A_g22, ↓A_g23, ↓A_g25, ↓A_g26, ↓A_g28, ↓A_g29, ↓A_g31, ↓A_g32, ↓A_g34, ↓A_g36, ↓A_g37, ↓A_g38, ↓A_g39, ↓A_g41, ↓A_g42, ↓A_g43, ↓A_g44, ↓A_g61, ↓A_g62, ↓A_g63, ↓A_g65, ↓A_g66, ↓A_g67, ↓A_g68, ↓A_g69, ↓A_g70, ↓A_gN, ↓A_gT, ↓A_gC, ↓L_ist5, ↓L_ist5L, ↓L_ist6, ↓L_ist6L, ↓L_ist7, ↓L_ist7L, ↓L_ist8, ↓L_ist8L, ↓L_ild8, ↓r_iflt_t, ↓r_iflt_f, ↓J_X7_fits_95, ↓A_p3, ↓A_p4, ↓A_p5, ↓A_p6, ↓A_p7, ↓A_p9, ↓A_p10, ↓A_p12, ↓A_p13, ↓A_p15, ↓A_p16, ↓A_p19, ↓A_p20, ↓A_p21, ↓A_p22, ↓A_p23, ↓A_p25, ↓A_p26, ↓A_p28, ↓A_p29, ↓A_p31, ↓A_p32, ↓A_p34, ↓A_p36, ↓A_p37, ↓A_p38, ↓A_p39, ↓A_p41, ↓A_p42, ↓A_p43, ↓A_p44, ↓A_p61, ↓A_p62, ↓A_p63, ↓A_p65, ↓A_p66, ↓A_p67, ↓A_p68, ↓A_p69, ↓A_p70, ↓A_pN, ↓A_pT, ↓I_X7_isSeenSo_60, ↓J_X7_fits_89, ↓L_iinc6, ↓L_iinc8, ↓r_goto, ↓J_X7_fits_61, ↓L_ild5, ↓J_X7_fits_113, ↓L_ild6, ↓J_X7_fits_115, ↓L_ild7, ↓U_X7_fits_0, ↓U_X7_fits_28, ↓U_X7_fits_30, ↓U_X7_fits_89, ↓U_X7_fits_95, ↓U_X7_fits_113, ↓U_X7_fits_115, ↓zthen_v, ↓zthen_0, zU_eq, zU_nc, zU_nj, m1, m2]
  · have m1 := m_in_f (σ := τ) (v := p) (lo := 0) (hi := 1) (by omega)
    refine SameT_id RR (-1) ?_ ?_
    · rw [S_X6_fits]
      by_cases q4 : p < 0
      · simp (disch := first | exact z_tt rfl | assumption | omega | (simp (disch := omega) only [zU_eq, zU_nc, zU_nj]; omega)) only [↓L_ild_n1, ↓r_iflt_t, ↓r_iflt_f, ↓J_X6_fits_26, ↓r_iconst, ↓r_icgt_t, ↓r_icgt_f, ↓L_ald_n0, ↓L_ild_n2, ↓I_X6_isThing_0, ↓r_ifeq_t, ↓r_ifeq_f, ↓L_ild_n3, ↓r_icle_t, ↓r_icle_f, ↓J_X6_fits_28, ↓r_ireturn, ↓F_g0_0, ↓F_g1_2, ↓F_g17_2, ↓F_g0_5, ↓I_X6_copyPoints, ↓L_ist4, ↓L_ist4L, ↓r_bipush, ↓L_ist5, ↓L_ist5L, ↓L_ist6, ↓L_ist6L, ↓L_ild6, ↓J_X6_fits_94, ↓A_a2, ↓A_a18, ↓A_a40, ↓A_a47, ↓A_p3, ↓A_p4, ↓A_p5, ↓A_p6, ↓A_p7, ↓A_p9, ↓A_p10, ↓A_p12, ↓A_p13, ↓A_p15, ↓A_p16, ↓A_p19, ↓A_p20, ↓A_p21, ↓A_p22, ↓A_p23, ↓A_p25, ↓A_p26, ↓A_p28, ↓A_p29, ↓A_p31, ↓A_p32, ↓A_p34, ↓A_p36, ↓A_p37, ↓A_p38, ↓A_p39, ↓A_p41, ↓A_p42, ↓A_p43, ↓A_p44, ↓A_p61, ↓A_p62, ↓A_p63, ↓A_p65, ↓A_p66, ↓A_p67, ↓A_p68, ↓A_p69, ↓A_p70, ↓A_pN, ↓A_pT, ↓I_X6_triedFitsSeen_0, ↓J_X6_fits_88, ↓L_ild4, ↓r_ifne_t, ↓r_ifne_f, ↓J_X6_fits_85, ↓L_iinc4, ↓L_iinc6, ↓r_goto, ↓J_X6_fits_52, ↓J_X6_fits_103, ↓J_X6_fits_105, ↓L_ild5, ↓U_X6_fits_0, ↓U_X6_fits_26, ↓U_X6_fits_28, ↓U_X6_fits_85, ↓U_X6_fits_88, ↓U_X6_fits_94, ↓U_X6_fits_103, ↓U_X6_fits_105, ↓zthen_v, ↓zthen_0, zU_eq, zU_nc, zU_nj]
      · simp (disch := first | exact z_tt rfl | assumption | omega | (simp (disch := omega) only [zU_eq, zU_nc, zU_nj]; omega)) only [↓L_ild_n1, ↓r_iflt_t, ↓r_iflt_f, ↓J_X6_fits_26, ↓r_iconst, ↓r_icgt_t, ↓r_icgt_f, ↓L_ald_n0, ↓L_ild_n2, ↓I_X6_isThing_0, ↓r_ifeq_t, ↓r_ifeq_f, ↓L_ild_n3, ↓r_icle_t, ↓r_icle_f, ↓J_X6_fits_28, ↓r_ireturn, ↓F_g0_0, ↓F_g1_2, ↓F_g17_2, ↓F_g0_5, ↓I_X6_copyPoints, ↓L_ist4, ↓L_ist4L, ↓r_bipush, ↓L_ist5, ↓L_ist5L, ↓L_ist6, ↓L_ist6L, ↓L_ild6, ↓J_X6_fits_94, ↓A_a2, ↓A_a18, ↓A_a40, ↓A_a47, ↓A_p3, ↓A_p4, ↓A_p5, ↓A_p6, ↓A_p7, ↓A_p9, ↓A_p10, ↓A_p12, ↓A_p13, ↓A_p15, ↓A_p16, ↓A_p19, ↓A_p20, ↓A_p21, ↓A_p22, ↓A_p23, ↓A_p25, ↓A_p26, ↓A_p28, ↓A_p29, ↓A_p31, ↓A_p32, ↓A_p34, ↓A_p36, ↓A_p37, ↓A_p38, ↓A_p39, ↓A_p41, ↓A_p42, ↓A_p43, ↓A_p44, ↓A_p61, ↓A_p62, ↓A_p63, ↓A_p65, ↓A_p66, ↓A_p67, ↓A_p68, ↓A_p69, ↓A_p70, ↓A_pN, ↓A_pT, ↓I_X6_triedFitsSeen_0, ↓J_X6_fits_88, ↓L_ild4, ↓r_ifne_t, ↓r_ifne_f, ↓J_X6_fits_85, ↓L_iinc4, ↓L_iinc6, ↓r_goto, ↓J_X6_fits_52, ↓J_X6_fits_103, ↓J_X6_fits_105, ↓L_ild5, ↓U_X6_fits_0, ↓U_X6_fits_26, ↓U_X6_fits_28, ↓U_X6_fits_85, ↓U_X6_fits_88, ↓U_X6_fits_94, ↓U_X6_fits_103, ↓U_X6_fits_105, ↓zthen_v, ↓zthen_0, zU_eq, zU_nc, zU_nj]
    · rw [S_X7_fits]
      simp (disch := first | exact z_tt rfl | assumption | omega | (simp (disch := omega) only [zU_eq, zU_nc, zU_nj]; omega)) only [↓L_ild_n1, ↓r_i2l, ↓r_lconst, ↓I_X7_in, ↓r_ifeq_t, ↓r_ifeq_f, ↓J_X7_fits_28, ↓L_ald_n0, ↓L_ild_n2, ↓I_X7_isThing_60, ↓L_ild_n3, ↓r_ifne_t, ↓r_ifne_f, ↓J_X7_fits_30, ↓r_iconst, ↓r_ireturn, ↓r_bipush, ↓r_imul, ↓r_iadd, ↓L_ist4, ↓L_ist4L, ↓F_g60_0, ↓L_ild4, ↓A_g3, ↓A_g4, ↓A_g5, ↓A_g6, ↓A_g7, ↓A_g9, ↓A_g10, ↓A_g12, ↓A_g13, ↓A_g15, ↓A_g16, ↓A_g19, ↓A_g20, ↓A_g21, ↓A_g22, ↓A_g23, ↓A_g25, ↓A_g26, ↓A_g28, ↓A_g29, ↓A_g31, ↓A_g32, ↓A_g34, ↓A_g36, ↓A_g37, ↓A_g38, ↓A_g39, ↓A_g41, ↓A_g42, ↓A_g43, ↓A_g44, ↓A_g61, ↓A_g62, ↓A_g63, ↓A_g65, ↓A_g66, ↓A_g67, ↓A_g68, ↓A_g69, ↓A_g70, ↓A_gN, ↓A_gT, ↓A_gC, ↓L_ist5, ↓L_ist5L, ↓L_ist6, ↓L_ist6L, ↓L_ist7, ↓L_ist7L, ↓L_ist8, ↓L_ist8L, ↓L_ild8, ↓r_iflt_t, ↓r_iflt_f, ↓J_X7_fits_95, ↓A_p3, ↓A_p4, ↓A_p5, ↓A_p6, ↓A_p7, ↓A_p9, ↓A_p10, ↓A_p12, ↓A_p13, ↓A_p15, ↓A_p16, ↓A_p19, ↓A_p20, ↓A_p21, ↓A_p22, ↓A_p23, ↓A_p25, ↓A_p26, ↓A_p28, ↓A_p29, ↓A_p31, ↓A_p32, ↓A_p34, ↓A_p36, ↓A_p37, ↓A_p38, ↓A_p39, ↓A_p41, ↓A_p42, ↓A_p43, ↓A_p44, ↓A_p61, ↓A_p62, ↓A_p63, ↓A_p65, ↓A_p66, ↓A_p67, ↓A_p68, ↓A_p69, ↓A_p70, ↓A_pN, ↓A_pT, ↓I_X7_isSeenSo_60, ↓J_X7_fits_89, ↓L_iinc6, ↓L_iinc8, ↓r_goto, ↓J_X7_fits_61, ↓L_ild5, ↓J_X7_fits_113, ↓L_ild6, ↓J_X7_fits_115, ↓L_ild7, ↓U_X7_fits_0, ↓U_X7_fits_28, ↓U_X7_fits_30, ↓U_X7_fits_89, ↓U_X7_fits_95, ↓U_X7_fits_113, ↓U_X7_fits_115, ↓zthen_v, ↓zthen_0, zU_eq, zU_nc, zU_nj, m1]
