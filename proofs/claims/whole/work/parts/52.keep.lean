theorem becS_K (σ : zM) : becS σ 17 1 = zU (zCpy (zCpy (zU (zCpy (zCpy (zU (zCpy (zCpy (zU (zU (zU (zU (zCpy (cpP (zU (zU σ 17 0 (σ 1 0)) 17 1 (σ 1 1)) 2 18) 7 0 23 0 6) 17 4 (σ 1 4)) 17 5 (σ 1 5)) 17 6 (σ 1 6)) 17 7 (σ 1 7)) 9 0 25 0 5) 10 0 26 0 5) 24 2 (σ 8 2)) 12 0 28 0 8) 13 0 29 0 8) 27 2 (σ 11 2)) 15 0 31 0 8) 16 0 32 0 8) 30 2 (σ 14 2) := by
  have e1 : ∀ s : zM, bec s 24 8 5 = zU (zCpy (zCpy s 9 0 25 0 5) 10 0 26 0 5) 24 2 (s 8 2) := fun s => rfl
  have e2 : ∀ s : zM, bec s 27 11 8 = zU (zCpy (zCpy s 12 0 28 0 8) 13 0 29 0 8) 27 2 (s 11 2) := fun s => rfl
  have e3 : ∀ s : zM, bec s 30 14 8 = zU (zCpy (zCpy s 15 0 31 0 8) 16 0 32 0 8) 30 2 (s 14 2) := fun s => rfl
  have e4 : becS σ 17 1 = bec (bec (bec (zU (zU (zU (zU (zCpy (cpP (zU (zU σ 17 0 (σ 1 0)) 17 1 (σ 1 1)) 2 18) 7 0 23 0 6) 17 4 (σ 1 4)) 17 5 (σ 1 5)) 17 6 (σ 1 6)) 17 7 (σ 1 7)) 24 8 5) 27 11 8) 30 14 8 := rfl
  rw [e4, e1, e2, e3]
  simp (disch := omega) only [zU_ow, zCpy_nc, cpP_nc]
theorem becS_Kfr (σ : zM) (c j : Int) (h : c < 17 ∨ 32 < c) : becS σ 17 1 c j = σ c j := by
  rw [becS_K]
  simp (disch := omega) only [zU_ow, zCpy_nc, cpP_nc]
theorem becS_K0 (σ : zM) (j : Int) (h : j = 0 ∨ j = 1 ∨ (4 ≤ j ∧ j < 8)) : becS σ 17 1 17 j = σ 1 j := by
  have h2 : j = 0 ∨ j = 1 ∨ j = 4 ∨ j = 5 ∨ j = 6 ∨ j = 7 := by omega
  rw [becS_K]
  rcases h2 with h | h | h | h | h | h
  all_goals
    subst h
    simp (disch := omega) only [zU_eq, zU_ow, zCpy_nc, cpP_nc]
theorem becS_Kp (σ : zM) (p t : Int) (hp : 0 ≤ p) (hp4 : p < 4) (ht : 0 ≤ t) (ht6 : t < 6) : becS σ 17 1 (19 + p) t = σ (3 + p) t := by
  have e : ∀ s : zM, cpP s 2 18 (19 + p) t = s (3 + p) t := fun s => cpP_in s 2 18 p t (by omega) ⟨hp, hp4⟩ ⟨ht, ht6⟩
  rw [becS_K]
  simp (disch := omega) only [zU_ow, zCpy_nc]
  rw [e]
  simp (disch := omega) only [zU_ow]
theorem becS_Kf (σ : zM) (t : Int) (ht : 0 ≤ t) (ht6 : t < 6) : becS σ 17 1 23 t = σ 7 t := by
  rw [becS_K]
  simp (disch := omega) only [zU_ow, zCpy_nc]
  rw [zCpy_in _ _ _ _ _ _ _ (by omega), cpP_nc _ _ _ _ _ (by omega)]
  simp (disch := omega) only [zU_ow]
  congr 1
  omega
theorem becS_Ks7 (σ : zM) : becS σ 17 1 24 2 = σ 8 2 := by
  rw [becS_K]
  simp (disch := omega) only [zU_eq, zU_ow, zCpy_nc, cpP_nc]
theorem becS_Kr8 (σ : zM) (k : Int) (hk : 0 ≤ k) (hk2 : k < 5) : becS σ 17 1 25 k = σ 9 k := by
  rw [becS_K]
  simp (disch := omega) only [zU_ow, zCpy_nc]
  rw [zCpy_in _ _ _ _ _ _ _ (by omega)]
  simp (disch := omega) only [zU_ow, zCpy_nc, cpP_nc]
  congr 1
  omega
theorem becS_Kr9 (σ : zM) (k : Int) (hk : 0 ≤ k) (hk2 : k < 5) : becS σ 17 1 26 k = σ 10 k := by
  rw [becS_K]
  simp (disch := omega) only [zU_ow, zCpy_nc]
  rw [zCpy_in _ _ _ _ _ _ _ (by omega)]
  simp (disch := omega) only [zU_ow, zCpy_nc, cpP_nc]
  congr 1
  omega
theorem becS_Ks10 (σ : zM) : becS σ 17 1 27 2 = σ 11 2 := by
  rw [becS_K]
  simp (disch := omega) only [zU_eq, zU_ow, zCpy_nc, cpP_nc]
theorem becS_Kr11 (σ : zM) (k : Int) (hk : 0 ≤ k) (hk2 : k < 8) : becS σ 17 1 28 k = σ 12 k := by
  rw [becS_K]
  simp (disch := omega) only [zU_ow, zCpy_nc]
  rw [zCpy_in _ _ _ _ _ _ _ (by omega)]
  simp (disch := omega) only [zU_ow, zCpy_nc, cpP_nc]
  congr 1
  omega
theorem becS_Kr12 (σ : zM) (k : Int) (hk : 0 ≤ k) (hk2 : k < 8) : becS σ 17 1 29 k = σ 13 k := by
  rw [becS_K]
  simp (disch := omega) only [zU_ow, zCpy_nc]
  rw [zCpy_in _ _ _ _ _ _ _ (by omega)]
  simp (disch := omega) only [zU_ow, zCpy_nc, cpP_nc]
  congr 1
  omega
theorem becS_Ks13 (σ : zM) : becS σ 17 1 30 2 = σ 14 2 := by
  rw [becS_K]
  simp (disch := omega) only [zU_eq, zU_ow, zCpy_nc, cpP_nc]
theorem becS_Kr14 (σ : zM) (k : Int) (hk : 0 ≤ k) (hk2 : k < 8) : becS σ 17 1 31 k = σ 15 k := by
  rw [becS_K]
  simp (disch := omega) only [zU_ow, zCpy_nc]
  rw [zCpy_in _ _ _ _ _ _ _ (by omega)]
  simp (disch := omega) only [zU_ow, zCpy_nc, cpP_nc]
  congr 1
  omega
theorem becS_Kr15 (σ : zM) (k : Int) (hk : 0 ≤ k) (hk2 : k < 8) : becS σ 17 1 32 k = σ 16 k := by
  rw [becS_K]
  simp (disch := omega) only [zU_ow, zCpy_nc]
  rw [zCpy_in _ _ _ _ _ _ _ (by omega)]
  simp (disch := omega) only [zU_ow, zCpy_nc, cpP_nc]
  congr 1
  omega
theorem becS_Krel {σ τ σ1 τ1 : zM} (R : Rel1 σ τ) (h : ∀ c j, 17 ≤ c → c ≤ 32 → σ1 c j = becS σ 17 1 c j) (hb : ∀ j, 0 ≤ j → j < 82 → τ1 62 j = τ 61 j) : RelK σ1 τ1 := by
  refine ⟨RSa_mv R.1 (fun j hj => ?_) (fun p j h1 h2 h3 h4 => ?_) (fun j h1 h2 => ?_) hb, RSs_mv R.2.1 ?_ (fun k h1 h2 => ?_) (fun k h1 h2 => ?_) hb, RSe_mv R.2.2.1 ?_ (fun k h1 h2 => ?_) (fun k h1 h2 => ?_) hb, RSb_mv R.2.2.2 ?_ (fun k h1 h2 => ?_) (fun k h1 h2 => ?_) hb⟩
  · rw [h _ _ (by omega) (by omega)]; exact becS_K0 σ j hj
  · rw [h _ _ (by omega) (by omega)]; exact becS_Kp σ p j h1 h2 h3 h4
  · rw [h _ _ (by omega) (by omega)]; exact becS_Kf σ j h1 h2
  · rw [h _ _ (by omega) (by omega)]; exact becS_Ks7 σ
  · rw [h _ _ (by omega) (by omega)]; exact becS_Kr8 σ k h1 h2
  · rw [h _ _ (by omega) (by omega)]; exact becS_Kr9 σ k h1 h2
  · rw [h _ _ (by omega) (by omega)]; exact becS_Ks10 σ
  · rw [h _ _ (by omega) (by omega)]; exact becS_Kr11 σ k h1 h2
  · rw [h _ _ (by omega) (by omega)]; exact becS_Kr12 σ k h1 h2
  · rw [h _ _ (by omega) (by omega)]; exact becS_Ks13 σ
  · rw [h _ _ (by omega) (by omega)]; exact becS_Kr14 σ k h1 h2
  · rw [h _ _ (by omega) (by omega)]; exact becS_Kr15 σ k h1 h2
theorem becS_N (σ : zM) : becS σ 1 17 = zU (zCpy (zCpy (zU (zCpy (zCpy (zU (zCpy (zCpy (zU (zU (zU (zU (zCpy (cpP (zU (zU σ 1 0 (σ 17 0)) 1 1 (σ 17 1)) 18 2) 23 0 7 0 6) 1 4 (σ 17 4)) 1 5 (σ 17 5)) 1 6 (σ 17 6)) 1 7 (σ 17 7)) 25 0 9 0 5) 26 0 10 0 5) 8 2 (σ 24 2)) 28 0 12 0 8) 29 0 13 0 8) 11 2 (σ 27 2)) 31 0 15 0 8) 32 0 16 0 8) 14 2 (σ 30 2) := by
  have e1 : ∀ s : zM, bec s 8 24 5 = zU (zCpy (zCpy s 25 0 9 0 5) 26 0 10 0 5) 8 2 (s 24 2) := fun s => rfl
  have e2 : ∀ s : zM, bec s 11 27 8 = zU (zCpy (zCpy s 28 0 12 0 8) 29 0 13 0 8) 11 2 (s 27 2) := fun s => rfl
  have e3 : ∀ s : zM, bec s 14 30 8 = zU (zCpy (zCpy s 31 0 15 0 8) 32 0 16 0 8) 14 2 (s 30 2) := fun s => rfl
  have e4 : becS σ 1 17 = bec (bec (bec (zU (zU (zU (zU (zCpy (cpP (zU (zU σ 1 0 (σ 17 0)) 1 1 (σ 17 1)) 18 2) 23 0 7 0 6) 1 4 (σ 17 4)) 1 5 (σ 17 5)) 1 6 (σ 17 6)) 1 7 (σ 17 7)) 8 24 5) 11 27 8) 14 30 8 := rfl
  rw [e4, e1, e2, e3]
  simp (disch := omega) only [zU_ow, zCpy_nc, cpP_nc]
theorem becS_Nfr (σ : zM) (c j : Int) (h : c < 1 ∨ 16 < c) : becS σ 1 17 c j = σ c j := by
  rw [becS_N]
  simp (disch := omega) only [zU_ow, zCpy_nc, cpP_nc]
theorem becS_N0 (σ : zM) (j : Int) (h : j = 0 ∨ j = 1 ∨ (4 ≤ j ∧ j < 8)) : becS σ 1 17 1 j = σ 17 j := by
  have h2 : j = 0 ∨ j = 1 ∨ j = 4 ∨ j = 5 ∨ j = 6 ∨ j = 7 := by omega
  rw [becS_N]
  rcases h2 with h | h | h | h | h | h
  all_goals
    subst h
    simp (disch := omega) only [zU_eq, zU_ow, zCpy_nc, cpP_nc]
theorem becS_Np (σ : zM) (p t : Int) (hp : 0 ≤ p) (hp4 : p < 4) (ht : 0 ≤ t) (ht6 : t < 6) : becS σ 1 17 (3 + p) t = σ (19 + p) t := by
  have e : ∀ s : zM, cpP s 18 2 (3 + p) t = s (19 + p) t := fun s => cpP_in s 18 2 p t (by omega) ⟨hp, hp4⟩ ⟨ht, ht6⟩
  rw [becS_N]
  simp (disch := omega) only [zU_ow, zCpy_nc]
  rw [e]
  simp (disch := omega) only [zU_ow]
theorem becS_Nf (σ : zM) (t : Int) (ht : 0 ≤ t) (ht6 : t < 6) : becS σ 1 17 7 t = σ 23 t := by
  rw [becS_N]
  simp (disch := omega) only [zU_ow, zCpy_nc]
  rw [zCpy_in _ _ _ _ _ _ _ (by omega), cpP_nc _ _ _ _ _ (by omega)]
  simp (disch := omega) only [zU_ow]
  congr 1
  omega
theorem becS_Ns7 (σ : zM) : becS σ 1 17 8 2 = σ 24 2 := by
  rw [becS_N]
  simp (disch := omega) only [zU_eq, zU_ow, zCpy_nc, cpP_nc]
theorem becS_Nr8 (σ : zM) (k : Int) (hk : 0 ≤ k) (hk2 : k < 5) : becS σ 1 17 9 k = σ 25 k := by
  rw [becS_N]
  simp (disch := omega) only [zU_ow, zCpy_nc]
  rw [zCpy_in _ _ _ _ _ _ _ (by omega)]
  simp (disch := omega) only [zU_ow, zCpy_nc, cpP_nc]
  congr 1
  omega
theorem becS_Nr9 (σ : zM) (k : Int) (hk : 0 ≤ k) (hk2 : k < 5) : becS σ 1 17 10 k = σ 26 k := by
  rw [becS_N]
  simp (disch := omega) only [zU_ow, zCpy_nc]
  rw [zCpy_in _ _ _ _ _ _ _ (by omega)]
  simp (disch := omega) only [zU_ow, zCpy_nc, cpP_nc]
  congr 1
  omega
theorem becS_Ns10 (σ : zM) : becS σ 1 17 11 2 = σ 27 2 := by
  rw [becS_N]
  simp (disch := omega) only [zU_eq, zU_ow, zCpy_nc, cpP_nc]
theorem becS_Nr11 (σ : zM) (k : Int) (hk : 0 ≤ k) (hk2 : k < 8) : becS σ 1 17 12 k = σ 28 k := by
  rw [becS_N]
  simp (disch := omega) only [zU_ow, zCpy_nc]
  rw [zCpy_in _ _ _ _ _ _ _ (by omega)]
  simp (disch := omega) only [zU_ow, zCpy_nc, cpP_nc]
  congr 1
  omega
theorem becS_Nr12 (σ : zM) (k : Int) (hk : 0 ≤ k) (hk2 : k < 8) : becS σ 1 17 13 k = σ 29 k := by
  rw [becS_N]
  simp (disch := omega) only [zU_ow, zCpy_nc]
  rw [zCpy_in _ _ _ _ _ _ _ (by omega)]
  simp (disch := omega) only [zU_ow, zCpy_nc, cpP_nc]
  congr 1
  omega
theorem becS_Ns13 (σ : zM) : becS σ 1 17 14 2 = σ 30 2 := by
  rw [becS_N]
  simp (disch := omega) only [zU_eq, zU_ow, zCpy_nc, cpP_nc]
theorem becS_Nr14 (σ : zM) (k : Int) (hk : 0 ≤ k) (hk2 : k < 8) : becS σ 1 17 15 k = σ 31 k := by
  rw [becS_N]
  simp (disch := omega) only [zU_ow, zCpy_nc]
  rw [zCpy_in _ _ _ _ _ _ _ (by omega)]
  simp (disch := omega) only [zU_ow, zCpy_nc, cpP_nc]
  congr 1
  omega
theorem becS_Nr15 (σ : zM) (k : Int) (hk : 0 ≤ k) (hk2 : k < 8) : becS σ 1 17 16 k = σ 32 k := by
  rw [becS_N]
  simp (disch := omega) only [zU_ow, zCpy_nc]
  rw [zCpy_in _ _ _ _ _ _ _ (by omega)]
  simp (disch := omega) only [zU_ow, zCpy_nc, cpP_nc]
  congr 1
  omega
theorem becS_Nrel {σ τ σ1 τ1 : zM} (R : RelK σ τ) (h : ∀ c j, 1 ≤ c → c ≤ 16 → σ1 c j = becS σ 1 17 c j) (hb : ∀ j, 0 ≤ j → j < 82 → τ1 61 j = τ 62 j) : Rel1 σ1 τ1 := by
  refine ⟨RSa_mv R.1 (fun j hj => ?_) (fun p j h1 h2 h3 h4 => ?_) (fun j h1 h2 => ?_) hb, RSs_mv R.2.1 ?_ (fun k h1 h2 => ?_) (fun k h1 h2 => ?_) hb, RSe_mv R.2.2.1 ?_ (fun k h1 h2 => ?_) (fun k h1 h2 => ?_) hb, RSb_mv R.2.2.2 ?_ (fun k h1 h2 => ?_) (fun k h1 h2 => ?_) hb⟩
  · rw [h _ _ (by omega) (by omega)]; exact becS_N0 σ j hj
  · rw [h _ _ (by omega) (by omega)]; exact becS_Np σ p j h1 h2 h3 h4
  · rw [h _ _ (by omega) (by omega)]; exact becS_Nf σ j h1 h2
  · rw [h _ _ (by omega) (by omega)]; exact becS_Ns7 σ
  · rw [h _ _ (by omega) (by omega)]; exact becS_Nr8 σ k h1 h2
  · rw [h _ _ (by omega) (by omega)]; exact becS_Nr9 σ k h1 h2
  · rw [h _ _ (by omega) (by omega)]; exact becS_Ns10 σ
  · rw [h _ _ (by omega) (by omega)]; exact becS_Nr11 σ k h1 h2
  · rw [h _ _ (by omega) (by omega)]; exact becS_Nr12 σ k h1 h2
  · rw [h _ _ (by omega) (by omega)]; exact becS_Ns13 σ
  · rw [h _ _ (by omega) (by omega)]; exact becS_Nr14 σ k h1 h2
  · rw [h _ _ (by omega) (by omega)]; exact becS_Nr15 σ k h1 h2
