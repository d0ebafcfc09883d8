theorem L_ald_n0 {k pc len : Nat} {x : Int} {is : List zCE} {ls st : List zV} {σ : zM} (v : Int) : zres k ((pc, len, x, .aload_n 0) :: is) (vR v :: ls) st σ = zres k is (vR v :: ls) (vR v :: st) σ := r_ld _ 2 0 _ rfl rfl rfl
theorem L_ild_n2 {k pc len : Nat} {x : Int} {is : List zCE} {ls st : List zV} {σ : zM} {a0 a1 : zV} (v : Int) : zres k ((pc, len, x, .iload_n 2) :: is) (a0 :: a1 :: vI v :: ls) st σ = zres k is (a0 :: a1 :: vI v :: ls) (vI v :: st) σ := r_ld _ 0 2 _ rfl rfl rfl
theorem F_p33_1 {k pc len : Nat} {is : List zCE} {ls st : List zV} {σ : zM} (i : Nat) (v : Int) : zres k ((pc, len, 1, .putfield i) :: is) ls (vI v :: vR 33 :: st) σ = zres k is ls st (zU σ 33 1 v) := r_pf _ _ _ rfl
theorem L_ald_n1 {k pc len : Nat} {x : Int} {is : List zCE} {ls st : List zV} {σ : zM} {a0 : zV} (v : Int) : zres k ((pc, len, x, .aload_n 1) :: is) (a0 :: vR v :: ls) st σ = zres k is (a0 :: vR v :: ls) (vR v :: st) σ := r_ld _ 2 1 _ rfl rfl rfl
theorem L_ild_n3 {k pc len : Nat} {x : Int} {is : List zCE} {ls st : List zV} {σ : zM} {a0 a1 a2 : zV} (v : Int) : zres k ((pc, len, x, .iload_n 3) :: is) (a0 :: a1 :: a2 :: vI v :: ls) st σ = zres k is (a0 :: a1 :: a2 :: vI v :: ls) (vI v :: st) σ := r_ld _ 0 3 _ rfl rfl rfl
theorem F_g33_1 {k pc len : Nat} {is : List zCE} {ls st : List zV} {σ : zM} (i : Nat) : zres k ((pc, len, 1, .getfield i) :: is) ls (vR 33 :: st) σ = zres k is ls (vI (σ 33 1) :: st) σ := r_gf _ _ _ rfl
theorem L_ist5 {k pc len : Nat} {x : Int} {is : List zCE} {ls st : List zV} {σ : zM} {a0 a1 a2 a3 a4 : zV} {b0 : zV} (v : Int) (h : (a4.1 == 1) = false) : zres k ((pc, len, x, .istore 5) :: is) (a0 :: a1 :: a2 :: a3 :: a4 :: b0 :: ls) (vI v :: st) σ = zres k is (a0 :: a1 :: a2 :: a3 :: a4 :: vI v :: ls) st σ := by
  rw [r_st _ 0 5 _ rfl rfl (by simp)]
  have h : ¬ a4.1 = 1 := by simpa using h
  simp only [zput, zkill, if_neg h]
  rfl
theorem L_ist5L {k pc len : Nat} {x : Int} {is : List zCE} {ls st : List zV} {σ : zM} {a0 a1 a2 a3 : zV} {b0 : zV} (v w : Int) : zres k ((pc, len, x, .istore 5) :: is) (a0 :: a1 :: a2 :: a3 :: vL w :: b0 :: ls) (vI v :: st) σ = zres k is (a0 :: a1 :: a2 :: a3 :: vU :: vI v :: ls) st σ := r_st _ 0 5 _ rfl rfl (by simp)
theorem L_ild4 {k pc len : Nat} {x : Int} {is : List zCE} {ls st : List zV} {σ : zM} {a0 a1 a2 a3 : zV} (v : Int) : zres k ((pc, len, x, .iload 4) :: is) (a0 :: a1 :: a2 :: a3 :: vI v :: ls) st σ = zres k is (a0 :: a1 :: a2 :: a3 :: vI v :: ls) (vI v :: st) σ := r_ld _ 0 4 _ rfl rfl rfl
theorem L_ist6 {k pc len : Nat} {x : Int} {is : List zCE} {ls st : List zV} {σ : zM} {a0 a1 a2 a3 a4 a5 : zV} {b0 : zV} (v : Int) (h : (a5.1 == 1) = false) : zres k ((pc, len, x, .istore 6) :: is) (a0 :: a1 :: a2 :: a3 :: a4 :: a5 :: b0 :: ls) (vI v :: st) σ = zres k is (a0 :: a1 :: a2 :: a3 :: a4 :: a5 :: vI v :: ls) st σ := by
  rw [r_st _ 0 6 _ rfl rfl (by simp)]
  have h : ¬ a5.1 = 1 := by simpa using h
  simp only [zput, zkill, if_neg h]
  rfl
theorem L_ist6L {k pc len : Nat} {x : Int} {is : List zCE} {ls st : List zV} {σ : zM} {a0 a1 a2 a3 a4 : zV} {b0 : zV} (v w : Int) : zres k ((pc, len, x, .istore 6) :: is) (a0 :: a1 :: a2 :: a3 :: a4 :: vL w :: b0 :: ls) (vI v :: st) σ = zres k is (a0 :: a1 :: a2 :: a3 :: a4 :: vU :: vI v :: ls) st σ := r_st _ 0 6 _ rfl rfl (by simp)
theorem L_ild5 {k pc len : Nat} {x : Int} {is : List zCE} {ls st : List zV} {σ : zM} {a0 a1 a2 a3 a4 : zV} (v : Int) : zres k ((pc, len, x, .iload 5) :: is) (a0 :: a1 :: a2 :: a3 :: a4 :: vI v :: ls) st σ = zres k is (a0 :: a1 :: a2 :: a3 :: a4 :: vI v :: ls) (vI v :: st) σ := r_ld _ 0 5 _ rfl rfl rfl
theorem L_ild6 {k pc len : Nat} {x : Int} {is : List zCE} {ls st : List zV} {σ : zM} {a0 a1 a2 a3 a4 a5 : zV} (v : Int) : zres k ((pc, len, x, .iload 6) :: is) (a0 :: a1 :: a2 :: a3 :: a4 :: a5 :: vI v :: ls) st σ = zres k is (a0 :: a1 :: a2 :: a3 :: a4 :: a5 :: vI v :: ls) (vI v :: st) σ := r_ld _ 0 6 _ rfl rfl rfl
theorem L_lst7 {k pc len : Nat} {x : Int} {is : List zCE} {ls st : List zV} {σ : zM} {a0 a1 a2 a3 a4 a5 a6 : zV} {b0 b1 : zV} (v : Int) (h : (a6.1 == 1) = false) : zres k ((pc, len, x, .lstore 7) :: is) (a0 :: a1 :: a2 :: a3 :: a4 :: a5 :: a6 :: b0 :: b1 :: ls) (vL v :: st) σ = zres k is (a0 :: a1 :: a2 :: a3 :: a4 :: a5 :: a6 :: vL v :: vU :: ls) st σ := by
  rw [r_st _ 1 7 _ rfl rfl (by simp)]
  have h : ¬ a6.1 = 1 := by simpa using h
  simp only [zput, zkill, if_neg h]
  rfl
theorem L_lst7L {k pc len : Nat} {x : Int} {is : List zCE} {ls st : List zV} {σ : zM} {a0 a1 a2 a3 a4 a5 : zV} {b0 b1 : zV} (v w : Int) : zres k ((pc, len, x, .lstore 7) :: is) (a0 :: a1 :: a2 :: a3 :: a4 :: a5 :: vL w :: b0 :: b1 :: ls) (vL v :: st) σ = zres k is (a0 :: a1 :: a2 :: a3 :: a4 :: a5 :: vU :: vL v :: vU :: ls) st σ := r_st _ 1 7 _ rfl rfl (by simp)
theorem F_p33_4 {k pc len : Nat} {is : List zCE} {ls st : List zV} {σ : zM} (i : Nat) (v : Int) : zres k ((pc, len, 4, .putfield i) :: is) ls (vI v :: vR 33 :: st) σ = zres k is ls st (zU σ 33 4 v) := r_pf _ _ _ rfl
theorem F_p33_5 {k pc len : Nat} {is : List zCE} {ls st : List zV} {σ : zM} (i : Nat) (v : Int) : zres k ((pc, len, 5, .putfield i) :: is) ls (vI v :: vR 33 :: st) σ = zres k is ls st (zU σ 33 5 v) := r_pf _ _ _ rfl
theorem F_p33_6 {k pc len : Nat} {is : List zCE} {ls st : List zV} {σ : zM} (i : Nat) (v : Int) : zres k ((pc, len, 6, .putfield i) :: is) ls (vL v :: vR 33 :: st) σ = zres k is ls st (zU σ 33 6 v) := r_pf _ _ _ rfl
theorem F_p33_7 {k pc len : Nat} {is : List zCE} {ls st : List zV} {σ : zM} (i : Nat) (v : Int) : zres k ((pc, len, 7, .putfield i) :: is) ls (vL v :: vR 33 :: st) σ = zres k is ls st (zU σ 33 7 v) := r_pf _ _ _ rfl
theorem L_lld7 {k pc len : Nat} {x : Int} {is : List zCE} {ls st : List zV} {σ : zM} {a0 a1 a2 a3 a4 a5 a6 : zV} (v : Int) : zres k ((pc, len, x, .lload 7) :: is) (a0 :: a1 :: a2 :: a3 :: a4 :: a5 :: a6 :: vL v :: ls) st σ = zres k is (a0 :: a1 :: a2 :: a3 :: a4 :: a5 :: a6 :: vL v :: ls) (vL v :: st) σ := r_ld _ 1 7 _ rfl rfl rfl
theorem F_p33_2 {k pc len : Nat} {is : List zCE} {ls st : List zV} {σ : zM} (i : Nat) (v : Int) : zres k ((pc, len, 2, .putfield i) :: is) ls (vI v :: vR 33 :: st) σ = zres k is ls st (zU σ 33 2 v) := r_pf _ _ _ rfl
theorem F_p33_3 {k pc len : Nat} {is : List zCE} {ls st : List zV} {σ : zM} (i : Nat) (v : Int) : zres k ((pc, len, 3, .putfield i) :: is) ls (vI v :: vR 33 :: st) σ = zres k is ls st (zU σ 33 3 v) := r_pf _ _ _ rfl
theorem F_g33_3 {k pc len : Nat} {is : List zCE} {ls st : List zV} {σ : zM} (i : Nat) : zres k ((pc, len, 3, .getfield i) :: is) ls (vR 33 :: st) σ = zres k is ls (vI (σ 33 3) :: st) σ := r_gf _ _ _ rfl
theorem L_ald_n2 {k pc len : Nat} {x : Int} {is : List zCE} {ls st : List zV} {σ : zM} {a0 a1 : zV} (v : Int) : zres k ((pc, len, x, .aload_n 2) :: is) (a0 :: a1 :: vR v :: ls) st σ = zres k is (a0 :: a1 :: vR v :: ls) (vR v :: st) σ := r_ld _ 2 2 _ rfl rfl rfl
theorem L_ist9 {k pc len : Nat} {x : Int} {is : List zCE} {ls st : List zV} {σ : zM} {a0 a1 a2 a3 a4 a5 a6 a7 a8 : zV} {b0 : zV} (v : Int) (h : (a8.1 == 1) = false) : zres k ((pc, len, x, .istore 9) :: is) (a0 :: a1 :: a2 :: a3 :: a4 :: a5 :: a6 :: a7 :: a8 :: b0 :: ls) (vI v :: st) σ = zres k is (a0 :: a1 :: a2 :: a3 :: a4 :: a5 :: a6 :: a7 :: a8 :: vI v :: ls) st σ := by
  rw [r_st _ 0 9 _ rfl rfl (by simp)]
  have h : ¬ a8.1 = 1 := by simpa using h
  simp only [zput, zkill, if_neg h]
  rfl
theorem L_ist9L {k pc len : Nat} {x : Int} {is : List zCE} {ls st : List zV} {σ : zM} {a0 a1 a2 a3 a4 a5 a6 a7 : zV} {b0 : zV} (v w : Int) : zres k ((pc, len, x, .istore 9) :: is) (a0 :: a1 :: a2 :: a3 :: a4 :: a5 :: a6 :: a7 :: vL w :: b0 :: ls) (vI v :: st) σ = zres k is (a0 :: a1 :: a2 :: a3 :: a4 :: a5 :: a6 :: a7 :: vU :: vI v :: ls) st σ := r_st _ 0 9 _ rfl rfl (by simp)
theorem L_ild9 {k pc len : Nat} {x : Int} {is : List zCE} {ls st : List zV} {σ : zM} {a0 a1 a2 a3 a4 a5 a6 a7 a8 : zV} (v : Int) : zres k ((pc, len, x, .iload 9) :: is) (a0 :: a1 :: a2 :: a3 :: a4 :: a5 :: a6 :: a7 :: a8 :: vI v :: ls) st σ = zres k is (a0 :: a1 :: a2 :: a3 :: a4 :: a5 :: a6 :: a7 :: a8 :: vI v :: ls) (vI v :: st) σ := r_ld _ 0 9 _ rfl rfl rfl
theorem L_ist10 {k pc len : Nat} {x : Int} {is : List zCE} {ls st : List zV} {σ : zM} {a0 a1 a2 a3 a4 a5 a6 a7 a8 a9 : zV} {b0 : zV} (v : Int) (h : (a9.1 == 1) = false) : zres k ((pc, len, x, .istore 10) :: is) (a0 :: a1 :: a2 :: a3 :: a4 :: a5 :: a6 :: a7 :: a8 :: a9 :: b0 :: ls) (vI v :: st) σ = zres k is (a0 :: a1 :: a2 :: a3 :: a4 :: a5 :: a6 :: a7 :: a8 :: a9 :: vI v :: ls) st σ := by
  rw [r_st _ 0 10 _ rfl rfl (by simp)]
  have h : ¬ a9.1 = 1 := by simpa using h
  simp only [zput, zkill, if_neg h]
  rfl
theorem L_ist10L {k pc len : Nat} {x : Int} {is : List zCE} {ls st : List zV} {σ : zM} {a0 a1 a2 a3 a4 a5 a6 a7 a8 : zV} {b0 : zV} (v w : Int) : zres k ((pc, len, x, .istore 10) :: is) (a0 :: a1 :: a2 :: a3 :: a4 :: a5 :: a6 :: a7 :: a8 :: vL w :: b0 :: ls) (vI v :: st) σ = zres k is (a0 :: a1 :: a2 :: a3 :: a4 :: a5 :: a6 :: a7 :: a8 :: vU :: vI v :: ls) st σ := r_st _ 0 10 _ rfl rfl (by simp)
theorem F_g33_0 {k pc len : Nat} {is : List zCE} {ls st : List zV} {σ : zM} (i : Nat) : zres k ((pc, len, 0, .getfield i) :: is) ls (vR 33 :: st) σ = zres k is ls (vR 34 :: st) σ := r_gf _ _ _ rfl
theorem L_ild10 {k pc len : Nat} {x : Int} {is : List zCE} {ls st : List zV} {σ : zM} {a0 a1 a2 a3 a4 a5 a6 a7 a8 a9 : zV} (v : Int) : zres k ((pc, len, x, .iload 10) :: is) (a0 :: a1 :: a2 :: a3 :: a4 :: a5 :: a6 :: a7 :: a8 :: a9 :: vI v :: ls) st σ = zres k is (a0 :: a1 :: a2 :: a3 :: a4 :: a5 :: a6 :: a7 :: a8 :: a9 :: vI v :: ls) (vI v :: st) σ := r_ld _ 0 10 _ rfl rfl rfl
theorem L_iinc9 {k pc len : Nat} {x : Int} {is : List zCE} {ls st : List zV} {σ : zM} {a0 a1 a2 a3 a4 a5 a6 a7 a8 : zV} (c v : Int) (h : (a8.1 == 1) = false) : zres k ((pc, len, x, .iinc 9 c) :: is) (a0 :: a1 :: a2 :: a3 :: a4 :: a5 :: a6 :: a7 :: a8 :: vI v :: ls) st σ = zres k is (a0 :: a1 :: a2 :: a3 :: a4 :: a5 :: a6 :: a7 :: a8 :: vI (v + c) :: ls) st σ := by
  rw [r_iinc 9 c v rfl]
  have h : ¬ a8.1 = 1 := by simpa using h
  simp only [zput, zkill, if_neg h]
  rfl
theorem L_lld_n3 {k pc len : Nat} {x : Int} {is : List zCE} {ls st : List zV} {σ : zM} {a0 a1 a2 : zV} (v : Int) : zres k ((pc, len, x, .lload_n 3) :: is) (a0 :: a1 :: a2 :: vL v :: ls) st σ = zres k is (a0 :: a1 :: a2 :: vL v :: ls) (vL v :: st) σ := r_ld _ 1 3 _ rfl rfl rfl
theorem L_lst11 {k pc len : Nat} {x : Int} {is : List zCE} {ls st : List zV} {σ : zM} {a0 a1 a2 a3 a4 a5 a6 a7 a8 a9 a10 : zV} {b0 b1 : zV} (v : Int) (h : (a10.1 == 1) = false) : zres k ((pc, len, x, .lstore 11) :: is) (a0 :: a1 :: a2 :: a3 :: a4 :: a5 :: a6 :: a7 :: a8 :: a9 :: a10 :: b0 :: b1 :: ls) (vL v :: st) σ = zres k is (a0 :: a1 :: a2 :: a3 :: a4 :: a5 :: a6 :: a7 :: a8 :: a9 :: a10 :: vL v :: vU :: ls) st σ := by
  rw [r_st _ 1 11 _ rfl rfl (by simp)]
  have h : ¬ a10.1 = 1 := by simpa using h
  simp only [zput, zkill, if_neg h]
  rfl
theorem L_lst11L {k pc len : Nat} {x : Int} {is : List zCE} {ls st : List zV} {σ : zM} {a0 a1 a2 a3 a4 a5 a6 a7 a8 a9 : zV} {b0 b1 : zV} (v w : Int) : zres k ((pc, len, x, .lstore 11) :: is) (a0 :: a1 :: a2 :: a3 :: a4 :: a5 :: a6 :: a7 :: a8 :: a9 :: vL w :: b0 :: b1 :: ls) (vL v :: st) σ = zres k is (a0 :: a1 :: a2 :: a3 :: a4 :: a5 :: a6 :: a7 :: a8 :: a9 :: vU :: vL v :: vU :: ls) st σ := r_st _ 1 11 _ rfl rfl (by simp)
theorem L_lld11 {k pc len : Nat} {x : Int} {is : List zCE} {ls st : List zV} {σ : zM} {a0 a1 a2 a3 a4 a5 a6 a7 a8 a9 a10 : zV} (v : Int) : zres k ((pc, len, x, .lload 11) :: is) (a0 :: a1 :: a2 :: a3 :: a4 :: a5 :: a6 :: a7 :: a8 :: a9 :: a10 :: vL v :: ls) st σ = zres k is (a0 :: a1 :: a2 :: a3 :: a4 :: a5 :: a6 :: a7 :: a8 :: a9 :: a10 :: vL v :: ls) (vL v :: st) σ := r_ld _ 1 11 _ rfl rfl rfl
theorem F_g33_4 {k pc len : Nat} {is : List zCE} {ls st : List zV} {σ : zM} (i : Nat) : zres k ((pc, len, 4, .getfield i) :: is) ls (vR 33 :: st) σ = zres k is ls (vI (σ 33 4) :: st) σ := r_gf _ _ _ rfl
theorem L_ist_n3 {k pc len : Nat} {x : Int} {is : List zCE} {ls st : List zV} {σ : zM} {a0 a1 a2 : zV} {b0 : zV} (v : Int) (h : (a2.1 == 1) = false) : zres k ((pc, len, x, .istore_n 3) :: is) (a0 :: a1 :: a2 :: b0 :: ls) (vI v :: st) σ = zres k is (a0 :: a1 :: a2 :: vI v :: ls) st σ := by
  rw [r_st _ 0 3 _ rfl rfl (by simp)]
  have h : ¬ a2.1 = 1 := by simpa using h
  simp only [zput, zkill, if_neg h]
  rfl
theorem L_ist_n3L {k pc len : Nat} {x : Int} {is : List zCE} {ls st : List zV} {σ : zM} {a0 a1 : zV} {b0 : zV} (v w : Int) : zres k ((pc, len, x, .istore_n 3) :: is) (a0 :: a1 :: vL w :: b0 :: ls) (vI v :: st) σ = zres k is (a0 :: a1 :: vU :: vI v :: ls) st σ := r_st _ 0 3 _ rfl rfl (by simp)
theorem L_ist4 {k pc len : Nat} {x : Int} {is : List zCE} {ls st : List zV} {σ : zM} {a0 a1 a2 a3 : zV} {b0 : zV} (v : Int) (h : (a3.1 == 1) = false) : zres k ((pc, len, x, .istore 4) :: is) (a0 :: a1 :: a2 :: a3 :: b0 :: ls) (vI v :: st) σ = zres k is (a0 :: a1 :: a2 :: a3 :: vI v :: ls) st σ := by
  rw [r_st _ 0 4 _ rfl rfl (by simp)]
  have h : ¬ a3.1 = 1 := by simpa using h
  simp only [zput, zkill, if_neg h]
  rfl
theorem L_ist4L {k pc len : Nat} {x : Int} {is : List zCE} {ls st : List zV} {σ : zM} {a0 a1 a2 : zV} {b0 : zV} (v w : Int) : zres k ((pc, len, x, .istore 4) :: is) (a0 :: a1 :: a2 :: vL w :: b0 :: ls) (vI v :: st) σ = zres k is (a0 :: a1 :: a2 :: vU :: vI v :: ls) st σ := r_st _ 0 4 _ rfl rfl (by simp)
theorem F_g33_2 {k pc len : Nat} {is : List zCE} {ls st : List zV} {σ : zM} (i : Nat) : zres k ((pc, len, 2, .getfield i) :: is) ls (vR 33 :: st) σ = zres k is ls (vI (σ 33 2) :: st) σ := r_gf _ _ _ rfl
theorem L_iinc4 {k pc len : Nat} {x : Int} {is : List zCE} {ls st : List zV} {σ : zM} {a0 a1 a2 a3 : zV} (c v : Int) (h : (a3.1 == 1) = false) : zres k ((pc, len, x, .iinc 4 c) :: is) (a0 :: a1 :: a2 :: a3 :: vI v :: ls) st σ = zres k is (a0 :: a1 :: a2 :: a3 :: vI (v + c) :: ls) st σ := by
  rw [r_iinc 4 c v rfl]
  have h : ¬ a3.1 = 1 := by simpa using h
  simp only [zput, zkill, if_neg h]
  rfl
theorem L_lst_n2 {k pc len : Nat} {x : Int} {is : List zCE} {ls st : List zV} {σ : zM} {a0 a1 : zV} {b0 b1 : zV} (v : Int) (h : (a1.1 == 1) = false) : zres k ((pc, len, x, .lstore_n 2) :: is) (a0 :: a1 :: b0 :: b1 :: ls) (vL v :: st) σ = zres k is (a0 :: a1 :: vL v :: vU :: ls) st σ := by
  rw [r_st _ 1 2 _ rfl rfl (by simp)]
  have h : ¬ a1.1 = 1 := by simpa using h
  simp only [zput, zkill, if_neg h]
  rfl
theorem L_lst_n2L {k pc len : Nat} {x : Int} {is : List zCE} {ls st : List zV} {σ : zM} {a0 : zV} {b0 b1 : zV} (v w : Int) : zres k ((pc, len, x, .lstore_n 2) :: is) (a0 :: vL w :: b0 :: b1 :: ls) (vL v :: st) σ = zres k is (a0 :: vU :: vL v :: vU :: ls) st σ := r_st _ 1 2 _ rfl rfl (by simp)
theorem L_lld_n2 {k pc len : Nat} {x : Int} {is : List zCE} {ls st : List zV} {σ : zM} {a0 a1 : zV} (v : Int) : zres k ((pc, len, x, .lload_n 2) :: is) (a0 :: a1 :: vL v :: ls) st σ = zres k is (a0 :: a1 :: vL v :: ls) (vL v :: st) σ := r_ld _ 1 2 _ rfl rfl rfl
theorem F_g33_7 {k pc len : Nat} {is : List zCE} {ls st : List zV} {σ : zM} (i : Nat) : zres k ((pc, len, 7, .getfield i) :: is) ls (vR 33 :: st) σ = zres k is ls (vL (σ 33 7) :: st) σ := r_gf _ _ _ rfl
theorem F_g33_5 {k pc len : Nat} {is : List zCE} {ls st : List zV} {σ : zM} (i : Nat) : zres k ((pc, len, 5, .getfield i) :: is) ls (vR 33 :: st) σ = zres k is ls (vI (σ 33 5) :: st) σ := r_gf _ _ _ rfl
theorem F_g33_6 {k pc len : Nat} {is : List zCE} {ls st : List zV} {σ : zM} (i : Nat) : zres k ((pc, len, 6, .getfield i) :: is) ls (vR 33 :: st) σ = zres k is ls (vL (σ 33 6) :: st) σ := r_gf _ _ _ rfl
theorem F_p33_8 {k pc len : Nat} {is : List zCE} {ls st : List zV} {σ : zM} (i : Nat) (v : Int) : zres k ((pc, len, 8, .putfield i) :: is) ls (vL v :: vR 33 :: st) σ = zres k is ls st (zU σ 33 8 v) := r_pf _ _ _ rfl
theorem F_p33_9 {k pc len : Nat} {is : List zCE} {ls st : List zV} {σ : zM} (i : Nat) (v : Int) : zres k ((pc, len, 9, .putfield i) :: is) ls (vL v :: vR 33 :: st) σ = zres k is ls st (zU σ 33 9 v) := r_pf _ _ _ rfl
theorem L_ild_n1 {k pc len : Nat} {x : Int} {is : List zCE} {ls st : List zV} {σ : zM} {a0 : zV} (v : Int) : zres k ((pc, len, x, .iload_n 1) :: is) (a0 :: vI v :: ls) st σ = zres k is (a0 :: vI v :: ls) (vI v :: st) σ := r_ld _ 0 1 _ rfl rfl rfl
theorem L_ist_n2 {k pc len : Nat} {x : Int} {is : List zCE} {ls st : List zV} {σ : zM} {a0 a1 : zV} {b0 : zV} (v : Int) (h : (a1.1 == 1) = false) : zres k ((pc, len, x, .istore_n 2) :: is) (a0 :: a1 :: b0 :: ls) (vI v :: st) σ = zres k is (a0 :: a1 :: vI v :: ls) st σ := by
  rw [r_st _ 0 2 _ rfl rfl (by simp)]
  have h : ¬ a1.1 = 1 := by simpa using h
  simp only [zput, zkill, if_neg h]
  rfl
theorem L_ist_n2L {k pc len : Nat} {x : Int} {is : List zCE} {ls st : List zV} {σ : zM} {a0 : zV} {b0 : zV} (v w : Int) : zres k ((pc, len, x, .istore_n 2) :: is) (a0 :: vL w :: b0 :: ls) (vI v :: st) σ = zres k is (a0 :: vU :: vI v :: ls) st σ := r_st _ 0 2 _ rfl rfl (by simp)
theorem L_iinc3 {k pc len : Nat} {x : Int} {is : List zCE} {ls st : List zV} {σ : zM} {a0 a1 a2 : zV} (c v : Int) (h : (a2.1 == 1) = false) : zres k ((pc, len, x, .iinc 3 c) :: is) (a0 :: a1 :: a2 :: vI v :: ls) st σ = zres k is (a0 :: a1 :: a2 :: vI (v + c) :: ls) st σ := by
  rw [r_iinc 3 c v rfl]
  have h : ¬ a2.1 = 1 := by simpa using h
  simp only [zput, zkill, if_neg h]
  rfl
theorem F_g8_2 {k pc len : Nat} {is : List zCE} {ls st : List zV} {σ : zM} (i : Nat) : zres k ((pc, len, 34, .getfield i) :: is) ls (vR 8 :: st) σ = zres k is ls (vI (σ 8 2) :: st) σ := r_gf _ _ _ rfl
theorem F_g11_2 {k pc len : Nat} {is : List zCE} {ls st : List zV} {σ : zM} (i : Nat) : zres k ((pc, len, 34, .getfield i) :: is) ls (vR 11 :: st) σ = zres k is ls (vI (σ 11 2) :: st) σ := r_gf _ _ _ rfl
theorem F_g14_2 {k pc len : Nat} {is : List zCE} {ls st : List zV} {σ : zM} (i : Nat) : zres k ((pc, len, 34, .getfield i) :: is) ls (vR 14 :: st) σ = zres k is ls (vI (σ 14 2) :: st) σ := r_gf _ _ _ rfl
theorem F_g24_2 {k pc len : Nat} {is : List zCE} {ls st : List zV} {σ : zM} (i : Nat) : zres k ((pc, len, 34, .getfield i) :: is) ls (vR 24 :: st) σ = zres k is ls (vI (σ 24 2) :: st) σ := r_gf _ _ _ rfl
theorem F_g27_2 {k pc len : Nat} {is : List zCE} {ls st : List zV} {σ : zM} (i : Nat) : zres k ((pc, len, 34, .getfield i) :: is) ls (vR 27 :: st) σ = zres k is ls (vI (σ 27 2) :: st) σ := r_gf _ _ _ rfl
theorem F_g30_2 {k pc len : Nat} {is : List zCE} {ls st : List zV} {σ : zM} (i : Nat) : zres k ((pc, len, 34, .getfield i) :: is) ls (vR 30 :: st) σ = zres k is ls (vI (σ 30 2) :: st) σ := r_gf _ _ _ rfl
theorem F_g8_0 {k pc len : Nat} {is : List zCE} {ls st : List zV} {σ : zM} (i : Nat) : zres k ((pc, len, 32, .getfield i) :: is) ls (vR 8 :: st) σ = zres k is ls (vR 9 :: st) σ := r_gf _ _ _ rfl
theorem F_g11_0 {k pc len : Nat} {is : List zCE} {ls st : List zV} {σ : zM} (i : Nat) : zres k ((pc, len, 32, .getfield i) :: is) ls (vR 11 :: st) σ = zres k is ls (vR 12 :: st) σ := r_gf _ _ _ rfl
theorem F_g14_0 {k pc len : Nat} {is : List zCE} {ls st : List zV} {σ : zM} (i : Nat) : zres k ((pc, len, 32, .getfield i) :: is) ls (vR 14 :: st) σ = zres k is ls (vR 15 :: st) σ := r_gf _ _ _ rfl
theorem F_g24_0 {k pc len : Nat} {is : List zCE} {ls st : List zV} {σ : zM} (i : Nat) : zres k ((pc, len, 32, .getfield i) :: is) ls (vR 24 :: st) σ = zres k is ls (vR 25 :: st) σ := r_gf _ _ _ rfl
theorem F_g27_0 {k pc len : Nat} {is : List zCE} {ls st : List zV} {σ : zM} (i : Nat) : zres k ((pc, len, 32, .getfield i) :: is) ls (vR 27 :: st) σ = zres k is ls (vR 28 :: st) σ := r_gf _ _ _ rfl
theorem F_g30_0 {k pc len : Nat} {is : List zCE} {ls st : List zV} {σ : zM} (i : Nat) : zres k ((pc, len, 32, .getfield i) :: is) ls (vR 30 :: st) σ = zres k is ls (vR 31 :: st) σ := r_gf _ _ _ rfl
theorem F_g8_1 {k pc len : Nat} {is : List zCE} {ls st : List zV} {σ : zM} (i : Nat) : zres k ((pc, len, 33, .getfield i) :: is) ls (vR 8 :: st) σ = zres k is ls (vR 10 :: st) σ := r_gf _ _ _ rfl
theorem F_g11_1 {k pc len : Nat} {is : List zCE} {ls st : List zV} {σ : zM} (i : Nat) : zres k ((pc, len, 33, .getfield i) :: is) ls (vR 11 :: st) σ = zres k is ls (vR 13 :: st) σ := r_gf _ _ _ rfl
theorem F_g14_1 {k pc len : Nat} {is : List zCE} {ls st : List zV} {σ : zM} (i : Nat) : zres k ((pc, len, 33, .getfield i) :: is) ls (vR 14 :: st) σ = zres k is ls (vR 16 :: st) σ := r_gf _ _ _ rfl
theorem F_g24_1 {k pc len : Nat} {is : List zCE} {ls st : List zV} {σ : zM} (i : Nat) : zres k ((pc, len, 33, .getfield i) :: is) ls (vR 24 :: st) σ = zres k is ls (vR 26 :: st) σ := r_gf _ _ _ rfl
theorem F_g27_1 {k pc len : Nat} {is : List zCE} {ls st : List zV} {σ : zM} (i : Nat) : zres k ((pc, len, 33, .getfield i) :: is) ls (vR 27 :: st) σ = zres k is ls (vR 29 :: st) σ := r_gf _ _ _ rfl
theorem F_g30_1 {k pc len : Nat} {is : List zCE} {ls st : List zV} {σ : zM} (i : Nat) : zres k ((pc, len, 33, .getfield i) :: is) ls (vR 30 :: st) σ = zres k is ls (vR 32 :: st) σ := r_gf _ _ _ rfl
theorem F_p8_2 {k pc len : Nat} {is : List zCE} {ls st : List zV} {σ : zM} (i : Nat) (v : Int) : zres k ((pc, len, 34, .putfield i) :: is) ls (vI v :: vR 8 :: st) σ = zres k is ls st (zU σ 8 2 v) := r_pf _ _ _ rfl
theorem F_p11_2 {k pc len : Nat} {is : List zCE} {ls st : List zV} {σ : zM} (i : Nat) (v : Int) : zres k ((pc, len, 34, .putfield i) :: is) ls (vI v :: vR 11 :: st) σ = zres k is ls st (zU σ 11 2 v) := r_pf _ _ _ rfl
theorem F_p14_2 {k pc len : Nat} {is : List zCE} {ls st : List zV} {σ : zM} (i : Nat) (v : Int) : zres k ((pc, len, 34, .putfield i) :: is) ls (vI v :: vR 14 :: st) σ = zres k is ls st (zU σ 14 2 v) := r_pf _ _ _ rfl
theorem F_p24_2 {k pc len : Nat} {is : List zCE} {ls st : List zV} {σ : zM} (i : Nat) (v : Int) : zres k ((pc, len, 34, .putfield i) :: is) ls (vI v :: vR 24 :: st) σ = zres k is ls st (zU σ 24 2 v) := r_pf _ _ _ rfl
theorem F_p27_2 {k pc len : Nat} {is : List zCE} {ls st : List zV} {σ : zM} (i : Nat) (v : Int) : zres k ((pc, len, 34, .putfield i) :: is) ls (vI v :: vR 27 :: st) σ = zres k is ls st (zU σ 27 2 v) := r_pf _ _ _ rfl
theorem F_p30_2 {k pc len : Nat} {is : List zCE} {ls st : List zV} {σ : zM} (i : Nat) (v : Int) : zres k ((pc, len, 34, .putfield i) :: is) ls (vI v :: vR 30 :: st) σ = zres k is ls st (zU σ 30 2 v) := r_pf _ _ _ rfl
theorem F_p1_0 {k pc len : Nat} {is : List zCE} {ls st : List zV} {σ : zM} (i : Nat) (v : Int) : zres k ((pc, len, 64, .putfield i) :: is) ls (vI v :: vR 1 :: st) σ = zres k is ls st (zU σ 1 0 v) := r_pf _ _ _ rfl
theorem F_p17_0 {k pc len : Nat} {is : List zCE} {ls st : List zV} {σ : zM} (i : Nat) (v : Int) : zres k ((pc, len, 64, .putfield i) :: is) ls (vI v :: vR 17 :: st) σ = zres k is ls st (zU σ 17 0 v) := r_pf _ _ _ rfl
theorem F_p1_1 {k pc len : Nat} {is : List zCE} {ls st : List zV} {σ : zM} (i : Nat) (v : Int) : zres k ((pc, len, 65, .putfield i) :: is) ls (vI v :: vR 1 :: st) σ = zres k is ls st (zU σ 1 1 v) := r_pf _ _ _ rfl
theorem F_p17_1 {k pc len : Nat} {is : List zCE} {ls st : List zV} {σ : zM} (i : Nat) (v : Int) : zres k ((pc, len, 65, .putfield i) :: is) ls (vI v :: vR 17 :: st) σ = zres k is ls st (zU σ 17 1 v) := r_pf _ _ _ rfl
theorem F_g1_8 {k pc len : Nat} {is : List zCE} {ls st : List zV} {σ : zM} (i : Nat) : zres k ((pc, len, 72, .getfield i) :: is) ls (vR 1 :: st) σ = zres k is ls (vR 8 :: st) σ := r_gf _ _ _ rfl
theorem F_g17_8 {k pc len : Nat} {is : List zCE} {ls st : List zV} {σ : zM} (i : Nat) : zres k ((pc, len, 72, .getfield i) :: is) ls (vR 17 :: st) σ = zres k is ls (vR 24 :: st) σ := r_gf _ _ _ rfl
theorem F_g1_9 {k pc len : Nat} {is : List zCE} {ls st : List zV} {σ : zM} (i : Nat) : zres k ((pc, len, 73, .getfield i) :: is) ls (vR 1 :: st) σ = zres k is ls (vR 11 :: st) σ := r_gf _ _ _ rfl
theorem F_g17_9 {k pc len : Nat} {is : List zCE} {ls st : List zV} {σ : zM} (i : Nat) : zres k ((pc, len, 73, .getfield i) :: is) ls (vR 17 :: st) σ = zres k is ls (vR 27 :: st) σ := r_gf _ _ _ rfl
theorem F_g1_10 {k pc len : Nat} {is : List zCE} {ls st : List zV} {σ : zM} (i : Nat) : zres k ((pc, len, 74, .getfield i) :: is) ls (vR 1 :: st) σ = zres k is ls (vR 14 :: st) σ := r_gf _ _ _ rfl
theorem F_g17_10 {k pc len : Nat} {is : List zCE} {ls st : List zV} {σ : zM} (i : Nat) : zres k ((pc, len, 74, .getfield i) :: is) ls (vR 17 :: st) σ = zres k is ls (vR 30 :: st) σ := r_gf _ _ _ rfl
theorem F_g1_1 {k pc len : Nat} {is : List zCE} {ls st : List zV} {σ : zM} (i : Nat) : zres k ((pc, len, 65, .getfield i) :: is) ls (vR 1 :: st) σ = zres k is ls (vI (σ 1 1) :: st) σ := r_gf _ _ _ rfl
theorem F_g17_1 {k pc len : Nat} {is : List zCE} {ls st : List zV} {σ : zM} (i : Nat) : zres k ((pc, len, 65, .getfield i) :: is) ls (vR 17 :: st) σ = zres k is ls (vI (σ 17 1) :: st) σ := r_gf _ _ _ rfl
theorem L_ist_n1 {k pc len : Nat} {x : Int} {is : List zCE} {ls st : List zV} {σ : zM} {a0 : zV} {b0 : zV} (v : Int) (h : (a0.1 == 1) = false) : zres k ((pc, len, x, .istore_n 1) :: is) (a0 :: b0 :: ls) (vI v :: st) σ = zres k is (a0 :: vI v :: ls) st σ := by
  rw [r_st _ 0 1 _ rfl rfl (by simp)]
  have h : ¬ a0.1 = 1 := by simpa using h
  simp only [zput, zkill, if_neg h]
  rfl
theorem L_ist_n1L {k pc len : Nat} {x : Int} {is : List zCE} {ls st : List zV} {σ : zM} {b0 : zV} (v w : Int) : zres k ((pc, len, x, .istore_n 1) :: is) (vL w :: b0 :: ls) (vI v :: st) σ = zres k is (vU :: vI v :: ls) st σ := r_st _ 0 1 _ rfl rfl (by simp)
theorem F_g1_2 {k pc len : Nat} {is : List zCE} {ls st : List zV} {σ : zM} (i : Nat) : zres k ((pc, len, 66, .getfield i) :: is) ls (vR 1 :: st) σ = zres k is ls (vR 2 :: st) σ := r_gf _ _ _ rfl
theorem F_g17_2 {k pc len : Nat} {is : List zCE} {ls st : List zV} {σ : zM} (i : Nat) : zres k ((pc, len, 66, .getfield i) :: is) ls (vR 17 :: st) σ = zres k is ls (vR 18 :: st) σ := r_gf _ _ _ rfl
theorem L_iinc2 {k pc len : Nat} {x : Int} {is : List zCE} {ls st : List zV} {σ : zM} {a0 a1 : zV} (c v : Int) (h : (a1.1 == 1) = false) : zres k ((pc, len, x, .iinc 2 c) :: is) (a0 :: a1 :: vI v :: ls) st σ = zres k is (a0 :: a1 :: vI (v + c) :: ls) st σ := by
  rw [r_iinc 2 c v rfl]
  have h : ¬ a1.1 = 1 := by simpa using h
  simp only [zput, zkill, if_neg h]
  rfl
theorem F_g1_3 {k pc len : Nat} {is : List zCE} {ls st : List zV} {σ : zM} (i : Nat) : zres k ((pc, len, 67, .getfield i) :: is) ls (vR 1 :: st) σ = zres k is ls (vR 7 :: st) σ := r_gf _ _ _ rfl
theorem F_g17_3 {k pc len : Nat} {is : List zCE} {ls st : List zV} {σ : zM} (i : Nat) : zres k ((pc, len, 67, .getfield i) :: is) ls (vR 17 :: st) σ = zres k is ls (vR 23 :: st) σ := r_gf _ _ _ rfl
theorem F_p1_4 {k pc len : Nat} {is : List zCE} {ls st : List zV} {σ : zM} (i : Nat) (v : Int) : zres k ((pc, len, 68, .putfield i) :: is) ls (vI v :: vR 1 :: st) σ = zres k is ls st (zU σ 1 4 v) := r_pf _ _ _ rfl
theorem F_p17_4 {k pc len : Nat} {is : List zCE} {ls st : List zV} {σ : zM} (i : Nat) (v : Int) : zres k ((pc, len, 68, .putfield i) :: is) ls (vI v :: vR 17 :: st) σ = zres k is ls st (zU σ 17 4 v) := r_pf _ _ _ rfl
theorem F_p1_5 {k pc len : Nat} {is : List zCE} {ls st : List zV} {σ : zM} (i : Nat) (v : Int) : zres k ((pc, len, 69, .putfield i) :: is) ls (vI v :: vR 1 :: st) σ = zres k is ls st (zU σ 1 5 v) := r_pf _ _ _ rfl
theorem F_p17_5 {k pc len : Nat} {is : List zCE} {ls st : List zV} {σ : zM} (i : Nat) (v : Int) : zres k ((pc, len, 69, .putfield i) :: is) ls (vI v :: vR 17 :: st) σ = zres k is ls st (zU σ 17 5 v) := r_pf _ _ _ rfl
theorem F_p1_6 {k pc len : Nat} {is : List zCE} {ls st : List zV} {σ : zM} (i : Nat) (v : Int) : zres k ((pc, len, 70, .putfield i) :: is) ls (vL v :: vR 1 :: st) σ = zres k is ls st (zU σ 1 6 v) := r_pf _ _ _ rfl
theorem F_p17_6 {k pc len : Nat} {is : List zCE} {ls st : List zV} {σ : zM} (i : Nat) (v : Int) : zres k ((pc, len, 70, .putfield i) :: is) ls (vL v :: vR 17 :: st) σ = zres k is ls st (zU σ 17 6 v) := r_pf _ _ _ rfl
theorem F_p1_7 {k pc len : Nat} {is : List zCE} {ls st : List zV} {σ : zM} (i : Nat) (v : Int) : zres k ((pc, len, 71, .putfield i) :: is) ls (vL v :: vR 1 :: st) σ = zres k is ls st (zU σ 1 7 v) := r_pf _ _ _ rfl
theorem F_p17_7 {k pc len : Nat} {is : List zCE} {ls st : List zV} {σ : zM} (i : Nat) (v : Int) : zres k ((pc, len, 71, .putfield i) :: is) ls (vL v :: vR 17 :: st) σ = zres k is ls st (zU σ 17 7 v) := r_pf _ _ _ rfl
theorem F_g1_4 {k pc len : Nat} {is : List zCE} {ls st : List zV} {σ : zM} (i : Nat) : zres k ((pc, len, 68, .getfield i) :: is) ls (vR 1 :: st) σ = zres k is ls (vI (σ 1 4) :: st) σ := r_gf _ _ _ rfl
theorem F_g17_4 {k pc len : Nat} {is : List zCE} {ls st : List zV} {σ : zM} (i : Nat) : zres k ((pc, len, 68, .getfield i) :: is) ls (vR 17 :: st) σ = zres k is ls (vI (σ 17 4) :: st) σ := r_gf _ _ _ rfl
theorem L_lld5 {k pc len : Nat} {x : Int} {is : List zCE} {ls st : List zV} {σ : zM} {a0 a1 a2 a3 a4 : zV} (v : Int) : zres k ((pc, len, x, .lload 5) :: is) (a0 :: a1 :: a2 :: a3 :: a4 :: vL v :: ls) st σ = zres k is (a0 :: a1 :: a2 :: a3 :: a4 :: vL v :: ls) (vL v :: st) σ := r_ld _ 1 5 _ rfl rfl rfl
theorem F_g1_5 {k pc len : Nat} {is : List zCE} {ls st : List zV} {σ : zM} (i : Nat) : zres k ((pc, len, 69, .getfield i) :: is) ls (vR 1 :: st) σ = zres k is ls (vI (σ 1 5) :: st) σ := r_gf _ _ _ rfl
theorem F_g17_5 {k pc len : Nat} {is : List zCE} {ls st : List zV} {σ : zM} (i : Nat) : zres k ((pc, len, 69, .getfield i) :: is) ls (vR 17 :: st) σ = zres k is ls (vI (σ 17 5) :: st) σ := r_gf _ _ _ rfl
theorem F_g1_6 {k pc len : Nat} {is : List zCE} {ls st : List zV} {σ : zM} (i : Nat) : zres k ((pc, len, 70, .getfield i) :: is) ls (vR 1 :: st) σ = zres k is ls (vL (σ 1 6) :: st) σ := r_gf _ _ _ rfl
theorem F_g17_6 {k pc len : Nat} {is : List zCE} {ls st : List zV} {σ : zM} (i : Nat) : zres k ((pc, len, 70, .getfield i) :: is) ls (vR 17 :: st) σ = zres k is ls (vL (σ 17 6) :: st) σ := r_gf _ _ _ rfl
theorem F_g1_7 {k pc len : Nat} {is : List zCE} {ls st : List zV} {σ : zM} (i : Nat) : zres k ((pc, len, 71, .getfield i) :: is) ls (vR 1 :: st) σ = zres k is ls (vL (σ 1 7) :: st) σ := r_gf _ _ _ rfl
theorem F_g17_7 {k pc len : Nat} {is : List zCE} {ls st : List zV} {σ : zM} (i : Nat) : zres k ((pc, len, 71, .getfield i) :: is) ls (vR 17 :: st) σ = zres k is ls (vL (σ 17 7) :: st) σ := r_gf _ _ _ rfl
theorem L_lst_n3 {k pc len : Nat} {x : Int} {is : List zCE} {ls st : List zV} {σ : zM} {a0 a1 a2 : zV} {b0 b1 : zV} (v : Int) (h : (a2.1 == 1) = false) : zres k ((pc, len, x, .lstore_n 3) :: is) (a0 :: a1 :: a2 :: b0 :: b1 :: ls) (vL v :: st) σ = zres k is (a0 :: a1 :: a2 :: vL v :: vU :: ls) st σ := by
  rw [r_st _ 1 3 _ rfl rfl (by simp)]
  have h : ¬ a2.1 = 1 := by simpa using h
  simp only [zput, zkill, if_neg h]
  rfl
theorem L_lst_n3L {k pc len : Nat} {x : Int} {is : List zCE} {ls st : List zV} {σ : zM} {a0 a1 : zV} {b0 b1 : zV} (v w : Int) : zres k ((pc, len, x, .lstore_n 3) :: is) (a0 :: a1 :: vL w :: b0 :: b1 :: ls) (vL v :: st) σ = zres k is (a0 :: a1 :: vU :: vL v :: vU :: ls) st σ := r_st _ 1 3 _ rfl rfl (by simp)
theorem L_iinc5 {k pc len : Nat} {x : Int} {is : List zCE} {ls st : List zV} {σ : zM} {a0 a1 a2 a3 a4 : zV} (c v : Int) (h : (a4.1 == 1) = false) : zres k ((pc, len, x, .iinc 5 c) :: is) (a0 :: a1 :: a2 :: a3 :: a4 :: vI v :: ls) st σ = zres k is (a0 :: a1 :: a2 :: a3 :: a4 :: vI (v + c) :: ls) st σ := by
  rw [r_iinc 5 c v rfl]
  have h : ¬ a4.1 = 1 := by simpa using h
  simp only [zput, zkill, if_neg h]
  rfl
theorem L_iinc1 {k pc len : Nat} {x : Int} {is : List zCE} {ls st : List zV} {σ : zM} {a0 : zV} (c v : Int) (h : (a0.1 == 1) = false) : zres k ((pc, len, x, .iinc 1 c) :: is) (a0 :: vI v :: ls) st σ = zres k is (a0 :: vI (v + c) :: ls) st σ := by
  rw [r_iinc 1 c v rfl]
  have h : ¬ a0.1 = 1 := by simpa using h
  simp only [zput, zkill, if_neg h]
  rfl
theorem F_g1_0 {k pc len : Nat} {is : List zCE} {ls st : List zV} {σ : zM} (i : Nat) : zres k ((pc, len, 64, .getfield i) :: is) ls (vR 1 :: st) σ = zres k is ls (vI (σ 1 0) :: st) σ := r_gf _ _ _ rfl
theorem F_g17_0 {k pc len : Nat} {is : List zCE} {ls st : List zV} {σ : zM} (i : Nat) : zres k ((pc, len, 64, .getfield i) :: is) ls (vR 17 :: st) σ = zres k is ls (vI (σ 17 0) :: st) σ := r_gf _ _ _ rfl
theorem F_g48_0 {k pc len : Nat} {is : List zCE} {ls st : List zV} {σ : zM} (i : Nat) : zres k ((pc, len, 96, .getfield i) :: is) ls (vR 48 :: st) σ = zres k is ls (vI (σ 48 0) :: st) σ := r_gf _ _ _ rfl
theorem F_g50_0 {k pc len : Nat} {is : List zCE} {ls st : List zV} {σ : zM} (i : Nat) : zres k ((pc, len, 96, .getfield i) :: is) ls (vR 50 :: st) σ = zres k is ls (vI (σ 50 0) :: st) σ := r_gf _ _ _ rfl
theorem F_g52_0 {k pc len : Nat} {is : List zCE} {ls st : List zV} {σ : zM} (i : Nat) : zres k ((pc, len, 96, .getfield i) :: is) ls (vR 52 :: st) σ = zres k is ls (vI (σ 52 0) :: st) σ := r_gf _ _ _ rfl
theorem F_g54_0 {k pc len : Nat} {is : List zCE} {ls st : List zV} {σ : zM} (i : Nat) : zres k ((pc, len, 96, .getfield i) :: is) ls (vR 54 :: st) σ = zres k is ls (vI (σ 54 0) :: st) σ := r_gf _ _ _ rfl
theorem F_g56_0 {k pc len : Nat} {is : List zCE} {ls st : List zV} {σ : zM} (i : Nat) : zres k ((pc, len, 96, .getfield i) :: is) ls (vR 56 :: st) σ = zres k is ls (vI (σ 56 0) :: st) σ := r_gf _ _ _ rfl
theorem F_g58_0 {k pc len : Nat} {is : List zCE} {ls st : List zV} {σ : zM} (i : Nat) : zres k ((pc, len, 96, .getfield i) :: is) ls (vR 58 :: st) σ = zres k is ls (vI (σ 58 0) :: st) σ := r_gf _ _ _ rfl
theorem F_gT_0 {k pc len : Nat} {is : List zCE} {ls st : List zV} {σ : zM} (i : Nat) (t : Int) (h : 0 ≤ t ∧ t < 6) : zres k ((pc, len, 96, .getfield i) :: is) ls (vR (48 + 2 * t) :: st) σ = zres k is ls (vI (σ (48 + 2 * t) 0) :: st) σ := by
  rcases (show t = 0 ∨ t = 1 ∨ t = 2 ∨ t = 3 ∨ t = 4 ∨ t = 5 by omega) with rfl | rfl | rfl | rfl | rfl | rfl <;> exact r_gf _ _ _ rfl
theorem F_p48_0 {k pc len : Nat} {is : List zCE} {ls st : List zV} {σ : zM} (i : Nat) (v : Int) : zres k ((pc, len, 96, .putfield i) :: is) ls (vI v :: vR 48 :: st) σ = zres k is ls st (zU σ 48 0 v) := r_pf _ _ _ rfl
theorem F_p50_0 {k pc len : Nat} {is : List zCE} {ls st : List zV} {σ : zM} (i : Nat) (v : Int) : zres k ((pc, len, 96, .putfield i) :: is) ls (vI v :: vR 50 :: st) σ = zres k is ls st (zU σ 50 0 v) := r_pf _ _ _ rfl
theorem F_p52_0 {k pc len : Nat} {is : List zCE} {ls st : List zV} {σ : zM} (i : Nat) (v : Int) : zres k ((pc, len, 96, .putfield i) :: is) ls (vI v :: vR 52 :: st) σ = zres k is ls st (zU σ 52 0 v) := r_pf _ _ _ rfl
theorem F_p54_0 {k pc len : Nat} {is : List zCE} {ls st : List zV} {σ : zM} (i : Nat) (v : Int) : zres k ((pc, len, 96, .putfield i) :: is) ls (vI v :: vR 54 :: st) σ = zres k is ls st (zU σ 54 0 v) := r_pf _ _ _ rfl
theorem F_p56_0 {k pc len : Nat} {is : List zCE} {ls st : List zV} {σ : zM} (i : Nat) (v : Int) : zres k ((pc, len, 96, .putfield i) :: is) ls (vI v :: vR 56 :: st) σ = zres k is ls st (zU σ 56 0 v) := r_pf _ _ _ rfl
theorem F_p58_0 {k pc len : Nat} {is : List zCE} {ls st : List zV} {σ : zM} (i : Nat) (v : Int) : zres k ((pc, len, 96, .putfield i) :: is) ls (vI v :: vR 58 :: st) σ = zres k is ls st (zU σ 58 0 v) := r_pf _ _ _ rfl
theorem F_pT_0 {k pc len : Nat} {is : List zCE} {ls st : List zV} {σ : zM} (i : Nat) (t v : Int) (h : 0 ≤ t ∧ t < 6) : zres k ((pc, len, 96, .putfield i) :: is) ls (vI v :: vR (48 + 2 * t) :: st) σ = zres k is ls st (zU σ (48 + 2 * t) 0 v) := by
  rcases (show t = 0 ∨ t = 1 ∨ t = 2 ∨ t = 3 ∨ t = 4 ∨ t = 5 by omega) with rfl | rfl | rfl | rfl | rfl | rfl <;> exact r_pf _ _ _ rfl
theorem F_p48_1 {k pc len : Nat} {is : List zCE} {ls st : List zV} {σ : zM} (i : Nat) (v : Int) : zres k ((pc, len, 97, .putfield i) :: is) ls (vI v :: vR 48 :: st) σ = zres k is ls st (zU σ 48 1 v) := r_pf _ _ _ rfl
theorem F_p50_1 {k pc len : Nat} {is : List zCE} {ls st : List zV} {σ : zM} (i : Nat) (v : Int) : zres k ((pc, len, 97, .putfield i) :: is) ls (vI v :: vR 50 :: st) σ = zres k is ls st (zU σ 50 1 v) := r_pf _ _ _ rfl
theorem F_p52_1 {k pc len : Nat} {is : List zCE} {ls st : List zV} {σ : zM} (i : Nat) (v : Int) : zres k ((pc, len, 97, .putfield i) :: is) ls (vI v :: vR 52 :: st) σ = zres k is ls st (zU σ 52 1 v) := r_pf _ _ _ rfl
theorem F_p54_1 {k pc len : Nat} {is : List zCE} {ls st : List zV} {σ : zM} (i : Nat) (v : Int) : zres k ((pc, len, 97, .putfield i) :: is) ls (vI v :: vR 54 :: st) σ = zres k is ls st (zU σ 54 1 v) := r_pf _ _ _ rfl
theorem F_p56_1 {k pc len : Nat} {is : List zCE} {ls st : List zV} {σ : zM} (i : Nat) (v : Int) : zres k ((pc, len, 97, .putfield i) :: is) ls (vI v :: vR 56 :: st) σ = zres k is ls st (zU σ 56 1 v) := r_pf _ _ _ rfl
theorem F_p58_1 {k pc len : Nat} {is : List zCE} {ls st : List zV} {σ : zM} (i : Nat) (v : Int) : zres k ((pc, len, 97, .putfield i) :: is) ls (vI v :: vR 58 :: st) σ = zres k is ls st (zU σ 58 1 v) := r_pf _ _ _ rfl
theorem F_pT_1 {k pc len : Nat} {is : List zCE} {ls st : List zV} {σ : zM} (i : Nat) (t v : Int) (h : 0 ≤ t ∧ t < 6) : zres k ((pc, len, 97, .putfield i) :: is) ls (vI v :: vR (48 + 2 * t) :: st) σ = zres k is ls st (zU σ (48 + 2 * t) 1 v) := by
  rcases (show t = 0 ∨ t = 1 ∨ t = 2 ∨ t = 3 ∨ t = 4 ∨ t = 5 by omega) with rfl | rfl | rfl | rfl | rfl | rfl <;> exact r_pf _ _ _ rfl
theorem F_g48_2 {k pc len : Nat} {is : List zCE} {ls st : List zV} {σ : zM} (i : Nat) : zres k ((pc, len, 98, .getfield i) :: is) ls (vR 48 :: st) σ = zres k is ls (vR 49 :: st) σ := r_gf _ _ _ rfl
theorem F_g50_2 {k pc len : Nat} {is : List zCE} {ls st : List zV} {σ : zM} (i : Nat) : zres k ((pc, len, 98, .getfield i) :: is) ls (vR 50 :: st) σ = zres k is ls (vR 51 :: st) σ := r_gf _ _ _ rfl
theorem F_g52_2 {k pc len : Nat} {is : List zCE} {ls st : List zV} {σ : zM} (i : Nat) : zres k ((pc, len, 98, .getfield i) :: is) ls (vR 52 :: st) σ = zres k is ls (vR 53 :: st) σ := r_gf _ _ _ rfl
theorem F_g54_2 {k pc len : Nat} {is : List zCE} {ls st : List zV} {σ : zM} (i : Nat) : zres k ((pc, len, 98, .getfield i) :: is) ls (vR 54 :: st) σ = zres k is ls (vR 55 :: st) σ := r_gf _ _ _ rfl
theorem F_g56_2 {k pc len : Nat} {is : List zCE} {ls st : List zV} {σ : zM} (i : Nat) : zres k ((pc, len, 98, .getfield i) :: is) ls (vR 56 :: st) σ = zres k is ls (vR 57 :: st) σ := r_gf _ _ _ rfl
theorem F_g58_2 {k pc len : Nat} {is : List zCE} {ls st : List zV} {σ : zM} (i : Nat) : zres k ((pc, len, 98, .getfield i) :: is) ls (vR 58 :: st) σ = zres k is ls (vR 59 :: st) σ := r_gf _ _ _ rfl
theorem F_gT_2 {k pc len : Nat} {is : List zCE} {ls st : List zV} {σ : zM} (i : Nat) (t : Int) (h : 0 ≤ t ∧ t < 6) : zres k ((pc, len, 98, .getfield i) :: is) ls (vR (48 + 2 * t) :: st) σ = zres k is ls (vR (49 + 2 * t) :: st) σ := by
  rcases (show t = 0 ∨ t = 1 ∨ t = 2 ∨ t = 3 ∨ t = 4 ∨ t = 5 by omega) with rfl | rfl | rfl | rfl | rfl | rfl <;> exact r_gf _ _ _ rfl
theorem L_lld_n1 {k pc len : Nat} {x : Int} {is : List zCE} {ls st : List zV} {σ : zM} {a0 : zV} (v : Int) : zres k ((pc, len, x, .lload_n 1) :: is) (a0 :: vL v :: ls) st σ = zres k is (a0 :: vL v :: ls) (vL v :: st) σ := r_ld _ 1 1 _ rfl rfl rfl
theorem F_g48_1 {k pc len : Nat} {is : List zCE} {ls st : List zV} {σ : zM} (i : Nat) : zres k ((pc, len, 97, .getfield i) :: is) ls (vR 48 :: st) σ = zres k is ls (vI (σ 48 1) :: st) σ := r_gf _ _ _ rfl
theorem F_g50_1 {k pc len : Nat} {is : List zCE} {ls st : List zV} {σ : zM} (i : Nat) : zres k ((pc, len, 97, .getfield i) :: is) ls (vR 50 :: st) σ = zres k is ls (vI (σ 50 1) :: st) σ := r_gf _ _ _ rfl
theorem F_g52_1 {k pc len : Nat} {is : List zCE} {ls st : List zV} {σ : zM} (i : Nat) : zres k ((pc, len, 97, .getfield i) :: is) ls (vR 52 :: st) σ = zres k is ls (vI (σ 52 1) :: st) σ := r_gf _ _ _ rfl
theorem F_g54_1 {k pc len : Nat} {is : List zCE} {ls st : List zV} {σ : zM} (i : Nat) : zres k ((pc, len, 97, .getfield i) :: is) ls (vR 54 :: st) σ = zres k is ls (vI (σ 54 1) :: st) σ := r_gf _ _ _ rfl
theorem F_g56_1 {k pc len : Nat} {is : List zCE} {ls st : List zV} {σ : zM} (i : Nat) : zres k ((pc, len, 97, .getfield i) :: is) ls (vR 56 :: st) σ = zres k is ls (vI (σ 56 1) :: st) σ := r_gf _ _ _ rfl
theorem F_g58_1 {k pc len : Nat} {is : List zCE} {ls st : List zV} {σ : zM} (i : Nat) : zres k ((pc, len, 97, .getfield i) :: is) ls (vR 58 :: st) σ = zres k is ls (vI (σ 58 1) :: st) σ := r_gf _ _ _ rfl
theorem F_gT_1 {k pc len : Nat} {is : List zCE} {ls st : List zV} {σ : zM} (i : Nat) (t : Int) (h : 0 ≤ t ∧ t < 6) : zres k ((pc, len, 97, .getfield i) :: is) ls (vR (48 + 2 * t) :: st) σ = zres k is ls (vI (σ (48 + 2 * t) 1) :: st) σ := by
  rcases (show t = 0 ∨ t = 1 ∨ t = 2 ∨ t = 3 ∨ t = 4 ∨ t = 5 by omega) with rfl | rfl | rfl | rfl | rfl | rfl <;> exact r_gf _ _ _ rfl
theorem F_g45_0 {k pc len : Nat} {is : List zCE} {ls st : List zV} {σ : zM} (i : Nat) : zres k ((pc, len, 128, .getfield i) :: is) ls (vR 45 :: st) σ = zres k is ls (vR 46 :: st) σ := r_gf _ _ _ rfl
theorem F_g45_1 {k pc len : Nat} {is : List zCE} {ls st : List zV} {σ : zM} (i : Nat) : zres k ((pc, len, 129, .getfield i) :: is) ls (vR 45 :: st) σ = zres k is ls (vI (σ 45 1) :: st) σ := r_gf _ _ _ rfl
theorem F_p45_1 {k pc len : Nat} {is : List zCE} {ls st : List zV} {σ : zM} (i : Nat) (v : Int) : zres k ((pc, len, 129, .putfield i) :: is) ls (vI v :: vR 45 :: st) σ = zres k is ls st (zU σ 45 1 v) := r_pf _ _ _ rfl
theorem L_ild_n0 {k pc len : Nat} {x : Int} {is : List zCE} {ls st : List zV} {σ : zM} (v : Int) : zres k ((pc, len, x, .iload_n 0) :: is) (vI v :: ls) st σ = zres k is (vI v :: ls) (vI v :: st) σ := r_ld _ 0 0 _ rfl rfl rfl
theorem F_p35_0 {k pc len : Nat} {is : List zCE} {ls st : List zV} {σ : zM} (i : Nat) (v : Int) (h : 0 ≤ v ∧ 0 ≤ v) : zres k ((pc, len, 160, .putfield i) :: is) ls (vR v :: vR 35 :: st) σ = zres k is ls st (zU σ 35 0 v) := r_pf _ _ _ (by have := h.1; simp [zokF, zshp, zSHP, zfk, zFK]; omega)
theorem F_p35_1 {k pc len : Nat} {is : List zCE} {ls st : List zV} {σ : zM} (i : Nat) (v : Int) : zres k ((pc, len, 161, .putfield i) :: is) ls (vI v :: vR 35 :: st) σ = zres k is ls st (zU σ 35 1 v) := r_pf _ _ _ rfl
theorem F_p35_2 {k pc len : Nat} {is : List zCE} {ls st : List zV} {σ : zM} (i : Nat) (v : Int) : zres k ((pc, len, 162, .putfield i) :: is) ls (vI v :: vR 35 :: st) σ = zres k is ls st (zU σ 35 2 v) := r_pf _ _ _ rfl
theorem F_g35_1 {k pc len : Nat} {is : List zCE} {ls st : List zV} {σ : zM} (i : Nat) : zres k ((pc, len, 161, .getfield i) :: is) ls (vR 35 :: st) σ = zres k is ls (vI (σ 35 1) :: st) σ := r_gf _ _ _ rfl
theorem F_g35_0 {k pc len : Nat} {is : List zCE} {ls st : List zV} {σ : zM} (i : Nat) (h : 0 ≤ σ 35 0 ∧ 0 ≤ σ 35 0) : zres k ((pc, len, 160, .getfield i) :: is) ls (vR 35 :: st) σ = zres k is ls (vR (σ 35 0) :: st) σ := r_gf _ _ _ (by show (if 0 ≤ σ 35 0 then some (vR (σ 35 0)) else none) = _; rw [if_pos h.1])
theorem F_g35_2 {k pc len : Nat} {is : List zCE} {ls st : List zV} {σ : zM} (i : Nat) : zres k ((pc, len, 162, .getfield i) :: is) ls (vR 35 :: st) σ = zres k is ls (vI (σ 35 2) :: st) σ := r_gf _ _ _ rfl
theorem F_g35_4 {k pc len : Nat} {is : List zCE} {ls st : List zV} {σ : zM} (i : Nat) : zres k ((pc, len, 164, .getfield i) :: is) ls (vR 35 :: st) σ = zres k is ls (vR 37 :: st) σ := r_gf _ _ _ rfl
theorem F_g35_5 {k pc len : Nat} {is : List zCE} {ls st : List zV} {σ : zM} (i : Nat) : zres k ((pc, len, 165, .getfield i) :: is) ls (vR 35 :: st) σ = zres k is ls (vR 38 :: st) σ := r_gf _ _ _ rfl
theorem F_p35_7 {k pc len : Nat} {is : List zCE} {ls st : List zV} {σ : zM} (i : Nat) (v : Int) : zres k ((pc, len, 167, .putfield i) :: is) ls (vL v :: vR 35 :: st) σ = zres k is ls st (zU σ 35 7 v) := r_pf _ _ _ rfl
theorem F_p35_8 {k pc len : Nat} {is : List zCE} {ls st : List zV} {σ : zM} (i : Nat) (v : Int) : zres k ((pc, len, 168, .putfield i) :: is) ls (vL v :: vR 35 :: st) σ = zres k is ls st (zU σ 35 8 v) := r_pf _ _ _ rfl
theorem F_g35_8 {k pc len : Nat} {is : List zCE} {ls st : List zV} {σ : zM} (i : Nat) : zres k ((pc, len, 168, .getfield i) :: is) ls (vR 35 :: st) σ = zres k is ls (vL (σ 35 8) :: st) σ := r_gf _ _ _ rfl
theorem F_g35_7 {k pc len : Nat} {is : List zCE} {ls st : List zV} {σ : zM} (i : Nat) : zres k ((pc, len, 167, .getfield i) :: is) ls (vR 35 :: st) σ = zres k is ls (vL (σ 35 7) :: st) σ := r_gf _ _ _ rfl
theorem F_g35_3 {k pc len : Nat} {is : List zCE} {ls st : List zV} {σ : zM} (i : Nat) : zres k ((pc, len, 163, .getfield i) :: is) ls (vR 35 :: st) σ = zres k is ls (vR 36 :: st) σ := r_gf _ _ _ rfl
theorem F_g35_6 {k pc len : Nat} {is : List zCE} {ls st : List zV} {σ : zM} (i : Nat) : zres k ((pc, len, 166, .getfield i) :: is) ls (vR 35 :: st) σ = zres k is ls (vR 39 :: st) σ := r_gf _ _ _ rfl
theorem F_p35_9 {k pc len : Nat} {is : List zCE} {ls st : List zV} {σ : zM} (i : Nat) (v : Int) : zres k ((pc, len, 169, .putfield i) :: is) ls (vI v :: vR 35 :: st) σ = zres k is ls st (zU σ 35 9 v) := r_pf _ _ _ rfl
theorem F_g0_0 {k pc len : Nat} {is : List zCE} {ls st : List zV} {σ : zM} (i : Nat) : zres k ((pc, len, 192, .getfield i) :: is) ls (vR 0 :: st) σ = zres k is ls (vR 1 :: st) σ := r_gf _ _ _ rfl
theorem F_g0_3 {k pc len : Nat} {is : List zCE} {ls st : List zV} {σ : zM} (i : Nat) : zres k ((pc, len, 195, .getfield i) :: is) ls (vR 0 :: st) σ = zres k is ls (vR 33 :: st) σ := r_gf _ _ _ rfl
theorem F_g0_6 {k pc len : Nat} {is : List zCE} {ls st : List zV} {σ : zM} (i : Nat) : zres k ((pc, len, 198, .getfield i) :: is) ls (vR 0 :: st) σ = zres k is ls (vR 45 :: st) σ := r_gf _ _ _ rfl
theorem L_lst4 {k pc len : Nat} {x : Int} {is : List zCE} {ls st : List zV} {σ : zM} {a0 a1 a2 a3 : zV} {b0 b1 : zV} (v : Int) (h : (a3.1 == 1) = false) : zres k ((pc, len, x, .lstore 4) :: is) (a0 :: a1 :: a2 :: a3 :: b0 :: b1 :: ls) (vL v :: st) σ = zres k is (a0 :: a1 :: a2 :: a3 :: vL v :: vU :: ls) st σ := by
  rw [r_st _ 1 4 _ rfl rfl (by simp)]
  have h : ¬ a3.1 = 1 := by simpa using h
  simp only [zput, zkill, if_neg h]
  rfl
theorem L_lst4L {k pc len : Nat} {x : Int} {is : List zCE} {ls st : List zV} {σ : zM} {a0 a1 a2 : zV} {b0 b1 : zV} (v w : Int) : zres k ((pc, len, x, .lstore 4) :: is) (a0 :: a1 :: a2 :: vL w :: b0 :: b1 :: ls) (vL v :: st) σ = zres k is (a0 :: a1 :: a2 :: vU :: vL v :: vU :: ls) st σ := r_st _ 1 4 _ rfl rfl (by simp)
theorem L_lld4 {k pc len : Nat} {x : Int} {is : List zCE} {ls st : List zV} {σ : zM} {a0 a1 a2 a3 : zV} (v : Int) : zres k ((pc, len, x, .lload 4) :: is) (a0 :: a1 :: a2 :: a3 :: vL v :: ls) st σ = zres k is (a0 :: a1 :: a2 :: a3 :: vL v :: ls) (vL v :: st) σ := r_ld _ 1 4 _ rfl rfl rfl
theorem L_ast_n3 {k pc len : Nat} {x : Int} {is : List zCE} {ls st : List zV} {σ : zM} {a0 a1 a2 : zV} {b0 : zV} (v : Int) (h : (a2.1 == 1) = false) : zres k ((pc, len, x, .astore_n 3) :: is) (a0 :: a1 :: a2 :: b0 :: ls) (vR v :: st) σ = zres k is (a0 :: a1 :: a2 :: vR v :: ls) st σ := by
  rw [r_st _ 2 3 _ rfl rfl (by simp)]
  have h : ¬ a2.1 = 1 := by simpa using h
  simp only [zput, zkill, if_neg h]
  rfl
theorem L_ast_n3L {k pc len : Nat} {x : Int} {is : List zCE} {ls st : List zV} {σ : zM} {a0 a1 : zV} {b0 : zV} (v w : Int) : zres k ((pc, len, x, .astore_n 3) :: is) (a0 :: a1 :: vL w :: b0 :: ls) (vR v :: st) σ = zres k is (a0 :: a1 :: vU :: vR v :: ls) st σ := r_st _ 2 3 _ rfl rfl (by simp)
theorem L_ast4 {k pc len : Nat} {x : Int} {is : List zCE} {ls st : List zV} {σ : zM} {a0 a1 a2 a3 : zV} {b0 : zV} (v : Int) (h : (a3.1 == 1) = false) : zres k ((pc, len, x, .astore 4) :: is) (a0 :: a1 :: a2 :: a3 :: b0 :: ls) (vR v :: st) σ = zres k is (a0 :: a1 :: a2 :: a3 :: vR v :: ls) st σ := by
  rw [r_st _ 2 4 _ rfl rfl (by simp)]
  have h : ¬ a3.1 = 1 := by simpa using h
  simp only [zput, zkill, if_neg h]
  rfl
theorem L_ast4L {k pc len : Nat} {x : Int} {is : List zCE} {ls st : List zV} {σ : zM} {a0 a1 a2 : zV} {b0 : zV} (v w : Int) : zres k ((pc, len, x, .astore 4) :: is) (a0 :: a1 :: a2 :: vL w :: b0 :: ls) (vR v :: st) σ = zres k is (a0 :: a1 :: a2 :: vU :: vR v :: ls) st σ := r_st _ 2 4 _ rfl rfl (by simp)
theorem L_ald_n3 {k pc len : Nat} {x : Int} {is : List zCE} {ls st : List zV} {σ : zM} {a0 a1 a2 : zV} (v : Int) : zres k ((pc, len, x, .aload_n 3) :: is) (a0 :: a1 :: a2 :: vR v :: ls) st σ = zres k is (a0 :: a1 :: a2 :: vR v :: ls) (vR v :: st) σ := r_ld _ 2 3 _ rfl rfl rfl
theorem L_ald4 {k pc len : Nat} {x : Int} {is : List zCE} {ls st : List zV} {σ : zM} {a0 a1 a2 a3 : zV} (v : Int) : zres k ((pc, len, x, .aload 4) :: is) (a0 :: a1 :: a2 :: a3 :: vR v :: ls) st σ = zres k is (a0 :: a1 :: a2 :: a3 :: vR v :: ls) (vR v :: st) σ := r_ld _ 2 4 _ rfl rfl rfl
theorem L_iinc6 {k pc len : Nat} {x : Int} {is : List zCE} {ls st : List zV} {σ : zM} {a0 a1 a2 a3 a4 a5 : zV} (c v : Int) (h : (a5.1 == 1) = false) : zres k ((pc, len, x, .iinc 6 c) :: is) (a0 :: a1 :: a2 :: a3 :: a4 :: a5 :: vI v :: ls) st σ = zres k is (a0 :: a1 :: a2 :: a3 :: a4 :: a5 :: vI (v + c) :: ls) st σ := by
  rw [r_iinc 6 c v rfl]
  have h : ¬ a5.1 = 1 := by simpa using h
  simp only [zput, zkill, if_neg h]
  rfl
theorem F_g0_4 {k pc len : Nat} {is : List zCE} {ls st : List zV} {σ : zM} (i : Nat) : zres k ((pc, len, 196, .getfield i) :: is) ls (vR 0 :: st) σ = zres k is ls (vR 35 :: st) σ := r_gf _ _ _ rfl
theorem F_g35_9 {k pc len : Nat} {is : List zCE} {ls st : List zV} {σ : zM} (i : Nat) : zres k ((pc, len, 169, .getfield i) :: is) ls (vR 35 :: st) σ = zres k is ls (vI (σ 35 9) :: st) σ := r_gf _ _ _ rfl
theorem F_g33_8 {k pc len : Nat} {is : List zCE} {ls st : List zV} {σ : zM} (i : Nat) : zres k ((pc, len, 8, .getfield i) :: is) ls (vR 33 :: st) σ = zres k is ls (vL (σ 33 8) :: st) σ := r_gf _ _ _ rfl
theorem F_g33_9 {k pc len : Nat} {is : List zCE} {ls st : List zV} {σ : zM} (i : Nat) : zres k ((pc, len, 9, .getfield i) :: is) ls (vR 33 :: st) σ = zres k is ls (vL (σ 33 9) :: st) σ := r_gf _ _ _ rfl
theorem F_g0_5 {k pc len : Nat} {is : List zCE} {ls st : List zV} {σ : zM} (i : Nat) : zres k ((pc, len, 197, .getfield i) :: is) ls (vR 0 :: st) σ = zres k is ls (vR 40 :: st) σ := r_gf _ _ _ rfl
theorem F_g0_7 {k pc len : Nat} {is : List zCE} {ls st : List zV} {σ : zM} (i : Nat) : zres k ((pc, len, 199, .getfield i) :: is) ls (vR 0 :: st) σ = zres k is ls (vR 47 :: st) σ := r_gf _ _ _ rfl
theorem F_g0_1 {k pc len : Nat} {is : List zCE} {ls st : List zV} {σ : zM} (i : Nat) : zres k ((pc, len, 193, .getfield i) :: is) ls (vR 0 :: st) σ = zres k is ls (vR 17 :: st) σ := r_gf _ _ _ rfl
theorem F_p0_2 {k pc len : Nat} {is : List zCE} {ls st : List zV} {σ : zM} (i : Nat) (v : Int) (h : 0 ≤ v ∧ v ≤ 1) : zres k ((pc, len, 194, .putfield i) :: is) ls (vI v :: vR 0 :: st) σ = zres k is ls st (zU σ 0 2 v) := r_pf _ _ _ (by rcases (show v = 0 ∨ v = 1 by omega) with rfl | rfl <;> rfl)
theorem F_g0_2 {k pc len : Nat} {is : List zCE} {ls st : List zV} {σ : zM} (i : Nat) : zres k ((pc, len, 194, .getfield i) :: is) ls (vR 0 :: st) σ = zres k is ls (vI (σ 0 2) :: st) σ := r_gf _ _ _ rfl
theorem L_ast5 {k pc len : Nat} {x : Int} {is : List zCE} {ls st : List zV} {σ : zM} {a0 a1 a2 a3 a4 : zV} {b0 : zV} (v : Int) (h : (a4.1 == 1) = false) : zres k ((pc, len, x, .astore 5) :: is) (a0 :: a1 :: a2 :: a3 :: a4 :: b0 :: ls) (vR v :: st) σ = zres k is (a0 :: a1 :: a2 :: a3 :: a4 :: vR v :: ls) st σ := by
  rw [r_st _ 2 5 _ rfl rfl (by simp)]
  have h : ¬ a4.1 = 1 := by simpa using h
  simp only [zput, zkill, if_neg h]
  rfl
theorem L_ast5L {k pc len : Nat} {x : Int} {is : List zCE} {ls st : List zV} {σ : zM} {a0 a1 a2 a3 : zV} {b0 : zV} (v w : Int) : zres k ((pc, len, x, .astore 5) :: is) (a0 :: a1 :: a2 :: a3 :: vL w :: b0 :: ls) (vR v :: st) σ = zres k is (a0 :: a1 :: a2 :: a3 :: vU :: vR v :: ls) st σ := r_st _ 2 5 _ rfl rfl (by simp)
theorem L_ald5 {k pc len : Nat} {x : Int} {is : List zCE} {ls st : List zV} {σ : zM} {a0 a1 a2 a3 a4 : zV} (v : Int) : zres k ((pc, len, x, .aload 5) :: is) (a0 :: a1 :: a2 :: a3 :: a4 :: vR v :: ls) st σ = zres k is (a0 :: a1 :: a2 :: a3 :: a4 :: vR v :: ls) (vR v :: st) σ := r_ld _ 2 5 _ rfl rfl rfl
theorem L_ast6 {k pc len : Nat} {x : Int} {is : List zCE} {ls st : List zV} {σ : zM} {a0 a1 a2 a3 a4 a5 : zV} {b0 : zV} (v : Int) (h : (a5.1 == 1) = false) : zres k ((pc, len, x, .astore 6) :: is) (a0 :: a1 :: a2 :: a3 :: a4 :: a5 :: b0 :: ls) (vR v :: st) σ = zres k is (a0 :: a1 :: a2 :: a3 :: a4 :: a5 :: vR v :: ls) st σ := by
  rw [r_st _ 2 6 _ rfl rfl (by simp)]
  have h : ¬ a5.1 = 1 := by simpa using h
  simp only [zput, zkill, if_neg h]
  rfl
theorem L_ast6L {k pc len : Nat} {x : Int} {is : List zCE} {ls st : List zV} {σ : zM} {a0 a1 a2 a3 a4 : zV} {b0 : zV} (v w : Int) : zres k ((pc, len, x, .astore 6) :: is) (a0 :: a1 :: a2 :: a3 :: a4 :: vL w :: b0 :: ls) (vR v :: st) σ = zres k is (a0 :: a1 :: a2 :: a3 :: a4 :: vU :: vR v :: ls) st σ := r_st _ 2 6 _ rfl rfl (by simp)
theorem L_ast7 {k pc len : Nat} {x : Int} {is : List zCE} {ls st : List zV} {σ : zM} {a0 a1 a2 a3 a4 a5 a6 : zV} {b0 : zV} (v : Int) (h : (a6.1 == 1) = false) : zres k ((pc, len, x, .astore 7) :: is) (a0 :: a1 :: a2 :: a3 :: a4 :: a5 :: a6 :: b0 :: ls) (vR v :: st) σ = zres k is (a0 :: a1 :: a2 :: a3 :: a4 :: a5 :: a6 :: vR v :: ls) st σ := by
  rw [r_st _ 2 7 _ rfl rfl (by simp)]
  have h : ¬ a6.1 = 1 := by simpa using h
  simp only [zput, zkill, if_neg h]
  rfl
theorem L_ast7L {k pc len : Nat} {x : Int} {is : List zCE} {ls st : List zV} {σ : zM} {a0 a1 a2 a3 a4 a5 : zV} {b0 : zV} (v w : Int) : zres k ((pc, len, x, .astore 7) :: is) (a0 :: a1 :: a2 :: a3 :: a4 :: a5 :: vL w :: b0 :: ls) (vR v :: st) σ = zres k is (a0 :: a1 :: a2 :: a3 :: a4 :: a5 :: vU :: vR v :: ls) st σ := r_st _ 2 7 _ rfl rfl (by simp)
theorem L_ald6 {k pc len : Nat} {x : Int} {is : List zCE} {ls st : List zV} {σ : zM} {a0 a1 a2 a3 a4 a5 : zV} (v : Int) : zres k ((pc, len, x, .aload 6) :: is) (a0 :: a1 :: a2 :: a3 :: a4 :: a5 :: vR v :: ls) st σ = zres k is (a0 :: a1 :: a2 :: a3 :: a4 :: a5 :: vR v :: ls) (vR v :: st) σ := r_ld _ 2 6 _ rfl rfl rfl
theorem L_ald7 {k pc len : Nat} {x : Int} {is : List zCE} {ls st : List zV} {σ : zM} {a0 a1 a2 a3 a4 a5 a6 : zV} (v : Int) : zres k ((pc, len, x, .aload 7) :: is) (a0 :: a1 :: a2 :: a3 :: a4 :: a5 :: a6 :: vR v :: ls) st σ = zres k is (a0 :: a1 :: a2 :: a3 :: a4 :: a5 :: a6 :: vR v :: ls) (vR v :: st) σ := r_ld _ 2 7 _ rfl rfl rfl
theorem L_lld_n0 {k pc len : Nat} {x : Int} {is : List zCE} {ls st : List zV} {σ : zM} (v : Int) : zres k ((pc, len, x, .lload_n 0) :: is) (vL v :: ls) st σ = zres k is (vL v :: ls) (vL v :: st) σ := r_ld _ 1 0 _ rfl rfl rfl
theorem L_lst6 {k pc len : Nat} {x : Int} {is : List zCE} {ls st : List zV} {σ : zM} {a0 a1 a2 a3 a4 a5 : zV} {b0 b1 : zV} (v : Int) (h : (a5.1 == 1) = false) : zres k ((pc, len, x, .lstore 6) :: is) (a0 :: a1 :: a2 :: a3 :: a4 :: a5 :: b0 :: b1 :: ls) (vL v :: st) σ = zres k is (a0 :: a1 :: a2 :: a3 :: a4 :: a5 :: vL v :: vU :: ls) st σ := by
  rw [r_st _ 1 6 _ rfl rfl (by simp)]
  have h : ¬ a5.1 = 1 := by simpa using h
  simp only [zput, zkill, if_neg h]
  rfl
theorem L_lst6L {k pc len : Nat} {x : Int} {is : List zCE} {ls st : List zV} {σ : zM} {a0 a1 a2 a3 a4 : zV} {b0 b1 : zV} (v w : Int) : zres k ((pc, len, x, .lstore 6) :: is) (a0 :: a1 :: a2 :: a3 :: a4 :: vL w :: b0 :: b1 :: ls) (vL v :: st) σ = zres k is (a0 :: a1 :: a2 :: a3 :: a4 :: vU :: vL v :: vU :: ls) st σ := r_st _ 1 6 _ rfl rfl (by simp)
theorem L_ist8 {k pc len : Nat} {x : Int} {is : List zCE} {ls st : List zV} {σ : zM} {a0 a1 a2 a3 a4 a5 a6 a7 : zV} {b0 : zV} (v : Int) (h : (a7.1 == 1) = false) : zres k ((pc, len, x, .istore 8) :: is) (a0 :: a1 :: a2 :: a3 :: a4 :: a5 :: a6 :: a7 :: b0 :: ls) (vI v :: st) σ = zres k is (a0 :: a1 :: a2 :: a3 :: a4 :: a5 :: a6 :: a7 :: vI v :: ls) st σ := by
  rw [r_st _ 0 8 _ rfl rfl (by simp)]
  have h : ¬ a7.1 = 1 := by simpa using h
  simp only [zput, zkill, if_neg h]
  rfl
theorem L_ist8L {k pc len : Nat} {x : Int} {is : List zCE} {ls st : List zV} {σ : zM} {a0 a1 a2 a3 a4 a5 a6 : zV} {b0 : zV} (v w : Int) : zres k ((pc, len, x, .istore 8) :: is) (a0 :: a1 :: a2 :: a3 :: a4 :: a5 :: a6 :: vL w :: b0 :: ls) (vI v :: st) σ = zres k is (a0 :: a1 :: a2 :: a3 :: a4 :: a5 :: a6 :: vU :: vI v :: ls) st σ := r_st _ 0 8 _ rfl rfl (by simp)
theorem L_ild8 {k pc len : Nat} {x : Int} {is : List zCE} {ls st : List zV} {σ : zM} {a0 a1 a2 a3 a4 a5 a6 a7 : zV} (v : Int) : zres k ((pc, len, x, .iload 8) :: is) (a0 :: a1 :: a2 :: a3 :: a4 :: a5 :: a6 :: a7 :: vI v :: ls) st σ = zres k is (a0 :: a1 :: a2 :: a3 :: a4 :: a5 :: a6 :: a7 :: vI v :: ls) (vI v :: st) σ := r_ld _ 0 8 _ rfl rfl rfl
theorem L_lld6 {k pc len : Nat} {x : Int} {is : List zCE} {ls st : List zV} {σ : zM} {a0 a1 a2 a3 a4 a5 : zV} (v : Int) : zres k ((pc, len, x, .lload 6) :: is) (a0 :: a1 :: a2 :: a3 :: a4 :: a5 :: vL v :: ls) st σ = zres k is (a0 :: a1 :: a2 :: a3 :: a4 :: a5 :: vL v :: ls) (vL v :: st) σ := r_ld _ 1 6 _ rfl rfl rfl
theorem L_lst9 {k pc len : Nat} {x : Int} {is : List zCE} {ls st : List zV} {σ : zM} {a0 a1 a2 a3 a4 a5 a6 a7 a8 : zV} {b0 b1 : zV} (v : Int) (h : (a8.1 == 1) = false) : zres k ((pc, len, x, .lstore 9) :: is) (a0 :: a1 :: a2 :: a3 :: a4 :: a5 :: a6 :: a7 :: a8 :: b0 :: b1 :: ls) (vL v :: st) σ = zres k is (a0 :: a1 :: a2 :: a3 :: a4 :: a5 :: a6 :: a7 :: a8 :: vL v :: vU :: ls) st σ := by
  rw [r_st _ 1 9 _ rfl rfl (by simp)]
  have h : ¬ a8.1 = 1 := by simpa using h
  simp only [zput, zkill, if_neg h]
  rfl
theorem L_lst9L {k pc len : Nat} {x : Int} {is : List zCE} {ls st : List zV} {σ : zM} {a0 a1 a2 a3 a4 a5 a6 a7 : zV} {b0 b1 : zV} (v w : Int) : zres k ((pc, len, x, .lstore 9) :: is) (a0 :: a1 :: a2 :: a3 :: a4 :: a5 :: a6 :: a7 :: vL w :: b0 :: b1 :: ls) (vL v :: st) σ = zres k is (a0 :: a1 :: a2 :: a3 :: a4 :: a5 :: a6 :: a7 :: vU :: vL v :: vU :: ls) st σ := r_st _ 1 9 _ rfl rfl (by simp)
theorem L_lld9 {k pc len : Nat} {x : Int} {is : List zCE} {ls st : List zV} {σ : zM} {a0 a1 a2 a3 a4 a5 a6 a7 a8 : zV} (v : Int) : zres k ((pc, len, x, .lload 9) :: is) (a0 :: a1 :: a2 :: a3 :: a4 :: a5 :: a6 :: a7 :: a8 :: vL v :: ls) st σ = zres k is (a0 :: a1 :: a2 :: a3 :: a4 :: a5 :: a6 :: a7 :: a8 :: vL v :: ls) (vL v :: st) σ := r_ld _ 1 9 _ rfl rfl rfl
theorem L_iinc8 {k pc len : Nat} {x : Int} {is : List zCE} {ls st : List zV} {σ : zM} {a0 a1 a2 a3 a4 a5 a6 a7 : zV} (c v : Int) (h : (a7.1 == 1) = false) : zres k ((pc, len, x, .iinc 8 c) :: is) (a0 :: a1 :: a2 :: a3 :: a4 :: a5 :: a6 :: a7 :: vI v :: ls) st σ = zres k is (a0 :: a1 :: a2 :: a3 :: a4 :: a5 :: a6 :: a7 :: vI (v + c) :: ls) st σ := by
  rw [r_iinc 8 c v rfl]
  have h : ¬ a7.1 = 1 := by simpa using h
  simp only [zput, zkill, if_neg h]
  rfl
theorem L_lst5 {k pc len : Nat} {x : Int} {is : List zCE} {ls st : List zV} {σ : zM} {a0 a1 a2 a3 a4 : zV} {b0 b1 : zV} (v : Int) (h : (a4.1 == 1) = false) : zres k ((pc, len, x, .lstore 5) :: is) (a0 :: a1 :: a2 :: a3 :: a4 :: b0 :: b1 :: ls) (vL v :: st) σ = zres k is (a0 :: a1 :: a2 :: a3 :: a4 :: vL v :: vU :: ls) st σ := by
  rw [r_st _ 1 5 _ rfl rfl (by simp)]
  have h : ¬ a4.1 = 1 := by simpa using h
  simp only [zput, zkill, if_neg h]
  rfl
theorem L_lst5L {k pc len : Nat} {x : Int} {is : List zCE} {ls st : List zV} {σ : zM} {a0 a1 a2 a3 : zV} {b0 b1 : zV} (v w : Int) : zres k ((pc, len, x, .lstore 5) :: is) (a0 :: a1 :: a2 :: a3 :: vL w :: b0 :: b1 :: ls) (vL v :: st) σ = zres k is (a0 :: a1 :: a2 :: a3 :: vU :: vL v :: vU :: ls) st σ := r_st _ 1 5 _ rfl rfl (by simp)
theorem L_ist7 {k pc len : Nat} {x : Int} {is : List zCE} {ls st : List zV} {σ : zM} {a0 a1 a2 a3 a4 a5 a6 : zV} {b0 : zV} (v : Int) (h : (a6.1 == 1) = false) : zres k ((pc, len, x, .istore 7) :: is) (a0 :: a1 :: a2 :: a3 :: a4 :: a5 :: a6 :: b0 :: ls) (vI v :: st) σ = zres k is (a0 :: a1 :: a2 :: a3 :: a4 :: a5 :: a6 :: vI v :: ls) st σ := by
  rw [r_st _ 0 7 _ rfl rfl (by simp)]
  have h : ¬ a6.1 = 1 := by simpa using h
  simp only [zput, zkill, if_neg h]
  rfl
theorem L_ist7L {k pc len : Nat} {x : Int} {is : List zCE} {ls st : List zV} {σ : zM} {a0 a1 a2 a3 a4 a5 : zV} {b0 : zV} (v w : Int) : zres k ((pc, len, x, .istore 7) :: is) (a0 :: a1 :: a2 :: a3 :: a4 :: a5 :: vL w :: b0 :: ls) (vI v :: st) σ = zres k is (a0 :: a1 :: a2 :: a3 :: a4 :: a5 :: vU :: vI v :: ls) st σ := r_st _ 0 7 _ rfl rfl (by simp)
theorem L_ild7 {k pc len : Nat} {x : Int} {is : List zCE} {ls st : List zV} {σ : zM} {a0 a1 a2 a3 a4 a5 a6 : zV} (v : Int) : zres k ((pc, len, x, .iload 7) :: is) (a0 :: a1 :: a2 :: a3 :: a4 :: a5 :: a6 :: vI v :: ls) st σ = zres k is (a0 :: a1 :: a2 :: a3 :: a4 :: a5 :: a6 :: vI v :: ls) (vI v :: st) σ := r_ld _ 0 7 _ rfl rfl rfl
theorem F_g60_0 {k pc len : Nat} {is : List zCE} {ls st : List zV} {σ : zM} (i : Nat) : zres k ((pc, len, 224, .getfield i) :: is) ls (vR 60 :: st) σ = zres k is ls (vR 61 :: st) σ := r_gf _ _ _ rfl
theorem L_lst8 {k pc len : Nat} {x : Int} {is : List zCE} {ls st : List zV} {σ : zM} {a0 a1 a2 a3 a4 a5 a6 a7 : zV} {b0 b1 : zV} (v : Int) (h : (a7.1 == 1) = false) : zres k ((pc, len, x, .lstore 8) :: is) (a0 :: a1 :: a2 :: a3 :: a4 :: a5 :: a6 :: a7 :: b0 :: b1 :: ls) (vL v :: st) σ = zres k is (a0 :: a1 :: a2 :: a3 :: a4 :: a5 :: a6 :: a7 :: vL v :: vU :: ls) st σ := by
  rw [r_st _ 1 8 _ rfl rfl (by simp)]
  have h : ¬ a7.1 = 1 := by simpa using h
  simp only [zput, zkill, if_neg h]
  rfl
theorem L_lst8L {k pc len : Nat} {x : Int} {is : List zCE} {ls st : List zV} {σ : zM} {a0 a1 a2 a3 a4 a5 a6 : zV} {b0 b1 : zV} (v w : Int) : zres k ((pc, len, x, .lstore 8) :: is) (a0 :: a1 :: a2 :: a3 :: a4 :: a5 :: a6 :: vL w :: b0 :: b1 :: ls) (vL v :: st) σ = zres k is (a0 :: a1 :: a2 :: a3 :: a4 :: a5 :: a6 :: vU :: vL v :: vU :: ls) st σ := r_st _ 1 8 _ rfl rfl (by simp)
theorem L_lld8 {k pc len : Nat} {x : Int} {is : List zCE} {ls st : List zV} {σ : zM} {a0 a1 a2 a3 a4 a5 a6 a7 : zV} (v : Int) : zres k ((pc, len, x, .lload 8) :: is) (a0 :: a1 :: a2 :: a3 :: a4 :: a5 :: a6 :: a7 :: vL v :: ls) st σ = zres k is (a0 :: a1 :: a2 :: a3 :: a4 :: a5 :: a6 :: a7 :: vL v :: ls) (vL v :: st) σ := r_ld _ 1 8 _ rfl rfl rfl
theorem L_lst_n1 {k pc len : Nat} {x : Int} {is : List zCE} {ls st : List zV} {σ : zM} {a0 : zV} {b0 b1 : zV} (v : Int) (h : (a0.1 == 1) = false) : zres k ((pc, len, x, .lstore_n 1) :: is) (a0 :: b0 :: b1 :: ls) (vL v :: st) σ = zres k is (a0 :: vL v :: vU :: ls) st σ := by
  rw [r_st _ 1 1 _ rfl rfl (by simp)]
  have h : ¬ a0.1 = 1 := by simpa using h
  simp only [zput, zkill, if_neg h]
  rfl
theorem L_lst_n1L {k pc len : Nat} {x : Int} {is : List zCE} {ls st : List zV} {σ : zM} {b0 b1 : zV} (v w : Int) : zres k ((pc, len, x, .lstore_n 1) :: is) (vL w :: b0 :: b1 :: ls) (vL v :: st) σ = zres k is (vU :: vL v :: vU :: ls) st σ := r_st _ 1 1 _ rfl rfl (by simp)
theorem L_iinc7 {k pc len : Nat} {x : Int} {is : List zCE} {ls st : List zV} {σ : zM} {a0 a1 a2 a3 a4 a5 a6 : zV} (c v : Int) (h : (a6.1 == 1) = false) : zres k ((pc, len, x, .iinc 7 c) :: is) (a0 :: a1 :: a2 :: a3 :: a4 :: a5 :: a6 :: vI v :: ls) st σ = zres k is (a0 :: a1 :: a2 :: a3 :: a4 :: a5 :: a6 :: vI (v + c) :: ls) st σ := by
  rw [r_iinc 7 c v rfl]
  have h : ¬ a6.1 = 1 := by simpa using h
  simp only [zput, zkill, if_neg h]
  rfl
theorem F_g60_4 {k pc len : Nat} {is : List zCE} {ls st : List zV} {σ : zM} (i : Nat) : zres k ((pc, len, 228, .getfield i) :: is) ls (vR 60 :: st) σ = zres k is ls (vR 64 :: st) σ := r_gf _ _ _ rfl
theorem F_p60_5 {k pc len : Nat} {is : List zCE} {ls st : List zV} {σ : zM} (i : Nat) (v : Int) : zres k ((pc, len, 229, .putfield i) :: is) ls (vI v :: vR 60 :: st) σ = zres k is ls st (zU σ 60 5 v) := r_pf _ _ _ rfl
theorem F_p60_6 {k pc len : Nat} {is : List zCE} {ls st : List zV} {σ : zM} (i : Nat) (v : Int) : zres k ((pc, len, 230, .putfield i) :: is) ls (vL v :: vR 60 :: st) σ = zres k is ls st (zU σ 60 6 v) := r_pf _ _ _ rfl
theorem F_p60_7 {k pc len : Nat} {is : List zCE} {ls st : List zV} {σ : zM} (i : Nat) (v : Int) : zres k ((pc, len, 231, .putfield i) :: is) ls (vL v :: vR 60 :: st) σ = zres k is ls st (zU σ 60 7 v) := r_pf _ _ _ rfl
theorem F_p60_8 {k pc len : Nat} {is : List zCE} {ls st : List zV} {σ : zM} (i : Nat) (v : Int) : zres k ((pc, len, 232, .putfield i) :: is) ls (vI v :: vR 60 :: st) σ = zres k is ls st (zU σ 60 8 v) := r_pf _ _ _ rfl
theorem F_p60_9 {k pc len : Nat} {is : List zCE} {ls st : List zV} {σ : zM} (i : Nat) (v : Int) : zres k ((pc, len, 233, .putfield i) :: is) ls (vI v :: vR 60 :: st) σ = zres k is ls st (zU σ 60 9 v) := r_pf _ _ _ rfl
theorem F_p60_10 {k pc len : Nat} {is : List zCE} {ls st : List zV} {σ : zM} (i : Nat) (v : Int) : zres k ((pc, len, 234, .putfield i) :: is) ls (vI v :: vR 60 :: st) σ = zres k is ls st (zU σ 60 10 v) := r_pf _ _ _ rfl
theorem F_g60_9 {k pc len : Nat} {is : List zCE} {ls st : List zV} {σ : zM} (i : Nat) : zres k ((pc, len, 233, .getfield i) :: is) ls (vR 60 :: st) σ = zres k is ls (vI (σ 60 9) :: st) σ := r_gf _ _ _ rfl
theorem F_g60_10 {k pc len : Nat} {is : List zCE} {ls st : List zV} {σ : zM} (i : Nat) : zres k ((pc, len, 234, .getfield i) :: is) ls (vR 60 :: st) σ = zres k is ls (vI (σ 60 10) :: st) σ := r_gf _ _ _ rfl
theorem F_g60_8 {k pc len : Nat} {is : List zCE} {ls st : List zV} {σ : zM} (i : Nat) : zres k ((pc, len, 232, .getfield i) :: is) ls (vR 60 :: st) σ = zres k is ls (vI (σ 60 8) :: st) σ := r_gf _ _ _ rfl
theorem F_g60_5 {k pc len : Nat} {is : List zCE} {ls st : List zV} {σ : zM} (i : Nat) : zres k ((pc, len, 229, .getfield i) :: is) ls (vR 60 :: st) σ = zres k is ls (vI (σ 60 5) :: st) σ := r_gf _ _ _ rfl
theorem F_g60_7 {k pc len : Nat} {is : List zCE} {ls st : List zV} {σ : zM} (i : Nat) : zres k ((pc, len, 231, .getfield i) :: is) ls (vR 60 :: st) σ = zres k is ls (vL (σ 60 7) :: st) σ := r_gf _ _ _ rfl
theorem F_g60_6 {k pc len : Nat} {is : List zCE} {ls st : List zV} {σ : zM} (i : Nat) : zres k ((pc, len, 230, .getfield i) :: is) ls (vR 60 :: st) σ = zres k is ls (vL (σ 60 6) :: st) σ := r_gf _ _ _ rfl
theorem F_g60_11 {k pc len : Nat} {is : List zCE} {ls st : List zV} {σ : zM} (i : Nat) : zres k ((pc, len, 235, .getfield i) :: is) ls (vR 60 :: st) σ = zres k is ls (vR 65 :: st) σ := r_gf _ _ _ rfl
theorem F_p60_13 {k pc len : Nat} {is : List zCE} {ls st : List zV} {σ : zM} (i : Nat) (v : Int) : zres k ((pc, len, 237, .putfield i) :: is) ls (vL v :: vR 60 :: st) σ = zres k is ls st (zU σ 60 13 v) := r_pf _ _ _ rfl
theorem F_p60_14 {k pc len : Nat} {is : List zCE} {ls st : List zV} {σ : zM} (i : Nat) (v : Int) : zres k ((pc, len, 238, .putfield i) :: is) ls (vL v :: vR 60 :: st) σ = zres k is ls st (zU σ 60 14 v) := r_pf _ _ _ rfl
theorem F_g60_14 {k pc len : Nat} {is : List zCE} {ls st : List zV} {σ : zM} (i : Nat) : zres k ((pc, len, 238, .getfield i) :: is) ls (vR 60 :: st) σ = zres k is ls (vL (σ 60 14) :: st) σ := r_gf _ _ _ rfl
theorem F_g60_13 {k pc len : Nat} {is : List zCE} {ls st : List zV} {σ : zM} (i : Nat) : zres k ((pc, len, 237, .getfield i) :: is) ls (vR 60 :: st) σ = zres k is ls (vL (σ 60 13) :: st) σ := r_gf _ _ _ rfl
theorem F_p60_15 {k pc len : Nat} {is : List zCE} {ls st : List zV} {σ : zM} (i : Nat) (v : Int) : zres k ((pc, len, 239, .putfield i) :: is) ls (vI v :: vR 60 :: st) σ = zres k is ls st (zU σ 60 15 v) := r_pf _ _ _ rfl
theorem F_g60_12 {k pc len : Nat} {is : List zCE} {ls st : List zV} {σ : zM} (i : Nat) : zres k ((pc, len, 236, .getfield i) :: is) ls (vR 60 :: st) σ = zres k is ls (vR 66 :: st) σ := r_gf _ _ _ rfl
theorem F_g60_15 {k pc len : Nat} {is : List zCE} {ls st : List zV} {σ : zM} (i : Nat) : zres k ((pc, len, 239, .getfield i) :: is) ls (vR 60 :: st) σ = zres k is ls (vI (σ 60 15) :: st) σ := r_gf _ _ _ rfl
theorem F_g60_17 {k pc len : Nat} {is : List zCE} {ls st : List zV} {σ : zM} (i : Nat) : zres k ((pc, len, 241, .getfield i) :: is) ls (vR 60 :: st) σ = zres k is ls (vI (σ 60 17) :: st) σ := r_gf _ _ _ rfl
theorem F_g60_16 {k pc len : Nat} {is : List zCE} {ls st : List zV} {σ : zM} (i : Nat) : zres k ((pc, len, 240, .getfield i) :: is) ls (vR 60 :: st) σ = zres k is ls (vR 67 :: st) σ := r_gf _ _ _ rfl
theorem F_p60_17 {k pc len : Nat} {is : List zCE} {ls st : List zV} {σ : zM} (i : Nat) (v : Int) : zres k ((pc, len, 241, .putfield i) :: is) ls (vI v :: vR 60 :: st) σ = zres k is ls st (zU σ 60 17 v) := r_pf _ _ _ rfl
theorem F_g60_18 {k pc len : Nat} {is : List zCE} {ls st : List zV} {σ : zM} (i : Nat) : zres k ((pc, len, 242, .getfield i) :: is) ls (vR 60 :: st) σ = zres k is ls (vI (σ 60 18) :: st) σ := r_gf _ _ _ rfl
theorem F_g60_19 {k pc len : Nat} {is : List zCE} {ls st : List zV} {σ : zM} (i : Nat) : zres k ((pc, len, 243, .getfield i) :: is) ls (vR 60 :: st) σ = zres k is ls (vR 68 :: st) σ := r_gf _ _ _ rfl
theorem F_p60_18 {k pc len : Nat} {is : List zCE} {ls st : List zV} {σ : zM} (i : Nat) (v : Int) : zres k ((pc, len, 242, .putfield i) :: is) ls (vI v :: vR 60 :: st) σ = zres k is ls st (zU σ 60 18 v) := r_pf _ _ _ rfl
theorem F_g60_2 {k pc len : Nat} {is : List zCE} {ls st : List zV} {σ : zM} (i : Nat) : zres k ((pc, len, 226, .getfield i) :: is) ls (vR 60 :: st) σ = zres k is ls (vR 63 :: st) σ := r_gf _ _ _ rfl
theorem F_g60_1 {k pc len : Nat} {is : List zCE} {ls st : List zV} {σ : zM} (i : Nat) : zres k ((pc, len, 225, .getfield i) :: is) ls (vR 60 :: st) σ = zres k is ls (vR 62 :: st) σ := r_gf _ _ _ rfl
theorem F_p60_3 {k pc len : Nat} {is : List zCE} {ls st : List zV} {σ : zM} (i : Nat) (v : Int) (h : 0 ≤ v ∧ v ≤ 1) : zres k ((pc, len, 227, .putfield i) :: is) ls (vI v :: vR 60 :: st) σ = zres k is ls st (zU σ 60 3 v) := r_pf _ _ _ (by rcases (show v = 0 ∨ v = 1 by omega) with rfl | rfl <;> rfl)
theorem F_g60_3 {k pc len : Nat} {is : List zCE} {ls st : List zV} {σ : zM} (i : Nat) : zres k ((pc, len, 227, .getfield i) :: is) ls (vR 60 :: st) σ = zres k is ls (vI (σ 60 3) :: st) σ := r_gf _ _ _ rfl
theorem F_g60_20 {k pc len : Nat} {is : List zCE} {ls st : List zV} {σ : zM} (i : Nat) : zres k ((pc, len, 244, .getfield i) :: is) ls (vR 60 :: st) σ = zres k is ls (vR 69 :: st) σ := r_gf _ _ _ rfl
theorem F_g60_21 {k pc len : Nat} {is : List zCE} {ls st : List zV} {σ : zM} (i : Nat) : zres k ((pc, len, 245, .getfield i) :: is) ls (vR 60 :: st) σ = zres k is ls (vR 70 :: st) σ := r_gf _ _ _ rfl
theorem F_g60_22 {k pc len : Nat} {is : List zCE} {ls st : List zV} {σ : zM} (i : Nat) : zres k ((pc, len, 246, .getfield i) :: is) ls (vR 60 :: st) σ = zres k is ls (vR 71 :: st) σ := r_gf _ _ _ rfl
theorem L_ist_n0 {k pc len : Nat} {x : Int} {is : List zCE} {ls st : List zV} {σ : zM} {b0 : zV} (v : Int) : zres k ((pc, len, x, .istore_n 0) :: is) (b0 :: ls) (vI v :: st) σ = zres k is (vI v :: ls) st σ := r_st _ 0 0 _ rfl rfl (by simp)
theorem A_g3 {k pc len : Nat} {x : Int} {is : List zCE} {ls st : List zV} {σ : zM} (i : Int) (h : 0 ≤ i ∧ i < 6) : zres k ((pc, len, x, .iaload) :: is) ls (vI i :: vR 3 :: st) σ = zres k is ls (vI (σ 3 i) :: st) σ := r_iald 3 i 6 rfl h
theorem A_p3 {k pc len : Nat} {x : Int} {is : List zCE} {ls st : List zV} {σ : zM} (i v : Int) (h : 0 ≤ i ∧ i < 6) : zres k ((pc, len, x, .iastore) :: is) ls (vI v :: vI i :: vR 3 :: st) σ = zres k is ls st (zU σ 3 i v) := r_iast 3 i v 6 rfl h
theorem A_g4 {k pc len : Nat} {x : Int} {is : List zCE} {ls st : List zV} {σ : zM} (i : Int) (h : 0 ≤ i ∧ i < 6) : zres k ((pc, len, x, .iaload) :: is) ls (vI i :: vR 4 :: st) σ = zres k is ls (vI (σ 4 i) :: st) σ := r_iald 4 i 6 rfl h
theorem A_p4 {k pc len : Nat} {x : Int} {is : List zCE} {ls st : List zV} {σ : zM} (i v : Int) (h : 0 ≤ i ∧ i < 6) : zres k ((pc, len, x, .iastore) :: is) ls (vI v :: vI i :: vR 4 :: st) σ = zres k is ls st (zU σ 4 i v) := r_iast 4 i v 6 rfl h
theorem A_g5 {k pc len : Nat} {x : Int} {is : List zCE} {ls st : List zV} {σ : zM} (i : Int) (h : 0 ≤ i ∧ i < 6) : zres k ((pc, len, x, .iaload) :: is) ls (vI i :: vR 5 :: st) σ = zres k is ls (vI (σ 5 i) :: st) σ := r_iald 5 i 6 rfl h
theorem A_p5 {k pc len : Nat} {x : Int} {is : List zCE} {ls st : List zV} {σ : zM} (i v : Int) (h : 0 ≤ i ∧ i < 6) : zres k ((pc, len, x, .iastore) :: is) ls (vI v :: vI i :: vR 5 :: st) σ = zres k is ls st (zU σ 5 i v) := r_iast 5 i v 6 rfl h
theorem A_g6 {k pc len : Nat} {x : Int} {is : List zCE} {ls st : List zV} {σ : zM} (i : Int) (h : 0 ≤ i ∧ i < 6) : zres k ((pc, len, x, .iaload) :: is) ls (vI i :: vR 6 :: st) σ = zres k is ls (vI (σ 6 i) :: st) σ := r_iald 6 i 6 rfl h
theorem A_p6 {k pc len : Nat} {x : Int} {is : List zCE} {ls st : List zV} {σ : zM} (i v : Int) (h : 0 ≤ i ∧ i < 6) : zres k ((pc, len, x, .iastore) :: is) ls (vI v :: vI i :: vR 6 :: st) σ = zres k is ls st (zU σ 6 i v) := r_iast 6 i v 6 rfl h
theorem A_g7 {k pc len : Nat} {x : Int} {is : List zCE} {ls st : List zV} {σ : zM} (i : Int) (h : 0 ≤ i ∧ i < 6) : zres k ((pc, len, x, .iaload) :: is) ls (vI i :: vR 7 :: st) σ = zres k is ls (vI (σ 7 i) :: st) σ := r_iald 7 i 6 rfl h
theorem A_p7 {k pc len : Nat} {x : Int} {is : List zCE} {ls st : List zV} {σ : zM} (i v : Int) (h : 0 ≤ i ∧ i < 6) : zres k ((pc, len, x, .iastore) :: is) ls (vI v :: vI i :: vR 7 :: st) σ = zres k is ls st (zU σ 7 i v) := r_iast 7 i v 6 rfl h
theorem A_g9 {k pc len : Nat} {x : Int} {is : List zCE} {ls st : List zV} {σ : zM} (i : Int) (h : 0 ≤ i ∧ i < 5) : zres k ((pc, len, x, .iaload) :: is) ls (vI i :: vR 9 :: st) σ = zres k is ls (vI (σ 9 i) :: st) σ := r_iald 9 i 5 rfl h
theorem A_p9 {k pc len : Nat} {x : Int} {is : List zCE} {ls st : List zV} {σ : zM} (i v : Int) (h : 0 ≤ i ∧ i < 5) : zres k ((pc, len, x, .iastore) :: is) ls (vI v :: vI i :: vR 9 :: st) σ = zres k is ls st (zU σ 9 i v) := r_iast 9 i v 5 rfl h
theorem A_g10 {k pc len : Nat} {x : Int} {is : List zCE} {ls st : List zV} {σ : zM} (i : Int) (h : 0 ≤ i ∧ i < 5) : zres k ((pc, len, x, .iaload) :: is) ls (vI i :: vR 10 :: st) σ = zres k is ls (vI (σ 10 i) :: st) σ := r_iald 10 i 5 rfl h
theorem A_p10 {k pc len : Nat} {x : Int} {is : List zCE} {ls st : List zV} {σ : zM} (i v : Int) (h : 0 ≤ i ∧ i < 5) : zres k ((pc, len, x, .iastore) :: is) ls (vI v :: vI i :: vR 10 :: st) σ = zres k is ls st (zU σ 10 i v) := r_iast 10 i v 5 rfl h
theorem A_g12 {k pc len : Nat} {x : Int} {is : List zCE} {ls st : List zV} {σ : zM} (i : Int) (h : 0 ≤ i ∧ i < 8) : zres k ((pc, len, x, .iaload) :: is) ls (vI i :: vR 12 :: st) σ = zres k is ls (vI (σ 12 i) :: st) σ := r_iald 12 i 8 rfl h
theorem A_p12 {k pc len : Nat} {x : Int} {is : List zCE} {ls st : List zV} {σ : zM} (i v : Int) (h : 0 ≤ i ∧ i < 8) : zres k ((pc, len, x, .iastore) :: is) ls (vI v :: vI i :: vR 12 :: st) σ = zres k is ls st (zU σ 12 i v) := r_iast 12 i v 8 rfl h
theorem A_g13 {k pc len : Nat} {x : Int} {is : List zCE} {ls st : List zV} {σ : zM} (i : Int) (h : 0 ≤ i ∧ i < 8) : zres k ((pc, len, x, .iaload) :: is) ls (vI i :: vR 13 :: st) σ = zres k is ls (vI (σ 13 i) :: st) σ := r_iald 13 i 8 rfl h
theorem A_p13 {k pc len : Nat} {x : Int} {is : List zCE} {ls st : List zV} {σ : zM} (i v : Int) (h : 0 ≤ i ∧ i < 8) : zres k ((pc, len, x, .iastore) :: is) ls (vI v :: vI i :: vR 13 :: st) σ = zres k is ls st (zU σ 13 i v) := r_iast 13 i v 8 rfl h
theorem A_g15 {k pc len : Nat} {x : Int} {is : List zCE} {ls st : List zV} {σ : zM} (i : Int) (h : 0 ≤ i ∧ i < 8) : zres k ((pc, len, x, .iaload) :: is) ls (vI i :: vR 15 :: st) σ = zres k is ls (vI (σ 15 i) :: st) σ := r_iald 15 i 8 rfl h
theorem A_p15 {k pc len : Nat} {x : Int} {is : List zCE} {ls st : List zV} {σ : zM} (i v : Int) (h : 0 ≤ i ∧ i < 8) : zres k ((pc, len, x, .iastore) :: is) ls (vI v :: vI i :: vR 15 :: st) σ = zres k is ls st (zU σ 15 i v) := r_iast 15 i v 8 rfl h
theorem A_g16 {k pc len : Nat} {x : Int} {is : List zCE} {ls st : List zV} {σ : zM} (i : Int) (h : 0 ≤ i ∧ i < 8) : zres k ((pc, len, x, .iaload) :: is) ls (vI i :: vR 16 :: st) σ = zres k is ls (vI (σ 16 i) :: st) σ := r_iald 16 i 8 rfl h
theorem A_p16 {k pc len : Nat} {x : Int} {is : List zCE} {ls st : List zV} {σ : zM} (i v : Int) (h : 0 ≤ i ∧ i < 8) : zres k ((pc, len, x, .iastore) :: is) ls (vI v :: vI i :: vR 16 :: st) σ = zres k is ls st (zU σ 16 i v) := r_iast 16 i v 8 rfl h
theorem A_g19 {k pc len : Nat} {x : Int} {is : List zCE} {ls st : List zV} {σ : zM} (i : Int) (h : 0 ≤ i ∧ i < 6) : zres k ((pc, len, x, .iaload) :: is) ls (vI i :: vR 19 :: st) σ = zres k is ls (vI (σ 19 i) :: st) σ := r_iald 19 i 6 rfl h
theorem A_p19 {k pc len : Nat} {x : Int} {is : List zCE} {ls st : List zV} {σ : zM} (i v : Int) (h : 0 ≤ i ∧ i < 6) : zres k ((pc, len, x, .iastore) :: is) ls (vI v :: vI i :: vR 19 :: st) σ = zres k is ls st (zU σ 19 i v) := r_iast 19 i v 6 rfl h
theorem A_g20 {k pc len : Nat} {x : Int} {is : List zCE} {ls st : List zV} {σ : zM} (i : Int) (h : 0 ≤ i ∧ i < 6) : zres k ((pc, len, x, .iaload) :: is) ls (vI i :: vR 20 :: st) σ = zres k is ls (vI (σ 20 i) :: st) σ := r_iald 20 i 6 rfl h
theorem A_p20 {k pc len : Nat} {x : Int} {is : List zCE} {ls st : List zV} {σ : zM} (i v : Int) (h : 0 ≤ i ∧ i < 6) : zres k ((pc, len, x, .iastore) :: is) ls (vI v :: vI i :: vR 20 :: st) σ = zres k is ls st (zU σ 20 i v) := r_iast 20 i v 6 rfl h
theorem A_g21 {k pc len : Nat} {x : Int} {is : List zCE} {ls st : List zV} {σ : zM} (i : Int) (h : 0 ≤ i ∧ i < 6) : zres k ((pc, len, x, .iaload) :: is) ls (vI i :: vR 21 :: st) σ = zres k is ls (vI (σ 21 i) :: st) σ := r_iald 21 i 6 rfl h
theorem A_p21 {k pc len : Nat} {x : Int} {is : List zCE} {ls st : List zV} {σ : zM} (i v : Int) (h : 0 ≤ i ∧ i < 6) : zres k ((pc, len, x, .iastore) :: is) ls (vI v :: vI i :: vR 21 :: st) σ = zres k is ls st (zU σ 21 i v) := r_iast 21 i v 6 rfl h
theorem A_g22 {k pc len : Nat} {x : Int} {is : List zCE} {ls st : List zV} {σ : zM} (i : Int) (h : 0 ≤ i ∧ i < 6) : zres k ((pc, len, x, .iaload) :: is) ls (vI i :: vR 22 :: st) σ = zres k is ls (vI (σ 22 i) :: st) σ := r_iald 22 i 6 rfl h
theorem A_p22 {k pc len : Nat} {x : Int} {is : List zCE} {ls st : List zV} {σ : zM} (i v : Int) (h : 0 ≤ i ∧ i < 6) : zres k ((pc, len, x, .iastore) :: is) ls (vI v :: vI i :: vR 22 :: st) σ = zres k is ls st (zU σ 22 i v) := r_iast 22 i v 6 rfl h
theorem A_g23 {k pc len : Nat} {x : Int} {is : List zCE} {ls st : List zV} {σ : zM} (i : Int) (h : 0 ≤ i ∧ i < 6) : zres k ((pc, len, x, .iaload) :: is) ls (vI i :: vR 23 :: st) σ = zres k is ls (vI (σ 23 i) :: st) σ := r_iald 23 i 6 rfl h
theorem A_p23 {k pc len : Nat} {x : Int} {is : List zCE} {ls st : List zV} {σ : zM} (i v : Int) (h : 0 ≤ i ∧ i < 6) : zres k ((pc, len, x, .iastore) :: is) ls (vI v :: vI i :: vR 23 :: st) σ = zres k is ls st (zU σ 23 i v) := r_iast 23 i v 6 rfl h
theorem A_g25 {k pc len : Nat} {x : Int} {is : List zCE} {ls st : List zV} {σ : zM} (i : Int) (h : 0 ≤ i ∧ i < 5) : zres k ((pc, len, x, .iaload) :: is) ls (vI i :: vR 25 :: st) σ = zres k is ls (vI (σ 25 i) :: st) σ := r_iald 25 i 5 rfl h
theorem A_p25 {k pc len : Nat} {x : Int} {is : List zCE} {ls st : List zV} {σ : zM} (i v : Int) (h : 0 ≤ i ∧ i < 5) : zres k ((pc, len, x, .iastore) :: is) ls (vI v :: vI i :: vR 25 :: st) σ = zres k is ls st (zU σ 25 i v) := r_iast 25 i v 5 rfl h
theorem A_g26 {k pc len : Nat} {x : Int} {is : List zCE} {ls st : List zV} {σ : zM} (i : Int) (h : 0 ≤ i ∧ i < 5) : zres k ((pc, len, x, .iaload) :: is) ls (vI i :: vR 26 :: st) σ = zres k is ls (vI (σ 26 i) :: st) σ := r_iald 26 i 5 rfl h
theorem A_p26 {k pc len : Nat} {x : Int} {is : List zCE} {ls st : List zV} {σ : zM} (i v : Int) (h : 0 ≤ i ∧ i < 5) : zres k ((pc, len, x, .iastore) :: is) ls (vI v :: vI i :: vR 26 :: st) σ = zres k is ls st (zU σ 26 i v) := r_iast 26 i v 5 rfl h
theorem A_g28 {k pc len : Nat} {x : Int} {is : List zCE} {ls st : List zV} {σ : zM} (i : Int) (h : 0 ≤ i ∧ i < 8) : zres k ((pc, len, x, .iaload) :: is) ls (vI i :: vR 28 :: st) σ = zres k is ls (vI (σ 28 i) :: st) σ := r_iald 28 i 8 rfl h
theorem A_p28 {k pc len : Nat} {x : Int} {is : List zCE} {ls st : List zV} {σ : zM} (i v : Int) (h : 0 ≤ i ∧ i < 8) : zres k ((pc, len, x, .iastore) :: is) ls (vI v :: vI i :: vR 28 :: st) σ = zres k is ls st (zU σ 28 i v) := r_iast 28 i v 8 rfl h
theorem A_g29 {k pc len : Nat} {x : Int} {is : List zCE} {ls st : List zV} {σ : zM} (i : Int) (h : 0 ≤ i ∧ i < 8) : zres k ((pc, len, x, .iaload) :: is) ls (vI i :: vR 29 :: st) σ = zres k is ls (vI (σ 29 i) :: st) σ := r_iald 29 i 8 rfl h
theorem A_p29 {k pc len : Nat} {x : Int} {is : List zCE} {ls st : List zV} {σ : zM} (i v : Int) (h : 0 ≤ i ∧ i < 8) : zres k ((pc, len, x, .iastore) :: is) ls (vI v :: vI i :: vR 29 :: st) σ = zres k is ls st (zU σ 29 i v) := r_iast 29 i v 8 rfl h
theorem A_g31 {k pc len : Nat} {x : Int} {is : List zCE} {ls st : List zV} {σ : zM} (i : Int) (h : 0 ≤ i ∧ i < 8) : zres k ((pc, len, x, .iaload) :: is) ls (vI i :: vR 31 :: st) σ = zres k is ls (vI (σ 31 i) :: st) σ := r_iald 31 i 8 rfl h
theorem A_p31 {k pc len : Nat} {x : Int} {is : List zCE} {ls st : List zV} {σ : zM} (i v : Int) (h : 0 ≤ i ∧ i < 8) : zres k ((pc, len, x, .iastore) :: is) ls (vI v :: vI i :: vR 31 :: st) σ = zres k is ls st (zU σ 31 i v) := r_iast 31 i v 8 rfl h
theorem A_g32 {k pc len : Nat} {x : Int} {is : List zCE} {ls st : List zV} {σ : zM} (i : Int) (h : 0 ≤ i ∧ i < 8) : zres k ((pc, len, x, .iaload) :: is) ls (vI i :: vR 32 :: st) σ = zres k is ls (vI (σ 32 i) :: st) σ := r_iald 32 i 8 rfl h
theorem A_p32 {k pc len : Nat} {x : Int} {is : List zCE} {ls st : List zV} {σ : zM} (i v : Int) (h : 0 ≤ i ∧ i < 8) : zres k ((pc, len, x, .iastore) :: is) ls (vI v :: vI i :: vR 32 :: st) σ = zres k is ls st (zU σ 32 i v) := r_iast 32 i v 8 rfl h
theorem A_g34 {k pc len : Nat} {x : Int} {is : List zCE} {ls st : List zV} {σ : zM} (i : Int) (h : 0 ≤ i ∧ i < 6) : zres k ((pc, len, x, .iaload) :: is) ls (vI i :: vR 34 :: st) σ = zres k is ls (vI (σ 34 i) :: st) σ := r_iald 34 i 6 rfl h
theorem A_p34 {k pc len : Nat} {x : Int} {is : List zCE} {ls st : List zV} {σ : zM} (i v : Int) (h : 0 ≤ i ∧ i < 6) : zres k ((pc, len, x, .iastore) :: is) ls (vI v :: vI i :: vR 34 :: st) σ = zres k is ls st (zU σ 34 i v) := r_iast 34 i v 6 rfl h
theorem A_g36 {k pc len : Nat} {x : Int} {is : List zCE} {ls st : List zV} {σ : zM} (i : Int) (h : 0 ≤ i ∧ i < 6) : zres k ((pc, len, x, .iaload) :: is) ls (vI i :: vR 36 :: st) σ = zres k is ls (vI (σ 36 i) :: st) σ := r_iald 36 i 6 rfl h
theorem A_p36 {k pc len : Nat} {x : Int} {is : List zCE} {ls st : List zV} {σ : zM} (i v : Int) (h : 0 ≤ i ∧ i < 6) : zres k ((pc, len, x, .iastore) :: is) ls (vI v :: vI i :: vR 36 :: st) σ = zres k is ls st (zU σ 36 i v) := r_iast 36 i v 6 rfl h
theorem A_g37 {k pc len : Nat} {x : Int} {is : List zCE} {ls st : List zV} {σ : zM} (i : Int) (h : 0 ≤ i ∧ i < 4) : zres k ((pc, len, x, .iaload) :: is) ls (vI i :: vR 37 :: st) σ = zres k is ls (vI (σ 37 i) :: st) σ := r_iald 37 i 4 rfl h
theorem A_p37 {k pc len : Nat} {x : Int} {is : List zCE} {ls st : List zV} {σ : zM} (i v : Int) (h : 0 ≤ i ∧ i < 4) : zres k ((pc, len, x, .iastore) :: is) ls (vI v :: vI i :: vR 37 :: st) σ = zres k is ls st (zU σ 37 i v) := r_iast 37 i v 4 rfl h
theorem A_g38 {k pc len : Nat} {x : Int} {is : List zCE} {ls st : List zV} {σ : zM} (i : Int) (h : 0 ≤ i ∧ i < 4) : zres k ((pc, len, x, .iaload) :: is) ls (vI i :: vR 38 :: st) σ = zres k is ls (vI (σ 38 i) :: st) σ := r_iald 38 i 4 rfl h
theorem A_p38 {k pc len : Nat} {x : Int} {is : List zCE} {ls st : List zV} {σ : zM} (i v : Int) (h : 0 ≤ i ∧ i < 4) : zres k ((pc, len, x, .iastore) :: is) ls (vI v :: vI i :: vR 38 :: st) σ = zres k is ls st (zU σ 38 i v) := r_iast 38 i v 4 rfl h
theorem A_g39 {k pc len : Nat} {x : Int} {is : List zCE} {ls st : List zV} {σ : zM} (i : Int) (h : 0 ≤ i ∧ i < 6) : zres k ((pc, len, x, .iaload) :: is) ls (vI i :: vR 39 :: st) σ = zres k is ls (vI (σ 39 i) :: st) σ := r_iald 39 i 6 rfl h
theorem A_p39 {k pc len : Nat} {x : Int} {is : List zCE} {ls st : List zV} {σ : zM} (i v : Int) (h : 0 ≤ i ∧ i < 6) : zres k ((pc, len, x, .iastore) :: is) ls (vI v :: vI i :: vR 39 :: st) σ = zres k is ls st (zU σ 39 i v) := r_iast 39 i v 6 rfl h
theorem A_g41 {k pc len : Nat} {x : Int} {is : List zCE} {ls st : List zV} {σ : zM} (i : Int) (h : 0 ≤ i ∧ i < 6) : zres k ((pc, len, x, .iaload) :: is) ls (vI i :: vR 41 :: st) σ = zres k is ls (vI (σ 41 i) :: st) σ := r_iald 41 i 6 rfl h
theorem A_p41 {k pc len : Nat} {x : Int} {is : List zCE} {ls st : List zV} {σ : zM} (i v : Int) (h : 0 ≤ i ∧ i < 6) : zres k ((pc, len, x, .iastore) :: is) ls (vI v :: vI i :: vR 41 :: st) σ = zres k is ls st (zU σ 41 i v) := r_iast 41 i v 6 rfl h
theorem A_g42 {k pc len : Nat} {x : Int} {is : List zCE} {ls st : List zV} {σ : zM} (i : Int) (h : 0 ≤ i ∧ i < 6) : zres k ((pc, len, x, .iaload) :: is) ls (vI i :: vR 42 :: st) σ = zres k is ls (vI (σ 42 i) :: st) σ := r_iald 42 i 6 rfl h
theorem A_p42 {k pc len : Nat} {x : Int} {is : List zCE} {ls st : List zV} {σ : zM} (i v : Int) (h : 0 ≤ i ∧ i < 6) : zres k ((pc, len, x, .iastore) :: is) ls (vI v :: vI i :: vR 42 :: st) σ = zres k is ls st (zU σ 42 i v) := r_iast 42 i v 6 rfl h
theorem A_g43 {k pc len : Nat} {x : Int} {is : List zCE} {ls st : List zV} {σ : zM} (i : Int) (h : 0 ≤ i ∧ i < 6) : zres k ((pc, len, x, .iaload) :: is) ls (vI i :: vR 43 :: st) σ = zres k is ls (vI (σ 43 i) :: st) σ := r_iald 43 i 6 rfl h
theorem A_p43 {k pc len : Nat} {x : Int} {is : List zCE} {ls st : List zV} {σ : zM} (i v : Int) (h : 0 ≤ i ∧ i < 6) : zres k ((pc, len, x, .iastore) :: is) ls (vI v :: vI i :: vR 43 :: st) σ = zres k is ls st (zU σ 43 i v) := r_iast 43 i v 6 rfl h
theorem A_g44 {k pc len : Nat} {x : Int} {is : List zCE} {ls st : List zV} {σ : zM} (i : Int) (h : 0 ≤ i ∧ i < 6) : zres k ((pc, len, x, .iaload) :: is) ls (vI i :: vR 44 :: st) σ = zres k is ls (vI (σ 44 i) :: st) σ := r_iald 44 i 6 rfl h
theorem A_p44 {k pc len : Nat} {x : Int} {is : List zCE} {ls st : List zV} {σ : zM} (i v : Int) (h : 0 ≤ i ∧ i < 6) : zres k ((pc, len, x, .iastore) :: is) ls (vI v :: vI i :: vR 44 :: st) σ = zres k is ls st (zU σ 44 i v) := r_iast 44 i v 6 rfl h
theorem A_g61 {k pc len : Nat} {x : Int} {is : List zCE} {ls st : List zV} {σ : zM} (i : Int) (h : 0 ≤ i ∧ i < 82) : zres k ((pc, len, x, .iaload) :: is) ls (vI i :: vR 61 :: st) σ = zres k is ls (vI (σ 61 i) :: st) σ := r_iald 61 i 82 rfl h
theorem A_p61 {k pc len : Nat} {x : Int} {is : List zCE} {ls st : List zV} {σ : zM} (i v : Int) (h : 0 ≤ i ∧ i < 82) : zres k ((pc, len, x, .iastore) :: is) ls (vI v :: vI i :: vR 61 :: st) σ = zres k is ls st (zU σ 61 i v) := r_iast 61 i v 82 rfl h
theorem A_g62 {k pc len : Nat} {x : Int} {is : List zCE} {ls st : List zV} {σ : zM} (i : Int) (h : 0 ≤ i ∧ i < 82) : zres k ((pc, len, x, .iaload) :: is) ls (vI i :: vR 62 :: st) σ = zres k is ls (vI (σ 62 i) :: st) σ := r_iald 62 i 82 rfl h
theorem A_p62 {k pc len : Nat} {x : Int} {is : List zCE} {ls st : List zV} {σ : zM} (i v : Int) (h : 0 ≤ i ∧ i < 82) : zres k ((pc, len, x, .iastore) :: is) ls (vI v :: vI i :: vR 62 :: st) σ = zres k is ls st (zU σ 62 i v) := r_iast 62 i v 82 rfl h
theorem A_g63 {k pc len : Nat} {x : Int} {is : List zCE} {ls st : List zV} {σ : zM} (i : Int) (h : 0 ≤ i ∧ i < 82) : zres k ((pc, len, x, .iaload) :: is) ls (vI i :: vR 63 :: st) σ = zres k is ls (vI (σ 63 i) :: st) σ := r_iald 63 i 82 rfl h
theorem A_p63 {k pc len : Nat} {x : Int} {is : List zCE} {ls st : List zV} {σ : zM} (i v : Int) (h : 0 ≤ i ∧ i < 82) : zres k ((pc, len, x, .iastore) :: is) ls (vI v :: vI i :: vR 63 :: st) σ = zres k is ls st (zU σ 63 i v) := r_iast 63 i v 82 rfl h
theorem A_g65 {k pc len : Nat} {x : Int} {is : List zCE} {ls st : List zV} {σ : zM} (i : Int) (h : 0 ≤ i ∧ i < 6) : zres k ((pc, len, x, .iaload) :: is) ls (vI i :: vR 65 :: st) σ = zres k is ls (vI (σ 65 i) :: st) σ := r_iald 65 i 6 rfl h
theorem A_p65 {k pc len : Nat} {x : Int} {is : List zCE} {ls st : List zV} {σ : zM} (i v : Int) (h : 0 ≤ i ∧ i < 6) : zres k ((pc, len, x, .iastore) :: is) ls (vI v :: vI i :: vR 65 :: st) σ = zres k is ls st (zU σ 65 i v) := r_iast 65 i v 6 rfl h
theorem A_g66 {k pc len : Nat} {x : Int} {is : List zCE} {ls st : List zV} {σ : zM} (i : Int) (h : 0 ≤ i ∧ i < 6) : zres k ((pc, len, x, .iaload) :: is) ls (vI i :: vR 66 :: st) σ = zres k is ls (vI (σ 66 i) :: st) σ := r_iald 66 i 6 rfl h
theorem A_p66 {k pc len : Nat} {x : Int} {is : List zCE} {ls st : List zV} {σ : zM} (i v : Int) (h : 0 ≤ i ∧ i < 6) : zres k ((pc, len, x, .iastore) :: is) ls (vI v :: vI i :: vR 66 :: st) σ = zres k is ls st (zU σ 66 i v) := r_iast 66 i v 6 rfl h
theorem A_g67 {k pc len : Nat} {x : Int} {is : List zCE} {ls st : List zV} {σ : zM} (i : Int) (h : 0 ≤ i ∧ i < 100) : zres k ((pc, len, x, .iaload) :: is) ls (vI i :: vR 67 :: st) σ = zres k is ls (vI (σ 67 i) :: st) σ := r_iald 67 i 100 rfl h
theorem A_p67 {k pc len : Nat} {x : Int} {is : List zCE} {ls st : List zV} {σ : zM} (i v : Int) (h : 0 ≤ i ∧ i < 100) : zres k ((pc, len, x, .iastore) :: is) ls (vI v :: vI i :: vR 67 :: st) σ = zres k is ls st (zU σ 67 i v) := r_iast 67 i v 100 rfl h
theorem A_g68 {k pc len : Nat} {x : Int} {is : List zCE} {ls st : List zV} {σ : zM} (i : Int) (h : 0 ≤ i ∧ i < 56) : zres k ((pc, len, x, .iaload) :: is) ls (vI i :: vR 68 :: st) σ = zres k is ls (vI (σ 68 i) :: st) σ := r_iald 68 i 56 rfl h
theorem A_p68 {k pc len : Nat} {x : Int} {is : List zCE} {ls st : List zV} {σ : zM} (i v : Int) (h : 0 ≤ i ∧ i < 56) : zres k ((pc, len, x, .iastore) :: is) ls (vI v :: vI i :: vR 68 :: st) σ = zres k is ls st (zU σ 68 i v) := r_iast 68 i v 56 rfl h
theorem A_g69 {k pc len : Nat} {x : Int} {is : List zCE} {ls st : List zV} {σ : zM} (i : Int) (h : 0 ≤ i ∧ i < 6) : zres k ((pc, len, x, .iaload) :: is) ls (vI i :: vR 69 :: st) σ = zres k is ls (vI (σ 69 i) :: st) σ := r_iald 69 i 6 rfl h
theorem A_p69 {k pc len : Nat} {x : Int} {is : List zCE} {ls st : List zV} {σ : zM} (i v : Int) (h : 0 ≤ i ∧ i < 6) : zres k ((pc, len, x, .iastore) :: is) ls (vI v :: vI i :: vR 69 :: st) σ = zres k is ls st (zU σ 69 i v) := r_iast 69 i v 6 rfl h
theorem A_g70 {k pc len : Nat} {x : Int} {is : List zCE} {ls st : List zV} {σ : zM} (i : Int) (h : 0 ≤ i ∧ i < 6) : zres k ((pc, len, x, .iaload) :: is) ls (vI i :: vR 70 :: st) σ = zres k is ls (vI (σ 70 i) :: st) σ := r_iald 70 i 6 rfl h
theorem A_p70 {k pc len : Nat} {x : Int} {is : List zCE} {ls st : List zV} {σ : zM} (i v : Int) (h : 0 ≤ i ∧ i < 6) : zres k ((pc, len, x, .iastore) :: is) ls (vI v :: vI i :: vR 70 :: st) σ = zres k is ls st (zU σ 70 i v) := r_iast 70 i v 6 rfl h
theorem A_gN {k pc len : Nat} {x : Int} {is : List zCE} {ls st : List zV} {σ : zM} (i p : Int) (h : 0 ≤ p ∧ p < 4 ∧ 0 ≤ i ∧ i < 6) : zres k ((pc, len, x, .iaload) :: is) ls (vI i :: vR (3 + p) :: st) σ = zres k is ls (vI (σ (3 + p) i) :: st) σ := by
  rcases (show p = 0 ∨ p = 1 ∨ p = 2 ∨ p = 3 by omega) with rfl | rfl | rfl | rfl <;> exact r_iald _ i 6 rfl h.2.2
theorem A_pN {k pc len : Nat} {x : Int} {is : List zCE} {ls st : List zV} {σ : zM} (i p v : Int) (h : 0 ≤ p ∧ p < 4 ∧ 0 ≤ i ∧ i < 6) : zres k ((pc, len, x, .iastore) :: is) ls (vI v :: vI i :: vR (3 + p) :: st) σ = zres k is ls st (zU σ (3 + p) i v) := by
  rcases (show p = 0 ∨ p = 1 ∨ p = 2 ∨ p = 3 by omega) with rfl | rfl | rfl | rfl <;> exact r_iast _ i v 6 rfl h.2.2
theorem A_gT {k pc len : Nat} {x : Int} {is : List zCE} {ls st : List zV} {σ : zM} (i p : Int) (h : 0 ≤ p ∧ p < 4 ∧ 0 ≤ i ∧ i < 6) : zres k ((pc, len, x, .iaload) :: is) ls (vI i :: vR (41 + p) :: st) σ = zres k is ls (vI (σ (41 + p) i) :: st) σ := by
  rcases (show p = 0 ∨ p = 1 ∨ p = 2 ∨ p = 3 by omega) with rfl | rfl | rfl | rfl <;> exact r_iald _ i 6 rfl h.2.2
theorem A_pT {k pc len : Nat} {x : Int} {is : List zCE} {ls st : List zV} {σ : zM} (i p v : Int) (h : 0 ≤ p ∧ p < 4 ∧ 0 ≤ i ∧ i < 6) : zres k ((pc, len, x, .iastore) :: is) ls (vI v :: vI i :: vR (41 + p) :: st) σ = zres k is ls st (zU σ (41 + p) i v) := by
  rcases (show p = 0 ∨ p = 1 ∨ p = 2 ∨ p = 3 by omega) with rfl | rfl | rfl | rfl <;> exact r_iast _ i v 6 rfl h.2.2
theorem A_gC {k pc len : Nat} {x : Int} {is : List zCE} {ls st : List zV} {σ : zM} (c i : Int) (hs : zshp c = (0, 6)) (h : 0 ≤ i ∧ i < 6) : zres k ((pc, len, x, .iaload) :: is) ls (vI i :: vR c :: st) σ = zres k is ls (vI (σ c i) :: st) σ := r_iald c i 6 hs h
theorem A_a2 {k pc len : Nat} {x : Int} {is : List zCE} {ls st : List zV} {σ : zM} (i : Int) (h : 0 ≤ i ∧ i < 4) : zres k ((pc, len, x, .aaload) :: is) ls (vI i :: vR 2 :: st) σ = zres k is ls (vR (3 + i) :: st) σ := by
  rw [r_aald 2 i 4 4 (by omega) rfl h]
  have : ((zra (2 : Int).toNat i.toNat : Nat) : Int) = 3 + i := by
    show ((if (2 : Nat) = 47 then 48 + 2 * i.toNat else 2 + 1 + i.toNat : Nat) : Int) = _
    rw [if_neg (by decide)]
    omega
  rw [this]
theorem A_a18 {k pc len : Nat} {x : Int} {is : List zCE} {ls st : List zV} {σ : zM} (i : Int) (h : 0 ≤ i ∧ i < 4) : zres k ((pc, len, x, .aaload) :: is) ls (vI i :: vR 18 :: st) σ = zres k is ls (vR (19 + i) :: st) σ := by
  rw [r_aald 18 i 4 4 (by omega) rfl h]
  have : ((zra (18 : Int).toNat i.toNat : Nat) : Int) = 19 + i := by
    show ((if (18 : Nat) = 47 then 48 + 2 * i.toNat else 18 + 1 + i.toNat : Nat) : Int) = _
    rw [if_neg (by decide)]
    omega
  rw [this]
theorem A_a40 {k pc len : Nat} {x : Int} {is : List zCE} {ls st : List zV} {σ : zM} (i : Int) (h : 0 ≤ i ∧ i < 4) : zres k ((pc, len, x, .aaload) :: is) ls (vI i :: vR 40 :: st) σ = zres k is ls (vR (41 + i) :: st) σ := by
  rw [r_aald 40 i 4 4 (by omega) rfl h]
  have : ((zra (40 : Int).toNat i.toNat : Nat) : Int) = 41 + i := by
    show ((if (40 : Nat) = 47 then 48 + 2 * i.toNat else 40 + 1 + i.toNat : Nat) : Int) = _
    rw [if_neg (by decide)]
    omega
  rw [this]
theorem A_a47 {k pc len : Nat} {x : Int} {is : List zCE} {ls st : List zV} {σ : zM} (i : Int) (h : 0 ≤ i ∧ i < 6) : zres k ((pc, len, x, .aaload) :: is) ls (vI i :: vR 47 :: st) σ = zres k is ls (vR (48 + 2 * i) :: st) σ := by
  rw [r_aald 47 i 6 5 (by omega) rfl h]
  have : ((zra (47 : Int).toNat i.toNat : Nat) : Int) = 48 + 2 * i := by
    show ((if (47 : Nat) = 47 then 48 + 2 * i.toNat else 47 + 1 + i.toNat : Nat) : Int) = _
    rw [if_pos rfl]
    omega
  rw [this]
theorem A_lg {k pc len : Nat} {x : Int} {is : List zCE} {ls st : List zV} {σ : zM} (i t : Int) (h : 0 ≤ t ∧ t < 6 ∧ 0 ≤ i ∧ i < 60) : zres k ((pc, len, x, .laload) :: is) ls (vI i :: vR (49 + 2 * t) :: st) σ = zres k is ls (vL (σ (49 + 2 * t) i) :: st) σ := by
  rcases (show t = 0 ∨ t = 1 ∨ t = 2 ∨ t = 3 ∨ t = 4 ∨ t = 5 by omega) with rfl | rfl | rfl | rfl | rfl | rfl <;> exact r_lald _ i 60 rfl h.2.2
theorem A_lp {k pc len : Nat} {x : Int} {is : List zCE} {ls st : List zV} {σ : zM} (i t v : Int) (h : 0 ≤ t ∧ t < 6 ∧ 0 ≤ i ∧ i < 60) : zres k ((pc, len, x, .lastore) :: is) ls (vL v :: vI i :: vR (49 + 2 * t) :: st) σ = zres k is ls st (zU σ (49 + 2 * t) i v) := by
  rcases (show t = 0 ∨ t = 1 ∨ t = 2 ∨ t = 3 ∨ t = 4 ∨ t = 5 by omega) with rfl | rfl | rfl | rfl | rfl | rfl <;> exact r_last _ i v 60 rfl h.2.2
theorem A_lg71 {k pc len : Nat} {x : Int} {is : List zCE} {ls st : List zV} {σ : zM} (i : Int) (h : 0 ≤ i ∧ i < 360) : zres k ((pc, len, x, .laload) :: is) ls (vI i :: vR 71 :: st) σ = zres k is ls (vL (σ 71 i) :: st) σ := r_lald 71 i 360 rfl h
theorem A_lp71 {k pc len : Nat} {x : Int} {is : List zCE} {ls st : List zV} {σ : zM} (i v : Int) (h : 0 ≤ i ∧ i < 360) : zres k ((pc, len, x, .lastore) :: is) ls (vL v :: vI i :: vR 71 :: st) σ = zres k is ls st (zU σ 71 i v) := r_last 71 i v 360 rfl h
theorem A_b46 {k pc len : Nat} {x : Int} {is : List zCE} {ls st : List zV} {σ : zM} (i : Int) (h : 0 ≤ i ∧ i < 100) (hv : -128 ≤ σ 46 i ∧ σ 46 i < 128) : zres k ((pc, len, x, .baload) :: is) ls (vI i :: vR 46 :: st) σ = zres k is ls (vI (σ 46 i) :: st) σ := r_bald 46 i 100 rfl h hv
theorem A_z64 {k pc len : Nat} {x : Int} {is : List zCE} {ls st : List zV} {σ : zM} (i : Int) (h : 0 ≤ i ∧ i < 6) (hv : 0 ≤ σ 64 i ∧ σ 64 i < 2) : zres k ((pc, len, x, .baload) :: is) ls (vI i :: vR 64 :: st) σ = zres k is ls (vI (σ 64 i) :: st) σ := r_zald 64 i 6 rfl h hv
theorem A_bp46 {k pc len : Nat} {x : Int} {is : List zCE} {ls st : List zV} {σ : zM} (i v : Int) (h : 0 ≤ i ∧ i < 100) : zres k ((pc, len, x, .bastore) :: is) ls (vI v :: vI i :: vR 46 :: st) σ = zres k is ls st (zU σ 46 i v) := r_bast 46 i v 100 2 (Or.inl rfl) rfl h
theorem A_zp64 {k pc len : Nat} {x : Int} {is : List zCE} {ls st : List zV} {σ : zM} (i v : Int) (h : 0 ≤ i ∧ i < 6) : zres k ((pc, len, x, .bastore) :: is) ls (vI v :: vI i :: vR 64 :: st) σ = zres k is ls st (zU σ 64 i v) := r_bast 64 i v 6 3 (Or.inr rfl) rfl h
theorem A_n9 {k pc len : Nat} {x : Int} {is : List zCE} {ls st : List zV} {σ : zM} : zres k ((pc, len, x, .arraylength) :: is) ls (vR 9 :: st) σ = zres k is ls (vI 5 :: st) σ := r_aln 9 5 0 (by decide) rfl (by decide)
theorem A_n10 {k pc len : Nat} {x : Int} {is : List zCE} {ls st : List zV} {σ : zM} : zres k ((pc, len, x, .arraylength) :: is) ls (vR 10 :: st) σ = zres k is ls (vI 5 :: st) σ := r_aln 10 5 0 (by decide) rfl (by decide)
theorem A_n12 {k pc len : Nat} {x : Int} {is : List zCE} {ls st : List zV} {σ : zM} : zres k ((pc, len, x, .arraylength) :: is) ls (vR 12 :: st) σ = zres k is ls (vI 8 :: st) σ := r_aln 12 8 0 (by decide) rfl (by decide)
theorem A_n13 {k pc len : Nat} {x : Int} {is : List zCE} {ls st : List zV} {σ : zM} : zres k ((pc, len, x, .arraylength) :: is) ls (vR 13 :: st) σ = zres k is ls (vI 8 :: st) σ := r_aln 13 8 0 (by decide) rfl (by decide)
theorem A_n15 {k pc len : Nat} {x : Int} {is : List zCE} {ls st : List zV} {σ : zM} : zres k ((pc, len, x, .arraylength) :: is) ls (vR 15 :: st) σ = zres k is ls (vI 8 :: st) σ := r_aln 15 8 0 (by decide) rfl (by decide)
theorem A_n16 {k pc len : Nat} {x : Int} {is : List zCE} {ls st : List zV} {σ : zM} : zres k ((pc, len, x, .arraylength) :: is) ls (vR 16 :: st) σ = zres k is ls (vI 8 :: st) σ := r_aln 16 8 0 (by decide) rfl (by decide)
theorem A_n25 {k pc len : Nat} {x : Int} {is : List zCE} {ls st : List zV} {σ : zM} : zres k ((pc, len, x, .arraylength) :: is) ls (vR 25 :: st) σ = zres k is ls (vI 5 :: st) σ := r_aln 25 5 0 (by decide) rfl (by decide)
theorem A_n26 {k pc len : Nat} {x : Int} {is : List zCE} {ls st : List zV} {σ : zM} : zres k ((pc, len, x, .arraylength) :: is) ls (vR 26 :: st) σ = zres k is ls (vI 5 :: st) σ := r_aln 26 5 0 (by decide) rfl (by decide)
theorem A_n28 {k pc len : Nat} {x : Int} {is : List zCE} {ls st : List zV} {σ : zM} : zres k ((pc, len, x, .arraylength) :: is) ls (vR 28 :: st) σ = zres k is ls (vI 8 :: st) σ := r_aln 28 8 0 (by decide) rfl (by decide)
theorem A_n29 {k pc len : Nat} {x : Int} {is : List zCE} {ls st : List zV} {σ : zM} : zres k ((pc, len, x, .arraylength) :: is) ls (vR 29 :: st) σ = zres k is ls (vI 8 :: st) σ := r_aln 29 8 0 (by decide) rfl (by decide)
theorem A_n31 {k pc len : Nat} {x : Int} {is : List zCE} {ls st : List zV} {σ : zM} : zres k ((pc, len, x, .arraylength) :: is) ls (vR 31 :: st) σ = zres k is ls (vI 8 :: st) σ := r_aln 31 8 0 (by decide) rfl (by decide)
theorem A_n32 {k pc len : Nat} {x : Int} {is : List zCE} {ls st : List zV} {σ : zM} : zres k ((pc, len, x, .arraylength) :: is) ls (vR 32 :: st) σ = zres k is ls (vI 8 :: st) σ := r_aln 32 8 0 (by decide) rfl (by decide)
theorem A_n47 {k pc len : Nat} {x : Int} {is : List zCE} {ls st : List zV} {σ : zM} : zres k ((pc, len, x, .arraylength) :: is) ls (vR 47 :: st) σ = zres k is ls (vI 6 :: st) σ := r_aln 47 6 5 (by decide) rfl (by decide)
theorem A_nT {k pc len : Nat} {x : Int} {is : List zCE} {ls st : List zV} {σ : zM} (t : Int) (h : 0 ≤ t ∧ t < 6) : zres k ((pc, len, x, .arraylength) :: is) ls (vR (49 + 2 * t) :: st) σ = zres k is ls (vI 60 :: st) σ := by
  rcases (show t = 0 ∨ t = 1 ∨ t = 2 ∨ t = 3 ∨ t = 4 ∨ t = 5 by omega) with rfl | rfl | rfl | rfl | rfl | rfl <;> exact r_aln _ 60 1 (by decide) rfl (by decide)
theorem r_cpy6 {k pc len : Nat} {is : List zCE} {ls st : List zV} {σ : zM} (i : Nat) (n dp d sp a : Int) (hs : zrest st = true) (T na nd : Nat) (hT : T < 2) (ha : zshp a = (T, na)) (hd : zshp d = (T, nd)) (h : 0 ≤ n ∧ 0 ≤ dp ∧ 0 ≤ sp ∧ sp + n ≤ na ∧ dp + n ≤ nd ∧ na < 2147483648 ∧ nd < 2147483648) : zres k ((pc, len, 9999, .invokestatic i) :: is) ls (vI n :: vI dp :: vR d :: vI sp :: vR a :: st) σ = zres k is ls st (zCpy σ a sp d dp n) := r_cpy i n dp d sp a T na nd (by unfold zrest at hs; rw [Bool.and_eq_true] at hs; exact hs.1) hT ha hd h
theorem A_c6 {k pc len : Nat} {is : List zCE} {ls st : List zV} {σ : zM} (i : Nat) (n dp d sp a : Int) (hs : zrest st = true) (ha : zshp a = (0, 6)) (hd : zshp d = (0, 6)) (h : 0 ≤ n ∧ 0 ≤ dp ∧ 0 ≤ sp ∧ sp + n ≤ 6 ∧ dp + n ≤ 6) : zres k ((pc, len, 9999, .invokestatic i) :: is) ls (vI n :: vI dp :: vR d :: vI sp :: vR a :: st) σ = zres k is ls st (zCpy σ a sp d dp n) := r_cpy6 i n dp d sp a hs 0 6 6 (by decide) ha hd (by omega)
theorem A_c5 {k pc len : Nat} {is : List zCE} {ls st : List zV} {σ : zM} (i : Nat) (n dp d sp a : Int) (hs : zrest st = true) (ha : zshp a = (0, 5)) (hd : zshp d = (0, 5)) (h : 0 ≤ n ∧ 0 ≤ dp ∧ 0 ≤ sp ∧ sp + n ≤ 5 ∧ dp + n ≤ 5) : zres k ((pc, len, 9999, .invokestatic i) :: is) ls (vI n :: vI dp :: vR d :: vI sp :: vR a :: st) σ = zres k is ls st (zCpy σ a sp d dp n) := r_cpy6 i n dp d sp a hs 0 5 5 (by decide) ha hd (by omega)
theorem A_c8 {k pc len : Nat} {is : List zCE} {ls st : List zV} {σ : zM} (i : Nat) (n dp d sp a : Int) (hs : zrest st = true) (ha : zshp a = (0, 8)) (hd : zshp d = (0, 8)) (h : 0 ≤ n ∧ 0 ≤ dp ∧ 0 ≤ sp ∧ sp + n ≤ 8 ∧ dp + n ≤ 8) : zres k ((pc, len, 9999, .invokestatic i) :: is) ls (vI n :: vI dp :: vR d :: vI sp :: vR a :: st) σ = zres k is ls st (zCpy σ a sp d dp n) := r_cpy6 i n dp d sp a hs 0 8 8 (by decide) ha hd (by omega)
theorem A_c82 {k pc len : Nat} {is : List zCE} {ls st : List zV} {σ : zM} (i : Nat) (n dp d sp a : Int) (hs : zrest st = true) (ha : zshp a = (0, 82)) (hd : zshp d = (0, 82)) (h : 0 ≤ n ∧ 0 ≤ dp ∧ 0 ≤ sp ∧ sp + n ≤ 82 ∧ dp + n ≤ 82) : zres k ((pc, len, 9999, .invokestatic i) :: is) ls (vI n :: vI dp :: vR d :: vI sp :: vR a :: st) σ = zres k is ls st (zCpy σ a sp d dp n) := r_cpy6 i n dp d sp a hs 0 82 82 (by decide) ha hd (by omega)
theorem A_c60 {k pc len : Nat} {is : List zCE} {ls st : List zV} {σ : zM} (i : Nat) (n dp d sp a : Int) (hs : zrest st = true) (ha : zshp a = (1, 60)) (hd : zshp d = (1, 60)) (h : 0 ≤ n ∧ 0 ≤ dp ∧ 0 ≤ sp ∧ sp + n ≤ 60 ∧ dp + n ≤ 60) : zres k ((pc, len, 9999, .invokestatic i) :: is) ls (vI n :: vI dp :: vR d :: vI sp :: vR a :: st) σ = zres k is ls st (zCpy σ a sp d dp n) := r_cpy6 i n dp d sp a hs 1 60 60 (by decide) ha hd (by omega)
theorem A_c360 {k pc len : Nat} {is : List zCE} {ls st : List zV} {σ : zM} (i : Nat) (n dp d sp a : Int) (hs : zrest st = true) (ha : zshp a = (1, 360)) (hd : zshp d = (1, 360)) (h : 0 ≤ n ∧ 0 ≤ dp ∧ 0 ≤ sp ∧ sp + n ≤ 360 ∧ dp + n ≤ 360) : zres k ((pc, len, 9999, .invokestatic i) :: is) ls (vI n :: vI dp :: vR d :: vI sp :: vR a :: st) σ = zres k is ls st (zCpy σ a sp d dp n) := r_cpy6 i n dp d sp a hs 1 360 360 (by decide) ha hd (by omega)
