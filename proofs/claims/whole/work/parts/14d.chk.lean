theorem zlaw_split (L : List zCE) (P : zCE → Bool) (h : ∀ q, q < 21 → ((L.drop (50 * q)).take 50).all P = true) (hl : L.length ≤ 1050) : L.all P = true := by
  rw [List.all_eq_true]
  intro e he
  obtain ⟨i, hi⟩ := List.getElem?_of_mem he
  have hlt := (List.getElem?_eq_some_iff.mp hi).1
  refine List.all_eq_true.mp (h (i / 50) (by omega)) e (List.mem_of_getElem? (i := i % 50) ?_)
  rw [List.getElem?_take, if_pos (by omega), List.getElem?_drop, show 50 * (i / 50) + i % 50 = i by omega]
  exact hi
theorem zlawAll : zokM zlawR = true := by
  unfold zokM
  rw [Bool.and_eq_true]
  refine ⟨zlaw_split _ _ ?_ (by decide +kernel), zlawC⟩
  intro q hq
  rcases (show q = 0 ∨ q = 1 ∨ q = 2 ∨ q = 3 ∨ q = 4 ∨ q = 5 ∨ q = 6 ∨ q = 7 ∨ q = 8 ∨ q = 9 ∨ q = 10 ∨ q = 11 ∨ q = 12 ∨ q = 13 ∨ q = 14 ∨ q = 15 ∨ q = 16 ∨ q = 17 ∨ q = 18 ∨ q = 19 ∨ q = 20 by omega) with rfl | rfl | rfl | rfl | rfl | rfl | rfl | rfl | rfl | rfl | rfl | rfl | rfl | rfl | rfl | rfl | rfl | rfl | rfl | rfl | rfl
  · exact zlawD_0
  · exact zlawD_1
  · exact zlawD_2
  · exact zlawD_3
  · exact zlawD_4
  · exact zlawD_5
  · exact zlawD_6
  · exact zlawD_7
  · exact zlawD_8
  · exact zlawD_9
  · exact zlawD_10
  · exact zlawD_11
  · exact zlawD_12
  · exact zlawD_13
  · exact zlawD_14
  · exact zlawD_15
  · exact zlawD_16
  · exact zlawD_17
  · exact zlawD_18
  · exact zlawD_19
  · exact zlawD_20
theorem zMTs : zMT = (zMT_0 ++ (zMT_1 ++ (zMT_2 ++ (zMT_3 ++ (zMT_4 ++ (zMT_5 ++ (zMT_6 ++ (zMT_7 ++ (zMT_8 ++ zMT_9.take 13))))))))) ++ [zlawR] := by
  rfl
theorem zokAll : ∀ r ∈ zMT, zokM r = true := by
  intro r h
  rw [zMTs] at h
  simp only [List.mem_append, List.mem_singleton] at h
  rcases h with (h | h | h | h | h | h | h | h | h | h) | h
  · exact List.all_eq_true.mp zokM_0 r h
  · exact List.all_eq_true.mp zokM_1 r h
  · exact List.all_eq_true.mp zokM_2 r h
  · exact List.all_eq_true.mp zokM_3 r h
  · exact List.all_eq_true.mp zokM_4 r h
  · exact List.all_eq_true.mp zokM_5 r h
  · exact List.all_eq_true.mp zokM_6 r h
  · exact List.all_eq_true.mp zokM_7 r h
  · exact List.all_eq_true.mp zokM_8 r h
  · exact List.all_eq_true.mp zokM_9 r h
  · rw [h]; exact zlawAll
theorem zCHK : ∀ k, (zcode k).all (zokD (zbytes k) (zown k) (zlvl k) (zret k)) = true ∧ zchain (zcode k) = true := by
  intro k
  by_cases h : k < zMT.length
  · have hm : zmt k ∈ zMT := by
      unfold zmt
      rw [List.getD_eq_getElem?_getD, List.getElem?_eq_getElem h]
      exact List.getElem_mem h
    have h1 := zokAll _ hm
    unfold zokM at h1
    rw [Bool.and_eq_true] at h1
    exact h1
  · have : zcode k = [] := by
      unfold zcode zmt
      rw [List.getD_eq_getElem?_getD, List.getElem?_eq_none (by omega)]
      rfl
    rw [this]
    exact ⟨rfl, rfl⟩
