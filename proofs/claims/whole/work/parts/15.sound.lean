section ZI
variable {k pc : Nat} {x : Int} {is is' : List zCE} {ls ls' st st' : List zV} {σ σ' : zM} {ins : Instr}
theorem zok_shp {x c : Int} {v : zV} (h : zokF x c v = true) : ∃ n : Nat, c = n ∧ n < 72 := by
  unfold zokF at h
  simp only [Bool.and_eq_true, beq_iff_eq, decide_eq_true_eq] at h
  obtain ⟨n, h1, h2, -⟩ := zshp_lt (zobj99 h.1.1 h.1.2)
  exact ⟨n, h1, h2⟩
theorem zok_arr {t : Nat} {c i : Int} (h : zokA t c i = true) : ∃ n : Nat, c = n ∧ n < 72 := by
  unfold zokA at h
  simp only [Bool.and_eq_true, decide_eq_true_eq] at h
  obtain ⟨n, h1, h2, -⟩ := zsh_arr (c := c) (i := i) ⟨h.1.1, h.1.2⟩
  exact ⟨n, h1, h2⟩
theorem zast_inv {t : Nat} (h : zast t is ls st σ = .inr (.inl (is', ls', st', σ'))) : ls'.length = ls.length ∧ σ' 72 = σ 72 ∧ (is' = is ∨ ∃ y, is' = zjump k y) := by
  unfold zast at h
  rcases st with _ | ⟨⟨t0, w⟩, _ | ⟨⟨t1, i⟩, _ | ⟨⟨t2, a⟩, st⟩⟩⟩
  · cases h
  · cases h
  · cases h
  · dsimp only at h
    by_cases h1 : t0 = (if t = 1 then 1 else 0) ∧ t1 = 0 ∧ t2 = 2 ∧ zokA t a (c32 i) = true
    · rw [if_pos h1] at h
      obtain ⟨n, rfl, h11⟩ := zok_arr h1.2.2.2
      obtain ⟨rfl, rfl, rfl, rfl⟩ := zgo_inv h
      exact ⟨rfl, zrow72 h11, Or.inl rfl⟩
    · rw [if_neg h1] at h; cases h
theorem zpf_inv (h : zpf x is ls st σ = .inr (.inl (is', ls', st', σ'))) : ls'.length = ls.length ∧ σ' 72 = σ 72 ∧ (is' = is ∨ ∃ y, is' = zjump k y) := by
  unfold zpf at h
  rcases st with _ | ⟨⟨tv, vv⟩, _ | ⟨⟨t2, a⟩, st⟩⟩
  · cases h
  · cases h
  · dsimp only at h
    by_cases h1 : t2 = 2 ∧ zokF x a (tv, vv) = true
    · rw [if_pos h1] at h
      obtain ⟨n, rfl, h11⟩ := zok_shp h1.2
      obtain ⟨rfl, rfl, rfl, rfl⟩ := zgo_inv h
      exact ⟨rfl, zrow72 h11, Or.inl rfl⟩
    · rw [if_neg h1] at h; cases h
theorem zcpy_inv (h : zcpy is ls st σ = .inr (.inl (is', ls', st', σ'))) : ls'.length = ls.length ∧ σ' 72 = σ 72 ∧ (is' = is ∨ ∃ y, is' = zjump k y) := by
  unfold zcpy at h
  rcases st with _ | ⟨⟨t0, n⟩, _ | ⟨⟨t1, dp⟩, _ | ⟨⟨t2, d⟩, _ | ⟨⟨t3, sp⟩, _ | ⟨⟨t4, a⟩, st⟩⟩⟩⟩⟩
  · cases h
  · cases h
  · cases h
  · cases h
  · cases h
  · dsimp only at h
    split at h
    · rename_i h1
      obtain ⟨-, -, -, -, -, -, -, ht2, -⟩ := h1
      obtain ⟨nd, rfl, hnd, -⟩ := zshp_lt (c := d) (by omega)
      obtain ⟨rfl, rfl, rfl, rfl⟩ := zgo_inv h
      refine ⟨rfl, ?_, Or.inl rfl⟩
      funext z
      unfold zCpy
      rw [if_neg (fun w => by omega)]
    · cases h
set_option maxHeartbeats 4000000 in
theorem nx_inv (h : nx k pc x is ls st σ ins = .inr (.inl (is', ls', st', σ'))) : ls'.length = ls.length ∧ σ' 72 = σ 72 ∧ (is' = is ∨ ∃ y, is' = zjump k y) := by
  unfold nx at h
  split at h <;> try simp only [zld, zst, ziinc, zdup, zdup2, zbin, zun, zif, zicmp, ztab, zlook, zgf, zald, zaln, zinv, zireturn, zlreturn, zvreturn, zstuck] at h
  all_goals first
    | exact zast_inv h
    | exact zpf_inv h
    | skip
  all_goals (repeat' (split at h))
  all_goals first
    | (cases h; done)
    | exact zcpy_inv h
    | (obtain ⟨rfl, rfl, rfl, rfl⟩ := zgo_inv h; first
        | exact ⟨rfl, rfl, Or.inl rfl⟩
        | exact ⟨rfl, rfl, Or.inr ⟨_, rfl⟩⟩
        | exact ⟨zput_len _ _ _, rfl, Or.inl rfl⟩)
end ZI
def zOK (k : Nat) (code : List zCE) : Prop := ∃ pre, zcode k = pre ++ code
theorem zchain_app : ∀ (pre : List zCE) (e : zCE) (r : List zCE), zchain (pre ++ e :: r) = true → r = [] ∨ zpc r = e.1 + e.2.1
  | [], e, r, h => by
    cases r with
    | nil => exact Or.inl rfl
    | cons e2 r =>
      right
      simp only [List.nil_append, zchain, Bool.and_eq_true, beq_iff_eq] at h
      exact h.1
  | a :: pre, e, r, h => by
    rw [List.cons_append] at h
    unfold zchain at h
    rw [Bool.and_eq_true] at h
    exact zchain_app pre e r h.2
theorem zjump_ok (k : Nat) (y : Int) : zOK k (zjump k y) := by
  unfold zOK zjump
  exact ⟨(zcode k).takeWhile (fun e => decide ((e.1 : Int) ≠ y)), (List.takeWhile_append_dropWhile).symm⟩
theorem zOK_tail {k : Nat} {e : zCE} {r : List zCE} (h : zOK k (e :: r)) : zOK k r := by
  obtain ⟨pre, h⟩ := h
  exact ⟨pre ++ [e], by rw [h]; simp⟩
/-- row 72, the script, is never written -/
theorem ex_72 : ∀ (f k : Nat) (code : List zCE) (ls st : List zV) (σ : zM) (r : Option zV) (σ' : zM), ex f k code ls st σ = some (r, σ') → σ' 72 = σ 72
  | 0, _, _, _, _, _, _, _, h => by cases h
  | f + 1, _, [], _, _, _, _, _, h => by cases h
  | f + 1, k, (pc, len, x, ins) :: is, ls, st, σ, r, σ', h => by
    unfold ex at h
    split at h
    · rename_i r0 hn
      subst h
      unfold nx at hn
      split at hn <;> try simp only [zld, zst, ziinc, zdup, zdup2, zbin, zun, zif, zicmp, ztab, zlook, zgf, zpf, zast, zcpy, zald, zaln, zinv, zireturn, zlreturn, zvreturn, zstuck, zgo] at hn
      all_goals (repeat' (split at hn))
      all_goals first
        | (cases hn; done)
        | (simp only [Sum.inl.injEq, Option.some.injEq, Prod.mk.injEq] at hn; rw [← hn.2]; done)
        | (cases hn; rfl)
    · rename_i hn
      rw [ex_72 f k _ _ _ _ r σ' h]
      exact (nx_inv hn).2.1
    · rename_i k1 args1 st1 hn
      split at h
      · cases h
      · rename_i r1 σ1 h1
        rw [ex_72 f k _ _ _ _ r σ' h]
        exact ex_72 f _ _ _ _ _ r1 σ1 h1
