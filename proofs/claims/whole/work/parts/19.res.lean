/-! the result of an execution, as a function -/
theorem ex_mono : ∀ (f k : Nat) (code : List zCE) (ls st : List zV) (σ : zM) (y : Option zV × zM), ex f k code ls st σ = some y → ex (f + 1) k code ls st σ = some y
  | 0, _, _, _, _, _, _, h => by cases h
  | f + 1, _, [], _, _, _, _, h => by cases h
  | f + 1, k, (pc, len, x, ins) :: is, ls, st, σ, y, h => by
    unfold ex at h ⊢
    split at h
    · exact h
    · exact ex_mono f _ _ _ _ _ y h
    · rename_i k1 args1 st1 hn
      split at h
      · cases h
      · rename_i r1 σ1 h1
        rw [ex_mono f _ _ _ _ _ _ h1]
        exact ex_mono f _ _ _ _ _ y h
theorem ex_le {f g k : Nat} {code : List zCE} {ls st : List zV} {σ : zM} {y : Option zV × zM} (hfg : f ≤ g) (h : ex f k code ls st σ = some y) : ex g k code ls st σ = some y := by
  induction hfg with
  | refl => exact h
  | step _ ih => exact ex_mono _ _ _ _ _ _ y ih
noncomputable def zres (k : Nat) (code : List zCE) (ls st : List zV) (σ : zM) : zO := @dite zO (∃ y f, ex f k code ls st σ = some y) (Classical.propDecidable _) (fun h => some (Classical.choose h)) (fun _ => none)
theorem zres_iff {k : Nat} {code : List zCE} {ls st : List zV} {σ : zM} {y : Option zV × zM} : zres k code ls st σ = some y ↔ ∃ f, ex f k code ls st σ = some y := by
  unfold zres
  constructor
  · intro h
    split at h
    · rename_i hh
      cases h
      exact Classical.choose_spec hh
    · cases h
  · rintro ⟨f, h⟩
    have hh : ∃ y f, ex f k code ls st σ = some y := ⟨y, f, h⟩
    rw [dif_pos hh]
    obtain ⟨g, hg⟩ := Classical.choose_spec hh
    have h1 := ex_le (Nat.le_max_left f g) h
    have h2 := ex_le (Nat.le_max_right f g) hg
    rw [h1] at h2
    exact congrArg some (Option.some.inj h2).symm
noncomputable def zcall (k : Nat) (args : List zV) (σ : zM) : zO := zres k (zcode k) (zloc k args) [] σ
noncomputable def zthen (k : Nat) (is : List zCE) (ls st : List zV) : zO → zO
  | none => none
  | some (r, σ1) => zres k is ls (r.toList ++ st) σ1
theorem zthen_v (k : Nat) (is : List zCE) (ls st : List zV) (v : zV) (σ1 : zM) : zthen k is ls st (some (some v, σ1)) = zres k is ls (v :: st) σ1 := rfl
theorem zthen_0 (k : Nat) (is : List zCE) (ls st : List zV) (σ1 : zM) : zthen k is ls st (some (none, σ1)) = zres k is ls st σ1 := rfl
theorem zres_step (k pc len : Nat) (x : Int) (ins : Instr) (is : List zCE) (ls st : List zV) (σ : zM) : zres k ((pc, len, x, ins) :: is) ls st σ = (match nx k pc x is ls st σ ins with
    | .inl r => r
    | .inr (.inl (is', ls', st', σ')) => zres k is' ls' st' σ'
    | .inr (.inr (k', args, st')) => zthen k is ls st' (zcall k' args σ)) := by
  apply Option.ext
  intro y
  rw [zres_iff]
  constructor
  · rintro ⟨f, h⟩
    cases f with
    | zero => cases h
    | succ f =>
      unfold ex at h
      split at h
      · rename_i r hn; rw [hn]; exact h
      · rename_i hn; rw [hn]; exact zres_iff.mpr ⟨f, h⟩
      · rename_i k1 args1 st1 hn
        rw [hn]
        split at h
        · cases h
        · rename_i r1 σ1 h1
          dsimp only
          rw [show zcall k1 args1 σ = some (r1, σ1) from zres_iff.mpr ⟨f, h1⟩]
          exact zres_iff.mpr ⟨f, h⟩
  · intro h
    split at h
    · rename_i r hn
      refine ⟨1, ?_⟩
      unfold ex
      rw [hn]; exact h
    · rename_i hn
      obtain ⟨f, hf⟩ := zres_iff.mp h
      refine ⟨f + 1, ?_⟩
      unfold ex
      rw [hn]; exact hf
    · rename_i k1 args1 st1 hn
      cases hc : zcall k1 args1 σ with
      | none => rw [hc] at h; cases h
      | some q =>
        obtain ⟨r1, σ1⟩ := q
        rw [hc] at h
        obtain ⟨f, hf⟩ := zres_iff.mp hc
        obtain ⟨g, hg⟩ := zres_iff.mp h
        refine ⟨max f g + 1, ?_⟩
        unfold ex
        rw [hn]
        dsimp only
        rw [ex_le (Nat.le_max_left f g) hf]
        exact ex_le (Nat.le_max_right f g) hg
/-! rows: a step each -/
section ZROW
variable {k pc len : Nat} {x : Int} {is : List zCE} {ls st : List zV} {σ : zM}
theorem r_go {ins : Instr} {is' : List zCE} {ls' st' : List zV} {σ' : zM} (h : nx k pc x is ls st σ ins = zgo is' ls' st' σ') : zres k ((pc, len, x, ins) :: is) ls st σ = zres k is' ls' st' σ' := by
  rw [zres_step, h]; rfl
theorem r_iconst (n : Int) : zres k ((pc, len, x, .iconst n) :: is) ls st σ = zres k is ls (vI x :: st) σ := r_go rfl
theorem r_bipush (n : Int) : zres k ((pc, len, x, .bipush n) :: is) ls st σ = zres k is ls (vI x :: st) σ := r_go rfl
theorem r_sipush (n : Int) : zres k ((pc, len, x, .sipush n) :: is) ls st σ = zres k is ls (vI x :: st) σ := r_go rfl
theorem r_ldcw (n : Nat) : zres k ((pc, len, x, .ldc_w n) :: is) ls st σ = zres k is ls (vI x :: st) σ := r_go rfl
theorem r_lconst (n : Fin 2) : zres k ((pc, len, x, .lconst n) :: is) ls st σ = zres k is ls (vL x :: st) σ := r_go rfl
theorem r_ldc2w (n : Nat) : zres k ((pc, len, x, .ldc2_w n) :: is) ls st σ = zres k is ls (vL x :: st) σ := r_go rfl
theorem r_iadd (a b : Int) : zres k ((pc, len, x, .iadd) :: is) ls (vI b :: vI a :: st) σ = zres k is ls (vI (a + b) :: st) σ := r_go rfl
theorem r_isub (a b : Int) : zres k ((pc, len, x, .isub) :: is) ls (vI b :: vI a :: st) σ = zres k is ls (vI (a - b) :: st) σ := r_go rfl
theorem r_imul (a b : Int) : zres k ((pc, len, x, .imul) :: is) ls (vI b :: vI a :: st) σ = zres k is ls (vI (a * b) :: st) σ := r_go rfl
theorem r_iand (a b : Int) : zres k ((pc, len, x, .iand) :: is) ls (vI b :: vI a :: st) σ = zres k is ls (vI (iAnd a b) :: st) σ := r_go rfl
theorem r_ior (a b : Int) : zres k ((pc, len, x, .ior) :: is) ls (vI b :: vI a :: st) σ = zres k is ls (vI (iOr a b) :: st) σ := r_go rfl
theorem r_ishl (a b : Int) : zres k ((pc, len, x, .ishl) :: is) ls (vI b :: vI a :: st) σ = zres k is ls (vI (iShl a b) :: st) σ := r_go rfl
theorem r_ishr (a b : Int) : zres k ((pc, len, x, .ishr) :: is) ls (vI b :: vI a :: st) σ = zres k is ls (vI (iShr a b) :: st) σ := r_go rfl
theorem r_iushr (a b : Int) : zres k ((pc, len, x, .iushr) :: is) ls (vI b :: vI a :: st) σ = zres k is ls (vI (iUsh a b) :: st) σ := r_go rfl
theorem r_ineg (a : Int) : zres k ((pc, len, x, .ineg) :: is) ls (vI a :: st) σ = zres k is ls (vI (-a) :: st) σ := r_go rfl
theorem r_lneg (a : Int) : zres k ((pc, len, x, .lneg) :: is) ls (vL a :: st) σ = zres k is ls (vL (-a) :: st) σ := r_go rfl
theorem r_ladd (a b : Int) : zres k ((pc, len, x, .ladd) :: is) ls (vL b :: vL a :: st) σ = zres k is ls (vL (a + b) :: st) σ := r_go rfl
theorem r_lsub (a b : Int) : zres k ((pc, len, x, .lsub) :: is) ls (vL b :: vL a :: st) σ = zres k is ls (vL (a - b) :: st) σ := r_go rfl
theorem r_lmul (a b : Int) : zres k ((pc, len, x, .lmul) :: is) ls (vL b :: vL a :: st) σ = zres k is ls (vL (a * b) :: st) σ := r_go rfl
theorem r_land (a b : Int) : zres k ((pc, len, x, .land) :: is) ls (vL b :: vL a :: st) σ = zres k is ls (vL (lAnd a b) :: st) σ := r_go rfl
theorem r_lor (a b : Int) : zres k ((pc, len, x, .lor) :: is) ls (vL b :: vL a :: st) σ = zres k is ls (vL (lOr a b) :: st) σ := r_go rfl
theorem r_lshl (a b : Int) : zres k ((pc, len, x, .lshl) :: is) ls (vI b :: vL a :: st) σ = zres k is ls (vL (lShl a b) :: st) σ := r_go rfl
theorem r_l2i (a : Int) : zres k ((pc, len, x, .l2i) :: is) ls (vL a :: st) σ = zres k is ls (vI a :: st) σ := r_go rfl
theorem r_i2b (a : Int) : zres k ((pc, len, x, .i2b) :: is) ls (vI a :: st) σ = zres k is ls (vI (i2B a) :: st) σ := r_go rfl
theorem r_i2s (a : Int) : zres k ((pc, len, x, .i2s) :: is) ls (vI a :: st) σ = zres k is ls (vI (i2S a) :: st) σ := r_go rfl
theorem r_dupI (a : Int) : zres k ((pc, len, x, .dup) :: is) ls (vI a :: st) σ = zres k is ls (vI a :: vI a :: st) σ := r_go rfl
theorem r_dupR (a : Int) : zres k ((pc, len, x, .dup) :: is) ls (vR a :: st) σ = zres k is ls (vR a :: vR a :: st) σ := r_go rfl
theorem r_dup2L (a : Int) : zres k ((pc, len, x, .dup2) :: is) ls (vL a :: st) σ = zres k is ls (vL a :: vL a :: st) σ := r_go rfl
theorem r_dup2 (a b : Int) : zres k ((pc, len, x, .dup2) :: is) ls (vI a :: vR b :: st) σ = zres k is ls (vI a :: vR b :: vI a :: vR b :: st) σ := r_go rfl
theorem r_goto (o : Int) : zres k ((pc, len, x, .goto o) :: is) ls st σ = zres k (zjump k x) ls st σ := r_go rfl
theorem r_ireturn (v : Int) : zres k ((pc, len, 0, .ireturn) :: is) ls [vI v] σ = some (some (vI v), σ) := by rw [zres_step]; rfl
theorem r_zreturn (v : Int) (h : 0 ≤ v ∧ v ≤ 1) : zres k ((pc, len, 1, .ireturn) :: is) ls [vI v] σ = some (some (vI v), σ) := by
  rw [zres_step]
  rcases (show v = 0 ∨ v = 1 by omega) with rfl | rfl <;> rfl
theorem r_lreturn (v : Int) : zres k ((pc, len, x, .lreturn) :: is) ls [vL v] σ = some (some (vL v), σ) := by rw [zres_step]; rfl
theorem r_return : zres k ((pc, len, x, .return_) :: is) ls [] σ = some (none, σ) := by rw [zres_step]; rfl
theorem c32_id {a : Int} (h : -2147483648 ≤ a) (h2 : a < 2147483648) : c32 a = a := by
  unfold c32
  rw [Int32.toInt_ofInt, show Int32.size = 4294967296 from rfl]
  exact Int.bmod_eq_of_le (by omega) (by omega)
theorem c64_id {a : Int} (h : -9223372036854775808 ≤ a) (h2 : a < 9223372036854775808) : c64 a = a := by
  unfold c64
  rw [Int64.toInt_ofInt, show Int64.size = 18446744073709551616 from rfl]
  exact Int.bmod_eq_of_le (by omega) (by omega)
theorem r_i2l (a : Int) (h : -2147483648 ≤ a ∧ a < 2147483648) : zres k ((pc, len, x, .i2l) :: is) ls (vI a :: st) σ = zres k is ls (vL a :: st) σ := r_go (by
  show zgo is ls (vL (c32 a) :: st) σ = _
  rw [c32_id h.1 h.2])
theorem r_if_t (cd : Jvm.ClassFile.Cond) (o a : Int) (h1 : -2147483648 ≤ a) (h2 : a < 2147483648) (h : zcd cd a 0 = true) : zres k ((pc, len, x, .ifCond cd o) :: is) ls (vI a :: st) σ = zres k (zjump k x) ls st σ := r_go (by
  show zif k x cd is ls (vI a :: st) σ = _
  unfold zif
  dsimp only
  rw [if_pos rfl, c32_id h1 h2, if_pos h])
theorem r_if_f (cd : Jvm.ClassFile.Cond) (o a : Int) (h1 : -2147483648 ≤ a) (h2 : a < 2147483648) (h : zcd cd a 0 = false) : zres k ((pc, len, x, .ifCond cd o) :: is) ls (vI a :: st) σ = zres k is ls st σ := r_go (by
  show zif k x cd is ls (vI a :: st) σ = _
  unfold zif
  dsimp only
  rw [if_pos rfl, c32_id h1 h2, if_neg (by rw [h]; decide)])
theorem r_ic_t (cd : Jvm.ClassFile.Cond) (o a b : Int) (h1 : -2147483648 ≤ a ∧ a < 2147483648) (h2 : -2147483648 ≤ b ∧ b < 2147483648) (h : zcd cd a b = true) : zres k ((pc, len, x, .if_icmp cd o) :: is) ls (vI b :: vI a :: st) σ = zres k (zjump k x) ls st σ := r_go (by
  show zicmp k x cd is ls (vI b :: vI a :: st) σ = _
  unfold zicmp
  dsimp only
  rw [if_pos ⟨rfl, rfl⟩, c32_id h1.1 h1.2, c32_id h2.1 h2.2, if_pos h])
theorem r_ic_f (cd : Jvm.ClassFile.Cond) (o a b : Int) (h1 : -2147483648 ≤ a ∧ a < 2147483648) (h2 : -2147483648 ≤ b ∧ b < 2147483648) (h : zcd cd a b = false) : zres k ((pc, len, x, .if_icmp cd o) :: is) ls (vI b :: vI a :: st) σ = zres k is ls st σ := r_go (by
  show zicmp k x cd is ls (vI b :: vI a :: st) σ = _
  unfold zicmp
  dsimp only
  rw [if_pos ⟨rfl, rfl⟩, c32_id h1.1 h1.2, c32_id h2.1 h2.2, if_neg (by rw [h]; decide)])
theorem r_ifeq_t (o a : Int) (h : 0 ≤ a ∧ a ≤ 0) : zres k ((pc, len, x, .ifCond .eq o) :: is) ls (vI a :: st) σ = zres k (zjump k x) ls st σ := r_if_t _ _ _ (by omega) (by omega) (decide_eq_true (by omega))
theorem r_ifeq_f (o a : Int) (h : ¬ a = 0 ∧ -2147483648 ≤ a ∧ a < 2147483648) : zres k ((pc, len, x, .ifCond .eq o) :: is) ls (vI a :: st) σ = zres k is ls st σ := r_if_f _ _ _ h.2.1 h.2.2 (decide_eq_false h.1)
theorem r_ifne_f (o a : Int) (h : 0 ≤ a ∧ a ≤ 0) : zres k ((pc, len, x, .ifCond .ne o) :: is) ls (vI a :: st) σ = zres k is ls st σ := r_if_f _ _ _ (by omega) (by omega) (decide_eq_false (by omega))
theorem r_ifne_t (o a : Int) (h : ¬ a = 0 ∧ -2147483648 ≤ a ∧ a < 2147483648) : zres k ((pc, len, x, .ifCond .ne o) :: is) ls (vI a :: st) σ = zres k (zjump k x) ls st σ := r_if_t _ _ _ h.2.1 h.2.2 (decide_eq_true h.1)
theorem r_iflt_t (o a : Int) (h : -2147483648 ≤ a ∧ a < 0) : zres k ((pc, len, x, .ifCond .lt o) :: is) ls (vI a :: st) σ = zres k (zjump k x) ls st σ := r_if_t _ _ _ h.1 (by omega) (decide_eq_true h.2)
theorem r_iflt_f (o a : Int) (h : 0 ≤ a ∧ a < 2147483648) : zres k ((pc, len, x, .ifCond .lt o) :: is) ls (vI a :: st) σ = zres k is ls st σ := r_if_f _ _ _ (by omega) h.2 (decide_eq_false (by omega))
theorem r_ifge_f (o a : Int) (h : -2147483648 ≤ a ∧ a < 0) : zres k ((pc, len, x, .ifCond .ge o) :: is) ls (vI a :: st) σ = zres k is ls st σ := r_if_f _ _ _ h.1 (by omega) (decide_eq_false (by omega))
theorem r_ifge_t (o a : Int) (h : 0 ≤ a ∧ a < 2147483648) : zres k ((pc, len, x, .ifCond .ge o) :: is) ls (vI a :: st) σ = zres k (zjump k x) ls st σ := r_if_t _ _ _ (by omega) h.2 (decide_eq_true h.1)
theorem r_ifgt_t (o a : Int) (h : 0 < a ∧ a < 2147483648) : zres k ((pc, len, x, .ifCond .gt o) :: is) ls (vI a :: st) σ = zres k (zjump k x) ls st σ := r_if_t _ _ _ (by omega) h.2 (decide_eq_true h.1)
theorem r_ifgt_f (o a : Int) (h : -2147483648 ≤ a ∧ a ≤ 0) : zres k ((pc, len, x, .ifCond .gt o) :: is) ls (vI a :: st) σ = zres k is ls st σ := r_if_f _ _ _ h.1 (by omega) (decide_eq_false (by omega))
theorem r_ifle_f (o a : Int) (h : 0 < a ∧ a < 2147483648) : zres k ((pc, len, x, .ifCond .le o) :: is) ls (vI a :: st) σ = zres k is ls st σ := r_if_f _ _ _ (by omega) h.2 (decide_eq_false (by omega))
theorem r_ifle_t (o a : Int) (h : -2147483648 ≤ a ∧ a ≤ 0) : zres k ((pc, len, x, .ifCond .le o) :: is) ls (vI a :: st) σ = zres k (zjump k x) ls st σ := r_if_t _ _ _ h.1 (by omega) (decide_eq_true h.2)
theorem r_iceq_t (o a b : Int) (h : a = b ∧ -2147483648 ≤ a ∧ a < 2147483648) : zres k ((pc, len, x, .if_icmp .eq o) :: is) ls (vI b :: vI a :: st) σ = zres k (zjump k x) ls st σ := r_ic_t _ _ _ _ (by omega) (by omega) (decide_eq_true h.1)
theorem r_iceq_f (o a b : Int) (h : ¬ a = b ∧ -2147483648 ≤ a ∧ a < 2147483648 ∧ -2147483648 ≤ b ∧ b < 2147483648) : zres k ((pc, len, x, .if_icmp .eq o) :: is) ls (vI b :: vI a :: st) σ = zres k is ls st σ := r_ic_f _ _ _ _ (by omega) (by omega) (decide_eq_false h.1)
theorem r_icne_f (o a b : Int) (h : a = b ∧ -2147483648 ≤ a ∧ a < 2147483648) : zres k ((pc, len, x, .if_icmp .ne o) :: is) ls (vI b :: vI a :: st) σ = zres k is ls st σ := r_ic_f _ _ _ _ (by omega) (by omega) (decide_eq_false (by simpa using h.1))
theorem r_icne_t (o a b : Int) (h : ¬ a = b ∧ -2147483648 ≤ a ∧ a < 2147483648 ∧ -2147483648 ≤ b ∧ b < 2147483648) : zres k ((pc, len, x, .if_icmp .ne o) :: is) ls (vI b :: vI a :: st) σ = zres k (zjump k x) ls st σ := r_ic_t _ _ _ _ (by omega) (by omega) (decide_eq_true h.1)
theorem r_iclt_t (o a b : Int) (h : -2147483648 ≤ a ∧ a < b ∧ b < 2147483648) : zres k ((pc, len, x, .if_icmp .lt o) :: is) ls (vI b :: vI a :: st) σ = zres k (zjump k x) ls st σ := r_ic_t _ _ _ _ (by omega) (by omega) (decide_eq_true h.2.1)
theorem r_iclt_f (o a b : Int) (h : -2147483648 ≤ b ∧ b ≤ a ∧ a < 2147483648) : zres k ((pc, len, x, .if_icmp .lt o) :: is) ls (vI b :: vI a :: st) σ = zres k is ls st σ := r_ic_f _ _ _ _ (by omega) (by omega) (decide_eq_false (by omega))
theorem r_icge_f (o a b : Int) (h : -2147483648 ≤ a ∧ a < b ∧ b < 2147483648) : zres k ((pc, len, x, .if_icmp .ge o) :: is) ls (vI b :: vI a :: st) σ = zres k is ls st σ := r_ic_f _ _ _ _ (by omega) (by omega) (decide_eq_false (by omega))
theorem r_icge_t (o a b : Int) (h : -2147483648 ≤ b ∧ b ≤ a ∧ a < 2147483648) : zres k ((pc, len, x, .if_icmp .ge o) :: is) ls (vI b :: vI a :: st) σ = zres k (zjump k x) ls st σ := r_ic_t _ _ _ _ (by omega) (by omega) (decide_eq_true h.2.1)
theorem r_icgt_t (o a b : Int) (h : -2147483648 ≤ b ∧ b < a ∧ a < 2147483648) : zres k ((pc, len, x, .if_icmp .gt o) :: is) ls (vI b :: vI a :: st) σ = zres k (zjump k x) ls st σ := r_ic_t _ _ _ _ (by omega) (by omega) (decide_eq_true h.2.1)
theorem r_icgt_f (o a b : Int) (h : -2147483648 ≤ a ∧ a ≤ b ∧ b < 2147483648) : zres k ((pc, len, x, .if_icmp .gt o) :: is) ls (vI b :: vI a :: st) σ = zres k is ls st σ := r_ic_f _ _ _ _ (by omega) (by omega) (decide_eq_false (by omega))
theorem r_icle_f (o a b : Int) (h : -2147483648 ≤ b ∧ b < a ∧ a < 2147483648) : zres k ((pc, len, x, .if_icmp .le o) :: is) ls (vI b :: vI a :: st) σ = zres k is ls st σ := r_ic_f _ _ _ _ (by omega) (by omega) (decide_eq_false (by omega))
theorem r_icle_t (o a b : Int) (h : -2147483648 ≤ a ∧ a ≤ b ∧ b < 2147483648) : zres k ((pc, len, x, .if_icmp .le o) :: is) ls (vI b :: vI a :: st) σ = zres k (zjump k x) ls st σ := r_ic_t _ _ _ _ (by omega) (by omega) (decide_eq_true h.2.1)
def cmp3 (a b : Int) : Int := if b < a then 1 else if a = b then 0 else -1
theorem lCmp_eq {a b : Int} (h1 : -9223372036854775808 ≤ a ∧ a < 9223372036854775808) (h2 : -9223372036854775808 ≤ b ∧ b < 9223372036854775808) : lCmp a b = cmp3 a b := by
  have e1 : (Int64.ofInt a).toInt = a := c64_id h1.1 h1.2
  have e2 : (Int64.ofInt b).toInt = b := c64_id h2.1 h2.2
  unfold lCmp lg_cmp cmp3
  simp only [gt_iff_lt, Int64.lt_iff_toInt_lt, ← Int64.toInt_inj, e1, e2]
  repeat' split
  all_goals rfl
theorem r_lcmp (a b : Int) (h : -9223372036854775808 ≤ a ∧ a < 9223372036854775808 ∧ -9223372036854775808 ≤ b ∧ b < 9223372036854775808) : zres k ((pc, len, x, .lcmp) :: is) ls (vL b :: vL a :: st) σ = zres k is ls (vI (cmp3 a b) :: st) σ := r_go (by
  show zgo is ls (vI (lCmp a b) :: st) σ = _
  rw [lCmp_eq ⟨h.1, h.2.1⟩ h.2.2])
theorem cmp3_lt {a b : Int} (h : a < b) : cmp3 a b = -1 := by unfold cmp3; rw [if_neg (by omega), if_neg (by omega)]
theorem cmp3_eq {a b : Int} (h : a = b) : cmp3 a b = 0 := by unfold cmp3; rw [if_neg (by omega), if_pos h]
theorem cmp3_gt {a b : Int} (h : b < a) : cmp3 a b = 1 := by unfold cmp3; rw [if_pos h]
theorem r_leq_t {pc2 len2 : Nat} {x2 : Int} (o a b : Int) (h : a = b ∧ -9223372036854775808 ≤ a ∧ a < 9223372036854775808 ∧ -9223372036854775808 ≤ b ∧ b < 9223372036854775808) : zres k ((pc, len, x, .lcmp) :: (pc2, len2, x2, .ifCond .eq o) :: is) ls (vL b :: vL a :: st) σ = zres k (zjump k x2) ls st σ := by
  rw [r_lcmp a b h.2]
  rcases (show a < b ∨ a = b ∨ b < a by omega) with q | q | q
  · rw [cmp3_lt q]; first | (rw [r_ifeq_t _ _ (by omega)]; done) | omega
  · rw [cmp3_eq q]; first | (rw [r_ifeq_t _ _ (by omega)]; done) | omega
  · rw [cmp3_gt q]; first | (rw [r_ifeq_t _ _ (by omega)]; done) | omega
theorem r_leq_f {pc2 len2 : Nat} {x2 : Int} (o a b : Int) (h : ¬ a = b ∧ -9223372036854775808 ≤ a ∧ a < 9223372036854775808 ∧ -9223372036854775808 ≤ b ∧ b < 9223372036854775808) : zres k ((pc, len, x, .lcmp) :: (pc2, len2, x2, .ifCond .eq o) :: is) ls (vL b :: vL a :: st) σ = zres k is ls st σ := by
  rw [r_lcmp a b h.2]
  rcases (show a < b ∨ a = b ∨ b < a by omega) with q | q | q
  · rw [cmp3_lt q]; first | (rw [r_ifeq_f _ _ (by omega)]; done) | omega
  · rw [cmp3_eq q]; first | (rw [r_ifeq_f _ _ (by omega)]; done) | omega
  · rw [cmp3_gt q]; first | (rw [r_ifeq_f _ _ (by omega)]; done) | omega
theorem r_lne_t {pc2 len2 : Nat} {x2 : Int} (o a b : Int) (h : ¬ a = b ∧ -9223372036854775808 ≤ a ∧ a < 9223372036854775808 ∧ -9223372036854775808 ≤ b ∧ b < 9223372036854775808) : zres k ((pc, len, x, .lcmp) :: (pc2, len2, x2, .ifCond .ne o) :: is) ls (vL b :: vL a :: st) σ = zres k (zjump k x2) ls st σ := by
  rw [r_lcmp a b h.2]
  rcases (show a < b ∨ a = b ∨ b < a by omega) with q | q | q
  · rw [cmp3_lt q]; first | (rw [r_ifne_t _ _ (by omega)]; done) | omega
  · rw [cmp3_eq q]; first | (rw [r_ifne_t _ _ (by omega)]; done) | omega
  · rw [cmp3_gt q]; first | (rw [r_ifne_t _ _ (by omega)]; done) | omega
theorem r_lne_f {pc2 len2 : Nat} {x2 : Int} (o a b : Int) (h : a = b ∧ -9223372036854775808 ≤ a ∧ a < 9223372036854775808 ∧ -9223372036854775808 ≤ b ∧ b < 9223372036854775808) : zres k ((pc, len, x, .lcmp) :: (pc2, len2, x2, .ifCond .ne o) :: is) ls (vL b :: vL a :: st) σ = zres k is ls st σ := by
  rw [r_lcmp a b h.2]
  rcases (show a < b ∨ a = b ∨ b < a by omega) with q | q | q
  · rw [cmp3_lt q]; first | (rw [r_ifne_f _ _ (by omega)]; done) | omega
  · rw [cmp3_eq q]; first | (rw [r_ifne_f _ _ (by omega)]; done) | omega
  · rw [cmp3_gt q]; first | (rw [r_ifne_f _ _ (by omega)]; done) | omega
theorem r_llt_t {pc2 len2 : Nat} {x2 : Int} (o a b : Int) (h : a < b ∧ -9223372036854775808 ≤ a ∧ a < 9223372036854775808 ∧ -9223372036854775808 ≤ b ∧ b < 9223372036854775808) : zres k ((pc, len, x, .lcmp) :: (pc2, len2, x2, .ifCond .lt o) :: is) ls (vL b :: vL a :: st) σ = zres k (zjump k x2) ls st σ := by
  rw [r_lcmp a b h.2]
  rcases (show a < b ∨ a = b ∨ b < a by omega) with q | q | q
  · rw [cmp3_lt q]; first | (rw [r_iflt_t _ _ (by omega)]; done) | omega
  · rw [cmp3_eq q]; first | (rw [r_iflt_t _ _ (by omega)]; done) | omega
  · rw [cmp3_gt q]; first | (rw [r_iflt_t _ _ (by omega)]; done) | omega
theorem r_llt_f {pc2 len2 : Nat} {x2 : Int} (o a b : Int) (h : b ≤ a ∧ -9223372036854775808 ≤ a ∧ a < 9223372036854775808 ∧ -9223372036854775808 ≤ b ∧ b < 9223372036854775808) : zres k ((pc, len, x, .lcmp) :: (pc2, len2, x2, .ifCond .lt o) :: is) ls (vL b :: vL a :: st) σ = zres k is ls st σ := by
  rw [r_lcmp a b h.2]
  rcases (show a < b ∨ a = b ∨ b < a by omega) with q | q | q
  · rw [cmp3_lt q]; first | (rw [r_iflt_f _ _ (by omega)]; done) | omega
  · rw [cmp3_eq q]; first | (rw [r_iflt_f _ _ (by omega)]; done) | omega
  · rw [cmp3_gt q]; first | (rw [r_iflt_f _ _ (by omega)]; done) | omega
theorem r_lge_t {pc2 len2 : Nat} {x2 : Int} (o a b : Int) (h : b ≤ a ∧ -9223372036854775808 ≤ a ∧ a < 9223372036854775808 ∧ -9223372036854775808 ≤ b ∧ b < 9223372036854775808) : zres k ((pc, len, x, .lcmp) :: (pc2, len2, x2, .ifCond .ge o) :: is) ls (vL b :: vL a :: st) σ = zres k (zjump k x2) ls st σ := by
  rw [r_lcmp a b h.2]
  rcases (show a < b ∨ a = b ∨ b < a by omega) with q | q | q
  · rw [cmp3_lt q]; first | (rw [r_ifge_t _ _ (by omega)]; done) | omega
  · rw [cmp3_eq q]; first | (rw [r_ifge_t _ _ (by omega)]; done) | omega
  · rw [cmp3_gt q]; first | (rw [r_ifge_t _ _ (by omega)]; done) | omega
theorem r_lge_f {pc2 len2 : Nat} {x2 : Int} (o a b : Int) (h : a < b ∧ -9223372036854775808 ≤ a ∧ a < 9223372036854775808 ∧ -9223372036854775808 ≤ b ∧ b < 9223372036854775808) : zres k ((pc, len, x, .lcmp) :: (pc2, len2, x2, .ifCond .ge o) :: is) ls (vL b :: vL a :: st) σ = zres k is ls st σ := by
  rw [r_lcmp a b h.2]
  rcases (show a < b ∨ a = b ∨ b < a by omega) with q | q | q
  · rw [cmp3_lt q]; first | (rw [r_ifge_f _ _ (by omega)]; done) | omega
  · rw [cmp3_eq q]; first | (rw [r_ifge_f _ _ (by omega)]; done) | omega
  · rw [cmp3_gt q]; first | (rw [r_ifge_f _ _ (by omega)]; done) | omega
theorem r_lgt_t {pc2 len2 : Nat} {x2 : Int} (o a b : Int) (h : b < a ∧ -9223372036854775808 ≤ a ∧ a < 9223372036854775808 ∧ -9223372036854775808 ≤ b ∧ b < 9223372036854775808) : zres k ((pc, len, x, .lcmp) :: (pc2, len2, x2, .ifCond .gt o) :: is) ls (vL b :: vL a :: st) σ = zres k (zjump k x2) ls st σ := by
  rw [r_lcmp a b h.2]
  rcases (show a < b ∨ a = b ∨ b < a by omega) with q | q | q
  · rw [cmp3_lt q]; first | (rw [r_ifgt_t _ _ (by omega)]; done) | omega
  · rw [cmp3_eq q]; first | (rw [r_ifgt_t _ _ (by omega)]; done) | omega
  · rw [cmp3_gt q]; first | (rw [r_ifgt_t _ _ (by omega)]; done) | omega
theorem r_lgt_f {pc2 len2 : Nat} {x2 : Int} (o a b : Int) (h : a ≤ b ∧ -9223372036854775808 ≤ a ∧ a < 9223372036854775808 ∧ -9223372036854775808 ≤ b ∧ b < 9223372036854775808) : zres k ((pc, len, x, .lcmp) :: (pc2, len2, x2, .ifCond .gt o) :: is) ls (vL b :: vL a :: st) σ = zres k is ls st σ := by
  rw [r_lcmp a b h.2]
  rcases (show a < b ∨ a = b ∨ b < a by omega) with q | q | q
  · rw [cmp3_lt q]; first | (rw [r_ifgt_f _ _ (by omega)]; done) | omega
  · rw [cmp3_eq q]; first | (rw [r_ifgt_f _ _ (by omega)]; done) | omega
  · rw [cmp3_gt q]; first | (rw [r_ifgt_f _ _ (by omega)]; done) | omega
theorem r_lle_t {pc2 len2 : Nat} {x2 : Int} (o a b : Int) (h : a ≤ b ∧ -9223372036854775808 ≤ a ∧ a < 9223372036854775808 ∧ -9223372036854775808 ≤ b ∧ b < 9223372036854775808) : zres k ((pc, len, x, .lcmp) :: (pc2, len2, x2, .ifCond .le o) :: is) ls (vL b :: vL a :: st) σ = zres k (zjump k x2) ls st σ := by
  rw [r_lcmp a b h.2]
  rcases (show a < b ∨ a = b ∨ b < a by omega) with q | q | q
  · rw [cmp3_lt q]; first | (rw [r_ifle_t _ _ (by omega)]; done) | omega
  · rw [cmp3_eq q]; first | (rw [r_ifle_t _ _ (by omega)]; done) | omega
  · rw [cmp3_gt q]; first | (rw [r_ifle_t _ _ (by omega)]; done) | omega
theorem r_lle_f {pc2 len2 : Nat} {x2 : Int} (o a b : Int) (h : b < a ∧ -9223372036854775808 ≤ a ∧ a < 9223372036854775808 ∧ -9223372036854775808 ≤ b ∧ b < 9223372036854775808) : zres k ((pc, len, x, .lcmp) :: (pc2, len2, x2, .ifCond .le o) :: is) ls (vL b :: vL a :: st) σ = zres k is ls st σ := by
  rw [r_lcmp a b h.2]
  rcases (show a < b ∨ a = b ∨ b < a by omega) with q | q | q
  · rw [cmp3_lt q]; first | (rw [r_ifle_f _ _ (by omega)]; done) | omega
  · rw [cmp3_eq q]; first | (rw [r_ifle_f _ _ (by omega)]; done) | omega
  · rw [cmp3_gt q]; first | (rw [r_ifle_f _ _ (by omega)]; done) | omega
theorem r_ld (ins : Instr) (t n : Nat) (v : zV) (hn : nx k pc x is ls st σ ins = zld t n is ls st σ) (h : ls[n]? = some v) (ht : v.1 = t) : zres k ((pc, len, x, ins) :: is) ls st σ = zres k is ls (v :: st) σ := r_go (by
  rw [hn]; unfold zld; rw [h]; dsimp only; rw [if_pos ht])
theorem r_st (ins : Instr) (t n : Nat) (v : zV) (hn : nx k pc x is ls (v :: st) σ ins = zst t n is ls (v :: st) σ) (ht : v.1 = t) (h : (if t = 1 then n + 1 else n) < ls.length) : zres k ((pc, len, x, ins) :: is) ls (v :: st) σ = zres k is (zput ls n v) st σ := r_go (by
  rw [hn]; unfold zst; dsimp only; rw [if_pos ⟨ht, h⟩])
theorem r_gf (i : Nat) (c : Int) (r : zV) (h : zrdF x c σ = some r) : zres k ((pc, len, x, .getfield i) :: is) ls (vR c :: st) σ = zres k is ls (r :: st) σ := r_go (by
  show zgf x is ls (vR c :: st) σ = _
  unfold zgf
  dsimp only
  rw [if_pos rfl, h])
theorem r_pf (i : Nat) (c : Int) (v : zV) (h : zokF x c v = true) : zres k ((pc, len, x, .putfield i) :: is) ls (v :: vR c :: st) σ = zres k is ls st (zU σ c (x.toNat % 32 : Nat) v.2) := r_go (by
  show zpf x is ls (v :: vR c :: st) σ = _
  unfold zpf
  dsimp only
  rw [if_pos ⟨rfl, h⟩])
theorem zrdA_ne {t : Nat} {c i : Int} (hk : c ≠ 72) : zrdA k t c i σ = (if 0 ≤ i ∧ i < (zshp c).2 then
    (match t, (zshp c).1 with
      | 0, 0 => some (vI (σ c i))
      | 1, 1 => some (vL (σ c i))
      | 2, 2 => if -128 ≤ σ c i ∧ σ c i < 128 then some (vI (σ c i)) else none
      | 2, 3 => if 0 ≤ σ c i ∧ σ c i < 2 then some (vI (σ c i)) else none
      | 3, 4 => some (vR (zra c.toNat i.toNat : Nat))
      | 3, 5 => some (vR (zra c.toNat i.toNat : Nat))
      | _, _ => none)
  else none) := by
  unfold zrdA
  rw [if_neg (fun q => hk q.2)]
  rfl
theorem zsh_n72 {c : Int} {n T : Nat} (h : zshp c = (T, n)) (hn : 0 < n) : c ≠ 72 := by
  intro q
  subst q
  have : zshp 72 = (99, 0) := rfl
  rw [this] at h
  cases h
  exact absurd hn (by decide)
theorem zsh_lt31 {c : Int} {n T : Nat} (h : zshp c = (T, n)) (hn : 0 < n) : n < 2147483648 := by
  obtain ⟨q, h1, h2, h3⟩ := zsh_arr (c := c) (i := 0) (by rw [h]; exact ⟨Int.le_refl 0, by omega⟩)
  have := zsh_small q h2
  rw [← h3, h] at this
  exact this.1
theorem r_iald (c i : Int) (n : Nat) (hs : zshp c = (0, n)) (h : 0 ≤ i ∧ i < n) : zres k ((pc, len, x, .iaload) :: is) ls (vI i :: vR c :: st) σ = zres k is ls (vI (σ c i) :: st) σ := r_go (by
  show zald k 0 is ls (vI i :: vR c :: st) σ = _
  unfold zald
  dsimp only
  have hn := zsh_lt31 hs (by omega)
  rw [if_pos ⟨rfl, rfl⟩, c32_id (by omega) (by omega), zrdA_ne (zsh_n72 hs (by omega)), hs]
  dsimp only
  rw [if_pos h]
  rfl)
theorem r_lald (c i : Int) (n : Nat) (hs : zshp c = (1, n)) (h : 0 ≤ i ∧ i < n) : zres k ((pc, len, x, .laload) :: is) ls (vI i :: vR c :: st) σ = zres k is ls (vL (σ c i) :: st) σ := r_go (by
  show zald k 1 is ls (vI i :: vR c :: st) σ = _
  unfold zald
  dsimp only
  have hn := zsh_lt31 hs (by omega)
  rw [if_pos ⟨rfl, rfl⟩, c32_id (by omega) (by omega), zrdA_ne (zsh_n72 hs (by omega)), hs]
  dsimp only
  rw [if_pos h]
  rfl)
theorem r_bald (c i : Int) (n : Nat) (hs : zshp c = (2, n)) (h : 0 ≤ i ∧ i < n) (hv : -128 ≤ σ c i ∧ σ c i < 128) : zres k ((pc, len, x, .baload) :: is) ls (vI i :: vR c :: st) σ = zres k is ls (vI (σ c i) :: st) σ := r_go (by
  show zald k 2 is ls (vI i :: vR c :: st) σ = _
  unfold zald
  dsimp only
  have hn := zsh_lt31 hs (by omega)
  rw [if_pos ⟨rfl, rfl⟩, c32_id (by omega) (by omega), zrdA_ne (zsh_n72 hs (by omega)), hs]
  dsimp only
  rw [if_pos h]
  show (match (if -128 ≤ σ c i ∧ σ c i < 128 then some (vI (σ c i)) else none) with | some r => zgo is ls (r :: st) σ | none => zstuck) = _
  rw [if_pos hv])
theorem r_zald (c i : Int) (n : Nat) (hs : zshp c = (3, n)) (h : 0 ≤ i ∧ i < n) (hv : 0 ≤ σ c i ∧ σ c i < 2) : zres k ((pc, len, x, .baload) :: is) ls (vI i :: vR c :: st) σ = zres k is ls (vI (σ c i) :: st) σ := r_go (by
  show zald k 2 is ls (vI i :: vR c :: st) σ = _
  unfold zald
  dsimp only
  have hn := zsh_lt31 hs (by omega)
  rw [if_pos ⟨rfl, rfl⟩, c32_id (by omega) (by omega), zrdA_ne (zsh_n72 hs (by omega)), hs]
  dsimp only
  rw [if_pos h]
  show (match (if 0 ≤ σ c i ∧ σ c i < 2 then some (vI (σ c i)) else none) with | some r => zgo is ls (r :: st) σ | none => zstuck) = _
  rw [if_pos hv])
theorem r_aald (c i : Int) (n T : Nat) (hT : T = 4 ∨ T = 5) (hs : zshp c = (T, n)) (h : 0 ≤ i ∧ i < n) : zres k ((pc, len, x, .aaload) :: is) ls (vI i :: vR c :: st) σ = zres k is ls (vR (zra c.toNat i.toNat : Nat) :: st) σ := r_go (by
  show zald k 3 is ls (vI i :: vR c :: st) σ = _
  unfold zald
  dsimp only
  have hn := zsh_lt31 hs (by omega)
  rw [if_pos ⟨rfl, rfl⟩, c32_id (by omega) (by omega), zrdA_ne (zsh_n72 hs (by omega)), hs]
  dsimp only
  rw [if_pos h]
  rcases hT with rfl | rfl <;> rfl)
theorem r_iast (c i v : Int) (n : Nat) (hs : zshp c = (0, n)) (h : 0 ≤ i ∧ i < n) : zres k ((pc, len, x, .iastore) :: is) ls (vI v :: vI i :: vR c :: st) σ = zres k is ls st (zU σ c i v) := r_go (by
  show zast 0 is ls (vI v :: vI i :: vR c :: st) σ = _
  have hn := zsh_lt31 hs (by omega)
  have hc : c32 i = i := c32_id (by omega) (by omega)
  unfold zast
  dsimp only
  rw [if_pos ⟨rfl, rfl, rfl, by unfold zokA; rw [hc, hs]; simp; omega⟩, hc])
theorem r_last (c i v : Int) (n : Nat) (hs : zshp c = (1, n)) (h : 0 ≤ i ∧ i < n) : zres k ((pc, len, x, .lastore) :: is) ls (vL v :: vI i :: vR c :: st) σ = zres k is ls st (zU σ c i v) := r_go (by
  show zast 1 is ls (vL v :: vI i :: vR c :: st) σ = _
  have hn := zsh_lt31 hs (by omega)
  have hc : c32 i = i := c32_id (by omega) (by omega)
  unfold zast
  dsimp only
  rw [if_pos ⟨rfl, rfl, rfl, by unfold zokA; rw [hc, hs]; simp; omega⟩, hc])
theorem r_bast (c i v : Int) (n T : Nat) (hT : T = 2 ∨ T = 3) (hs : zshp c = (T, n)) (h : 0 ≤ i ∧ i < n) : zres k ((pc, len, x, .bastore) :: is) ls (vI v :: vI i :: vR c :: st) σ = zres k is ls st (zU σ c i v) := r_go (by
  show zast 2 is ls (vI v :: vI i :: vR c :: st) σ = _
  have hn := zsh_lt31 hs (by omega)
  have hc : c32 i = i := c32_id (by omega) (by omega)
  unfold zast
  dsimp only
  rw [if_pos ⟨rfl, rfl, rfl, by unfold zokA; rw [hc, hs]; simp; omega⟩, hc])
theorem r_aln (c : Int) (n T : Nat) (hT : T < 6) (hs : zshp c = (T, n)) (hc : c ≠ 72) : zres k ((pc, len, x, .arraylength) :: is) ls (vR c :: st) σ = zres k is ls (vI n :: st) σ := r_go (by
  show zaln k is ls (vR c :: st) σ = _
  unfold zaln
  dsimp only
  rw [if_pos rfl, if_neg (fun q => hc q.2), hs, if_pos hT])
theorem r_cpy (i : Nat) (n dp d sp a : Int) (T na nd : Nat) (hst : decide (st.length ≤ 4) = true) (hT : T < 2) (ha : zshp a = (T, na)) (hd : zshp d = (T, nd)) (h : 0 ≤ n ∧ 0 ≤ dp ∧ 0 ≤ sp ∧ sp + n ≤ na ∧ dp + n ≤ nd ∧ na < 2147483648 ∧ nd < 2147483648) : zres k ((pc, len, 9999, .invokestatic i) :: is) ls (vI n :: vI dp :: vR d :: vI sp :: vR a :: st) σ = zres k is ls st (zCpy σ a sp d dp n) := r_go (by
  have e1 : c32 n = n := c32_id (by omega) (by omega)
  have e2 : c32 dp = dp := c32_id (by omega) (by omega)
  have e3 : c32 sp = sp := c32_id (by omega) (by omega)
  show zcpy is ls (vI n :: vI dp :: vR d :: vI sp :: vR a :: st) σ = _
  unfold zcpy
  dsimp only
  rw [e1, e2, e3, if_pos]
  refine ⟨rfl, rfl, rfl, rfl, rfl, of_decide_eq_true hst, by rw [ha, hd], by rw [hd]; exact hT, h.1, h.2.1, h.2.2.1, by rw [ha]; exact h.2.2.2.1, by rw [hd]; exact h.2.2.2.2.1⟩)
theorem r_iinc (n : Nat) (c a : Int) (h : ls[n]? = some (vI a)) : zres k ((pc, len, x, .iinc n c) :: is) ls st σ = zres k is (zput ls n (vI (a + c))) st σ := r_go (by
  show ziinc n c is ls st σ = _
  unfold ziinc
  rw [h]
  dsimp only
  rw [if_pos rfl])
/-- a call, by what the callee is -/
theorem r_inv (v : Bool) (i : Nat) (hx : x ≠ 9999) (hst : (decide (znar x.toNat ≤ st.length) && (decide ((st.drop (znar x.toNat)).length ≤ 4) && (st.all (fun v => decide (v.1 ≤ 2)) && (zrecv x.toNat (st.take (znar x.toNat)).reverse && decide ((zini (st.take (znar x.toNat)).reverse).length ≤ zmaxl x.toNat))))) = true) :
    zres k ((pc, len, x, if v then .invokevirtual i else .invokestatic i) :: is) ls st σ = zthen k is ls (st.drop (znar x.toNat)) (zcall x.toNat (st.take (znar x.toNat)).reverse σ) := by
  simp only [Bool.and_eq_true, decide_eq_true_eq] at hst
  have : nx k pc x is ls st σ (if v then .invokevirtual i else .invokestatic i) = .inr (.inr (x.toNat, (st.take (znar x.toNat)).reverse, st.drop (znar x.toNat))) := by
    cases v
    · show (if x = 9999 then zcpy is ls st σ else zinv x ls st σ) = _
      rw [if_neg hx]
      unfold zinv
      rw [if_pos ⟨hst.1, hst.2.1, hst.2.2.1, hst.2.2.2.1, hst.2.2.2.2⟩]
    · show zinv x ls st σ = _
      unfold zinv
      rw [if_pos ⟨hst.1, hst.2.1, hst.2.2.1, hst.2.2.2.1, hst.2.2.2.2⟩]
  rw [zres_step, this]
theorem i_div {a b : Int} (h : 0 ≤ a ∧ 0 < b ∧ a < 2147483648 ∧ b < 2147483648) : Int32.ofInt a / Int32.ofInt b = Int32.ofInt (a / b) := by
  have ea : (Int32.ofInt a).toInt = a := c32_id (by omega) (by omega)
  have eb : (Int32.ofInt b).toInt = b := c32_id (by omega) (by omega)
  have h0 : 0 ≤ a / b := Int.ediv_nonneg h.1 (by omega)
  have h1 : a / b ≤ a := Int.ediv_le_self b h.1
  have ed : (Int32.ofInt (a / b)).toInt = a / b := c32_id (by omega) (by omega)
  apply Int32.toInt_inj.mp
  rw [Int32.toInt_div, ea, eb, ed, Int.tdiv_eq_ediv_of_nonneg h.1]
  exact Int.bmod_eq_of_le (by omega) (by omega)
theorem l_div {a b : Int} (h : 0 ≤ a ∧ 0 < b ∧ a < 9223372036854775808 ∧ b < 9223372036854775808) : Int64.ofInt a / Int64.ofInt b = Int64.ofInt (a / b) := by
  have ea : (Int64.ofInt a).toInt = a := c64_id (by omega) (by omega)
  have eb : (Int64.ofInt b).toInt = b := c64_id (by omega) (by omega)
  have h0 : 0 ≤ a / b := Int.ediv_nonneg h.1 (by omega)
  have h1 : a / b ≤ a := Int.ediv_le_self b h.1
  have ed : (Int64.ofInt (a / b)).toInt = a / b := c64_id (by omega) (by omega)
  apply Int64.toInt_inj.mp
  rw [Int64.toInt_div, ea, eb, ed, Int.tdiv_eq_ediv_of_nonneg h.1]
  exact Int.bmod_eq_of_le (by omega) (by omega)
theorem z_mod (a b : Int) : a - a / b * b = a % b := by
  have := Int.emod_add_ediv_mul a b
  omega
theorem r_idiv (a b : Int) (h : 0 ≤ a ∧ 0 < b ∧ a < 2147483648 ∧ b < 2147483648) : zres k ((pc, len, x, .idiv) :: is) ls (vI b :: vI a :: st) σ = zres k is ls (vI (a / b) :: st) σ := r_go (by
  show zbin 0 0 0 iDiv is ls (vI b :: vI a :: st) σ = _
  unfold zbin
  dsimp only
  rw [if_pos ⟨rfl, rfl⟩]
  unfold iDiv
  have h0 : 0 ≤ a / b := Int.ediv_nonneg h.1 (by omega)
  have h1 : a / b ≤ a := Int.ediv_le_self b h.1
  rw [if_neg (by rw [c32_id (by omega) (by omega)]; omega), i_div h, show (Int32.ofInt (a / b)).toInt = a / b from c32_id (by omega) (by omega)])
theorem r_irem (a b : Int) (h : 0 ≤ a ∧ 0 < b ∧ a < 2147483648 ∧ b < 2147483648) : zres k ((pc, len, x, .irem) :: is) ls (vI b :: vI a :: st) σ = zres k is ls (vI (a % b) :: st) σ := r_go (by
  show zbin 0 0 0 iRem is ls (vI b :: vI a :: st) σ = _
  unfold zbin
  dsimp only
  rw [if_pos ⟨rfl, rfl⟩]
  unfold iRem
  have h0 : 0 ≤ a % b := Int.emod_nonneg a (by omega)
  have h1 : a % b < b := Int.emod_lt_of_pos a (by omega)
  rw [if_neg (by rw [c32_id (by omega) (by omega)]; omega), i_div h, ← Int32.ofInt_mul, ← Int32.ofInt_sub, z_mod, show (Int32.ofInt (a % b)).toInt = a % b from c32_id (by omega) (by omega)])
theorem r_ldiv (a b : Int) (h : 0 ≤ a ∧ 0 < b ∧ a < 9223372036854775808 ∧ b < 9223372036854775808) : zres k ((pc, len, x, .ldiv) :: is) ls (vL b :: vL a :: st) σ = zres k is ls (vL (a / b) :: st) σ := r_go (by
  show zbin 1 1 1 lDiv is ls (vL b :: vL a :: st) σ = _
  unfold zbin
  dsimp only
  rw [if_pos ⟨rfl, rfl⟩]
  unfold lDiv
  have h0 : 0 ≤ a / b := Int.ediv_nonneg h.1 (by omega)
  have h1 : a / b ≤ a := Int.ediv_le_self b h.1
  rw [if_neg (by rw [c64_id (by omega) (by omega)]; omega), l_div h, show (Int64.ofInt (a / b)).toInt = a / b from c64_id (by omega) (by omega)])
theorem r_lrem (a b : Int) (h : 0 ≤ a ∧ 0 < b ∧ a < 9223372036854775808 ∧ b < 9223372036854775808) : zres k ((pc, len, x, .lrem) :: is) ls (vL b :: vL a :: st) σ = zres k is ls (vL (a % b) :: st) σ := r_go (by
  show zbin 1 1 1 lRem is ls (vL b :: vL a :: st) σ = _
  unfold zbin
  dsimp only
  rw [if_pos ⟨rfl, rfl⟩]
  unfold lRem
  have h0 : 0 ≤ a % b := Int.emod_nonneg a (by omega)
  have h1 : a % b < b := Int.emod_lt_of_pos a (by omega)
  rw [if_neg (by rw [c64_id (by omega) (by omega)]; omega), l_div h, ← Int64.ofInt_mul, ← Int64.ofInt_sub, z_mod, show (Int64.ofInt (a % b)).toInt = a % b from c64_id (by omega) (by omega)])
def zrest (st : List zV) : Bool := decide (st.length ≤ 4) && st.all (fun v => decide (v.1 ≤ 2))
theorem r_inv1 (kk : Nat) (v : Bool) (i : Nat) (ag rest : List zV) (hx : kk < 9999) (hn : znar kk = ag.length) (ht : ag.all (fun v => decide (v.1 ≤ 2)) = true) (hr : zrecv kk ag = true) (hi : (zini ag).length ≤ zmaxl kk) (hs : zrest rest = true) : zres k ((pc, len, (kk : Int), if v then .invokevirtual i else .invokestatic i) :: is) ls (ag.reverse ++ rest) σ = zthen k is ls rest (zcall kk ag σ) := by
  unfold zrest at hs
  simp only [Bool.and_eq_true, decide_eq_true_eq] at hs
  have e1 : (ag.reverse ++ rest).take (znar kk) = ag.reverse := by rw [hn, ← List.length_reverse, List.take_left']; rfl
  have e2 : (ag.reverse ++ rest).drop (znar kk) = rest := by rw [hn, ← List.length_reverse, List.drop_left']; rfl
  rw [r_inv v i (by omega)]
  · rw [Int.toNat_natCast, e1, e2, List.reverse_reverse]
  · rw [Int.toNat_natCast, e1, e2, List.reverse_reverse]
    simp only [Bool.and_eq_true, decide_eq_true_eq]
    refine ⟨by rw [hn]; simp, hs.1, ?_, hr, hi⟩
    rw [List.all_append, List.all_reverse, ht, hs.2]
    rfl
theorem r_tabOut (d lo hi : Int) (offs : Array Int) (a : Int) (h : -2147483648 ≤ a ∧ a < 2147483648) (h2 : a < lo ∨ hi < a) : zres k ((pc, len, x, .tableswitch d lo hi offs) :: is) ls (vI a :: st) σ = zres k (zjump k (pc + d)) ls st σ := r_go (by
  show ztab k pc d lo hi offs ls (vI a :: st) σ = _
  unfold ztab
  dsimp only
  rw [if_pos rfl, c32_id h.1 h.2, if_pos h2])
theorem r_tabIn (d lo hi : Int) (offs : Array Int) (a o : Int) (h : -2147483648 ≤ a ∧ a < 2147483648) (h2 : lo ≤ a ∧ a ≤ hi) (ho : offs[(a - lo).toNat]? = some o) : zres k ((pc, len, x, .tableswitch d lo hi offs) :: is) ls (vI a :: st) σ = zres k (zjump k (pc + o)) ls st σ := r_go (by
  show ztab k pc d lo hi offs ls (vI a :: st) σ = _
  unfold ztab
  dsimp only
  rw [if_pos rfl, c32_id h.1 h.2, if_neg (by omega), ho])
theorem r_look (d : Int) (ps : Array (Int × Int)) (a o : Int) (h : -2147483648 ≤ a ∧ a < 2147483648) (ho : Op.lookupswitch.offset ps.toList d a = o) : zres k ((pc, len, x, .lookupswitch d ps) :: is) ls (vI a :: st) σ = zres k (zjump k (pc + o)) ls st σ := r_go (by
  show zlook k pc d ps ls (vI a :: st) σ = _
  unfold zlook
  dsimp only
  rw [if_pos rfl, c32_id h.1 h.2, ho])
theorem zU_eq (σ : zM) (c j v : Int) : zU σ c j v c j = v := by unfold zU; rw [if_pos ⟨rfl, rfl⟩]
theorem zU_nc (σ : zM) (c j v c' j' : Int) (h : c' < c ∨ c < c') : zU σ c j v c' j' = σ c' j' := by unfold zU; rw [if_neg (by omega)]
theorem zU_nj (σ : zM) (c j v j' : Int) (h : j' < j ∨ j < j') : zU σ c j v c j' = σ c j' := by unfold zU; rw [if_neg (by omega)]
end ZROW
