/-! four rows of six ints, made at once -/
section MN
variable {E : CtlPost} {e : Env} {d : Bool} {acts : List Action} {s : State}
def rowC (cB : ClassId) : Cell := { cls := cB, slots := Array.replicate 6 (.int 0), vm := .none }
theorem mn_arr {c : ClassId} {k : Class} {comp : ClassId} {ty : FieldType} {n : Nat} {v : Value} (hk : s.vm.classes[c]? = some k) (hkind : k.kind = .array comp ty) (h1 : ¬ n > e.platform.arrayLengthLimit) (h2 : ¬ n * componentBytes ty > e.platform.maxHeapBytes) (hv : fits ty v = true) (hd : v.isDefault = true) (r1 : s.heap.size < e.platform.maxCells) (r2 : s.slotsUsed + n ≤ e.platform.maxSlots) {Q : Addr → Pre} (hq : Q s.heap.size d acts (s.pushCell { cls := c, slots := Array.replicate n v, vm := .none })) : wp (Jvm.newArray c n v) Q E e d acts s := by
  have ha : allocActs (Array.replicate n v) s.heap.size acts = acts := by
    unfold allocActs
    rw [if_pos]
    rw [Array.all_replicate]
    split <;> simp [hd]
  have hf : ∀ (i : Nat) (x : Value), (Array.replicate n v)[i]? = some x → s.fitsSlot c .none i x = true := by
    intro i x hx
    rw [Array.getElem?_replicate] at hx
    by_cases g : i < n
    · rw [if_pos g] at hx
      cases hx
      simp [State.fitsSlot, State.slotType?, hk, hkind, hv]
    · rw [if_neg g] at hx
      cases hx
  simp only [Jvm.newArray, Jvm.arrayFits, wp_bind', W.ask, W.ite, h1, if_false, wp_pure', W.theClass, hk, hkind, h2, W.alloc, W.stop, Option.some.injEq, exists_eq_left', Array.size_replicate, ha]
  rw [if_neg (by omega)]
  exact ⟨r1, r2, hf, hq⟩
theorem mn_row {cB cI : ClassId} {k : Class} (hk : s.vm.classes[cB]? = some k) (hkind : k.kind = .array cI .int) (h1 : ¬ 6 > e.platform.arrayLengthLimit) (h2 : ¬ 24 > e.platform.maxHeapBytes) (r1 : s.heap.size < e.platform.maxCells) (r2 : s.slotsUsed + 6 ≤ e.platform.maxSlots) {Q : Addr → Pre} (hq : Q s.heap.size d acts (s.pushCell (rowC cB))) : wp (multianewarray.make cB [6]) Q E e d acts s := by
  rw [multianewarray.make]
  simp only [wp_bind', W.ite, show ¬ ((6 : Int32) < 0) by decide, if_false, wp_pure', W.theClass, hk, hkind, Option.some.injEq, exists_eq_left']
  exact mn_arr hk hkind h1 h2 rfl rfl r1 r2 hq
/-- the outer array with i rows in it -/
def outC (cA : ClassId) (h : Nat) (i : Nat) : Cell := { cls := cA, slots := ((List.range 4).map fun j => if j < i then Value.ref (h + 1 + j) else .null).toArray, vm := .none }
theorem outC_0 (cA : ClassId) (h : Nat) : ({ cls := cA, slots := Array.replicate 4 .null, vm := .none } : Cell) = outC cA h 0 := by
  unfold outC
  congr 1
theorem outC_s (cA : ClassId) (h : Nat) {i : Nat} (hi : i < 4) : (outC cA h i).setSlot i (.ref (h + 1 + i)) = outC cA h (i + 1) := by
  unfold outC Cell.setSlot
  congr 1
  rcases (show i = 0 ∨ i = 1 ∨ i = 2 ∨ i = 3 by omega) with rfl | rfl | rfl | rfl <;> rfl
def mnS (T : State) (cA cB : ClassId) : Nat → State
  | 0 => T.pushCell (outC cA T.heap.size 0)
  | i + 1 => ((mnS T cA cB i).pushCell (rowC cB)).setCell T.heap.size (outC cA T.heap.size (i + 1))
theorem mnS_f (T : State) (cA cB : ClassId) : ∀ i : Nat, i ≤ 4 → (mnS T cA cB i).heap.size = T.heap.size + 1 + i ∧ (mnS T cA cB i).heap[T.heap.size]? = some (outC cA T.heap.size i) ∧ (mnS T cA cB i).vm = T.vm ∧ (mnS T cA cB i).slotsUsed = T.slotsUsed + 4 + 6 * i ∧ (∀ q : Nat, q < T.heap.size → (mnS T cA cB i).heap[q]? = T.heap[q]?) ∧ (∀ j : Nat, j < i → (mnS T cA cB i).heap[T.heap.size + 1 + j]? = some (rowC cB)) := by
  intro i
  induction i with
  | zero =>
    intro _
    refine ⟨by simp [mnS], by simp [mnS], rfl, by simp [mnS, outC], fun q hq => State.heap_pushCell_of_lt _ _ hq, fun j hj => absurd hj (Nat.not_lt_zero _)⟩
  | succ i ih =>
    intro hi
    obtain ⟨a, b, c, d, o, r⟩ := ih (by omega)
    have hlt : T.heap.size < (mnS T cA cB i).heap.size := by omega
    have hb : ((mnS T cA cB i).pushCell (rowC cB)).heap[T.heap.size]? = some (outC cA T.heap.size i) := by rw [State.heap_pushCell_of_lt (h := hlt)]; exact b
    refine ⟨?_, State.heap_setCell_self hb, by simp [mnS, c], ?_, fun q hq => ?_, fun j hj => ?_⟩
    · simp [mnS, State.setCell, a]; omega
    · simp [mnS, d, rowC]; omega
    · show (((mnS T cA cB i).pushCell (rowC cB)).setCell T.heap.size _).heap[q]? = _
      have hq2 : q < (mnS T cA cB i).heap.size := by omega
      rw [State.heap_setCell_other (Nat.ne_of_gt hq), State.heap_pushCell_of_lt (h := hq2)]
      exact o q hq
    · show (((mnS T cA cB i).pushCell (rowC cB)).setCell T.heap.size _).heap[T.heap.size + 1 + j]? = _
      rw [State.heap_setCell_other (show T.heap.size ≠ T.heap.size + 1 + j by omega)]
      by_cases g : j = i
      · rw [g, ← a]
        exact State.heap_pushCell_size _ _
      · have hj2 : T.heap.size + 1 + j < (mnS T cA cB i).heap.size := by omega
        rw [State.heap_pushCell_of_lt (h := hj2)]
        exact r j (by omega)
theorem mnS_top (T : State) (f : JFrame) (cA cB : ClassId) : ∀ i : Nat, mnS (T.setTop f) cA cB i = (mnS T cA cB i).setTop f
  | 0 => rfl
  | i + 1 => by simp only [mnS, mnS_top T f cA cB i, State.heap_setTop, State.pushCell_setTop, State.setCell_setTop]
theorem mn_make {cA cB cI : ClassId} {kA kB : Class} (hA : s.vm.classes[cA]? = some kA) (hkA : kA.kind = .array cB (.array .int)) (hB : s.vm.classes[cB]? = some kB) (hkB : kB.kind = .array cI .int) (h1 : ¬ 6 > e.platform.arrayLengthLimit) (h2 : ¬ 24 > e.platform.maxHeapBytes) (r1 : s.heap.size + 5 ≤ e.platform.maxCells) (r2 : s.slotsUsed + 28 ≤ e.platform.maxSlots) {Q : Addr → Pre} (hq : ∀ d' acts', Q s.heap.size d' acts' (mnS s cA cB 4)) : wp (multianewarray.make cA [4, 6]) Q E e d acts s := by
  rw [multianewarray.make]
  simp only [wp_bind', W.ite, show ¬ ((4 : Int32) < 0) by decide, if_false, wp_pure', W.theClass, hA, hkA, Option.some.injEq, exists_eq_left']
  have e4 : (4 : Int32).toNatClampNeg = 4 := rfl
  rw [e4]
  refine mn_arr hA hkA (by omega) (by show ¬ 4 * 4 > _; omega) rfl rfl (by omega) (by omega) ?_
  rw [outC_0 cA s.heap.size]
  have hf : ([6] : List Int32).find? (· < 0) = none := by decide
  simp only [hf]
  rw [ite_self, wp_bind', Std.Legacy.Range.forIn_eq_forIn_range']
  show wp (forIn (List.range' 0 4 1) PUnit.unit _) _ E e d acts (mnS s cA cB 0)
  have step : ∀ (i : Nat) (d : Bool) (acts : List Action) (F : ForInStep PUnit → Pre), i < 4 → (∀ d' acts', F (ForInStep.yield PUnit.unit) d' acts' (mnS s cA cB (i + 1))) → wp (multianewarray.make cB [6]) (fun a => wp (do writeLoc s.heap.size i (.ref a); Pure.pure (ForInStep.yield PUnit.unit)) F E e) E e d acts (mnS s cA cB i) := by
    intro i d acts F hi hq'
    obtain ⟨a, b, c, u, o, r⟩ := mnS_f s cA cB i (by omega)
    refine mn_row (cI := cI) (by rw [c]; exact hB) hkB h1 h2 (by omega) (by omega) ?_
    have hlt : s.heap.size < (mnS s cA cB i).heap.size := by omega
    simp only [wp_bind', W.writeLoc, wp_pure']
    refine ⟨outC cA s.heap.size i, by rw [State.heap_pushCell_of_lt (h := hlt)]; exact b, by unfold outC; simp, by unfold outC; simpa using hi, ?_, ?_⟩
    · simp [State.fitsSlot, State.slotType?, outC, c, hA, hkA]
      rfl
    · rw [a, outC_s cA s.heap.size hi]
      exact hq' _ _
  show wp (forIn [0, 1, 2, 3] PUnit.unit _) _ E e d acts (mnS s cA cB 0)
  simp only [List.forIn_cons, List.forIn_nil]
  rw [wp_bind', wp_bind']
  refine step 0 _ _ _ (by omega) (fun d0 a0 => ?_)
  dsimp only
  rw [wp_bind', wp_bind']
  refine step 1 _ _ _ (by omega) (fun d1 a1 => ?_)
  dsimp only
  rw [wp_bind', wp_bind']
  refine step 2 _ _ _ (by omega) (fun d2 a2 => ?_)
  dsimp only
  rw [wp_bind', wp_bind']
  refine step 3 _ _ _ (by omega) (fun d3 a3 => ?_)
  dsimp only
  simp only [wp_pure']
  exact hq _ _
end MN
