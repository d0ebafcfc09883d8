/-! all of it together -/
def RelG (σ τ : zM) : Prop := RelT σ τ ∧ Ow6 σ ∧ Fl τ ∧ RelX σ τ ∧ RelP σ τ
def FC (σ σ1 : zM) : Prop := ∀ c j : Int, (c < 0 ∨ 59 < c) → σ1 c j = σ c j
def FM (τ τ1 : zM) : Prop := ∀ c j : Int, (c < 60 ∨ 71 < c) → τ1 c j = τ c j
def SameG (k : Int → zV) (σ τ : zM) (xc xm : Option (Option zV × zM)) : Prop := ∃ r σ1 τ1, xc = some (some (k r), σ1) ∧ xm = some (some (k r), τ1) ∧ RelG σ1 τ1 ∧ FC σ σ1 ∧ FM τ τ1
theorem RelK_fr {σ τ σ1 τ1 : zM} (R : RelK σ τ) (h : ∀ c j : Int, 17 ≤ c → c ≤ 32 → σ1 c j = σ c j) (h2 : ∀ j, τ1 62 j = τ 62 j) : RelK σ1 τ1 := ⟨RSa_fr R.1 (fun j _ => h _ _ (by omega) (by omega)) (fun p j h1 h2 => h _ _ (by omega) (by omega)) (fun j => h _ _ (by omega) (by omega)) (fun j _ => h2 j), RSs_fr R.2.1 (h _ _ (by omega) (by omega)) (fun k => h _ _ (by omega) (by omega)) (fun k => h _ _ (by omega) (by omega)) (fun j _ => h2 j), RSe_fr R.2.2.1 (h _ _ (by omega) (by omega)) (fun k => h _ _ (by omega) (by omega)) (fun k => h _ _ (by omega) (by omega)) (fun j _ => h2 j), RSb_fr R.2.2.2 (h _ _ (by omega) (by omega)) (fun k => h _ _ (by omega) (by omega)) (fun k => h _ _ (by omega) (by omega)) (fun j _ => h2 j)⟩
theorem RelX_fr {σ τ σ1 τ1 : zM} (R : RelX σ τ) (h : ∀ c j : Int, 45 ≤ c → c ≤ 46 → σ1 c j = σ c j) (h2 : τ1 60 17 = τ 60 17) (h3 : ∀ j, τ1 67 j = τ 67 j) : RelX σ1 τ1 := by
  obtain ⟨a, b, c, d⟩ := R
  have e1 := h 45 1 (by omega) (by omega)
  refine ⟨⟨by rw [e1]; exact a.1, fun j x y => by rw [h _ _ (by omega) (by omega)]; exact a.2 j x y⟩, ⟨by rw [h2]; exact b.1, fun j x y => by rw [h3]; exact b.2 j x y⟩, by rw [h2, e1]; exact c, fun j x y => ?_⟩
  rw [e1] at y
  rw [h3, h _ _ (by omega) (by omega)]
  exact d j x y
theorem RelP_fr {σ τ σ1 τ1 : zM} (R : RelP σ τ) (h : ∀ c j : Int, 48 ≤ c → c ≤ 59 → σ1 c j = σ c j) (h2 : ∀ c j : Int, 69 ≤ c → c ≤ 71 → τ1 c j = τ c j) : RelP σ1 τ1 := by
  intro t a b
  obtain ⟨k1, k2, k3⟩ := R t a b
  refine ⟨by rw [h2 _ _ (by omega) (by omega), h _ _ (by omega) (by omega)]; exact k1, by rw [h2 _ _ (by omega) (by omega), h _ _ (by omega) (by omega)]; exact k2, fun q x y => by rw [h2 _ _ (by omega) (by omega), h _ _ (by omega) (by omega)]; exact k3 q x y⟩
theorem RelT_fr {σ τ σ1 τ1 : zM} (R : RelT σ τ) (R1 : Rel1 σ1 τ1) (h0 : σ1 0 2 = σ 0 2) (h : ∀ c j : Int, 17 ≤ c → c ≤ 32 → σ1 c j = σ c j) (h3 : τ1 60 3 = τ 60 3) (h2 : ∀ j, τ1 62 j = τ 62 j) : RelT σ1 τ1 := by
  refine ⟨R1, ?_⟩
  rcases R.2 with ⟨a, b, c⟩ | ⟨a, b⟩
  · exact Or.inl ⟨by rw [h0]; exact a, by rw [h3]; exact b, RelK_fr c h h2⟩
  · exact Or.inr ⟨by rw [h0]; exact a, by rw [h3]; exact b⟩
theorem RelG_r {σ τ τ1 : zM} (G : RelG σ τ) (h : ∀ c j : Int, 60 ≤ c → c ≤ 71 → τ1 c j = τ c j) : RelG σ τ1 := ⟨RelT_fr G.1 (Rel1_fr G.1.1 (fun _ _ _ _ => rfl) (fun j => h _ _ (by omega) (by omega))) rfl (fun _ _ _ _ => rfl) (h _ _ (by omega) (by omega)) (fun j => h _ _ (by omega) (by omega)), G.2.1, fun t a b => by rw [h _ _ (by omega) (by omega)]; exact G.2.2.1 t a b, RelX_fr G.2.2.2.1 (fun _ _ _ _ => rfl) (h _ _ (by omega) (by omega)) (fun j => h _ _ (by omega) (by omega)), RelP_fr G.2.2.2.2 (fun _ _ _ _ => rfl) (fun c j a b => h _ _ (by omega) (by omega))⟩
theorem RelG_l {σ τ σ1 : zM} (G : RelG σ τ) (h : ∀ c j : Int, 0 ≤ c → c < 60 → σ1 c j = σ c j) : RelG σ1 τ := ⟨RelT_fr G.1 (Rel1_fr G.1.1 (fun c j a b => h _ _ (by omega) (by omega)) (fun _ => rfl)) (h _ _ (by omega) (by omega)) (fun c j a b => h _ _ (by omega) (by omega)) rfl (fun _ => rfl), fun t a b => by rw [h _ _ (by omega) (by omega)]; exact G.2.1 t a b, G.2.2.1, RelX_fr G.2.2.2.1 (fun c j a b => h _ _ (by omega) (by omega)) rfl (fun _ => rfl), RelP_fr G.2.2.2.2 (fun c j a b => h _ _ (by omega) (by omega)) (fun _ _ _ _ => rfl)⟩
theorem G_1 {σ τ : zM} {xc xm : Option (Option zV × zM)} (G : RelG σ τ) (h : Same σ τ xc xm) : SameG vI σ τ xc xm := by
  obtain ⟨r, σ1, τ1, h1, h2, R1, F1, F2⟩ := h
  exact ⟨r, σ1, τ1, h1, h2, ⟨RelT_fr G.1 R1 (F1 _ _ (by omega)) (fun c j a b => F1 _ _ (by omega)) (F2 _ _ (by omega)) (fun j => F2 _ _ (by omega)), fun t a b => by rw [F1 _ _ (by omega)]; exact G.2.1 t a b, fun t a b => by rw [F2 _ _ (by omega)]; exact G.2.2.1 t a b, RelX_fr G.2.2.2.1 (fun c j a b => F1 _ _ (by omega)) (F2 _ _ (by omega)) (fun j => F2 _ _ (by omega)), RelP_fr G.2.2.2.2 (fun c j a b => F1 _ _ (by omega)) (fun c j a b => F2 _ _ (by omega))⟩, fun c j q => F1 _ _ (by omega), fun c j q => F2 _ _ (by omega)⟩
theorem G_id {k : Int → zV} {σ τ : zM} {xc xm : Option (Option zV × zM)} (G : RelG σ τ) (h : ∃ v, xc = some (some (k v), σ) ∧ xm = some (some (k v), τ)) : SameG k σ τ xc xm := by
  obtain ⟨v, h1, h2⟩ := h
  exact ⟨v, σ, τ, h1, h2, G, fun _ _ _ => rfl, fun _ _ _ => rfl⟩
/-- the general case: what an op may change -/
theorem G_A {σ τ σ1 τ1 : zM} (G : RelG σ τ) (R : RelA σ1 τ1) (F1 : ∀ c j : Int, (c < 1 ∨ (16 < c ∧ c < 33) ∨ 44 < c) → σ1 c j = σ c j) (F2 : ∀ c j : Int, (c < 60 ∨ c = 62 ∨ 64 < c ∨ (c = 60 ∧ (j < 5 ∨ 15 < j))) → τ1 c j = τ c j) : RelG σ1 τ1 ∧ FC σ σ1 ∧ FM τ τ1 := ⟨⟨RelT_fr G.1 R.1 (F1 _ _ (by omega)) (fun c j a b => F1 _ _ (by omega)) (F2 _ _ (by omega)) (fun j => F2 _ _ (by omega)), R.2.1, R.2.2, RelX_fr G.2.2.2.1 (fun c j a b => F1 _ _ (by omega)) (F2 _ _ (by omega)) (fun j => F2 _ _ (by omega)), RelP_fr G.2.2.2.2 (fun c j a b => F1 _ _ (by omega)) (fun c j a b => F2 _ _ (by omega))⟩, fun c j q => F1 _ _ (by omega), fun c j q => F2 _ _ (by omega)⟩
theorem RelG_A {σ τ : zM} (G : RelG σ τ) : RelA σ τ := ⟨G.1.1, G.2.1, G.2.2.1⟩
theorem G_SA {k : Int → zV} {σ τ : zM} {xc xm : Option (Option zV × zM)} (G : RelG σ τ) (h : SameA k σ τ xc xm) : SameG k σ τ xc xm := by
  obtain ⟨r, σ1, τ1, h1, h2, R1, F1, F2⟩ := h
  obtain ⟨a, b, c⟩ := G_A G R1 (fun c j q => F1 _ _ (by omega)) (fun c j q => F2 _ _ (by omega))
  exact ⟨r, σ1, τ1, h1, h2, a, b, c⟩
theorem G_ST {k : Int → zV} {σ τ : zM} {xc xm : Option (Option zV × zM)} (G : RelG σ τ) (h : SameT k σ τ xc xm) : SameG k σ τ xc xm := by
  obtain ⟨r, σ1, τ1, h1, h2, R1, F1, F2⟩ := h
  obtain ⟨a, b, c⟩ := G_A G R1 (fun c j q => F1 _ _ (by omega)) (fun c j q => F2 _ _ (by omega))
  exact ⟨r, σ1, τ1, h1, h2, a, b, c⟩
theorem G_SH {k : Int → zV} {σ τ : zM} {xc xm : Option (Option zV × zM)} (G : RelG σ τ) (h : SameH k σ τ xc xm) : SameG k σ τ xc xm := by
  obtain ⟨r, σ1, τ1, h1, h2, R1, F1, F2⟩ := h
  obtain ⟨a, b, c⟩ := G_A G R1 (fun c j q => F1 _ _ (by omega)) (fun c j q => F2 _ _ (by omega))
  exact ⟨r, σ1, τ1, h1, h2, a, b, c⟩
theorem G_SS {σ τ : zM} {xc xm : Option (Option zV × zM)} (G : RelG σ τ) (h : ∃ r σ1 τ1, xc = some (some (vI r), σ1) ∧ xm = some (some (vI r), τ1) ∧ RelA σ1 τ1 ∧ FrC2 σ σ1 ∧ FrM2 τ τ1) : SameG vI σ τ xc xm := by
  obtain ⟨r, σ1, τ1, h1, h2, R1, F1, F2⟩ := h
  obtain ⟨a, b, c⟩ := G_A G R1 (fun c j q => F1 _ _ (by omega)) (fun c j q => F2 _ _ (by omega))
  exact ⟨r, σ1, τ1, h1, h2, a, b, c⟩
theorem G_SW {k : Int → zV} {σ τ : zM} {xc xm : Option (Option zV × zM)} (G : RelG σ τ) (h : SameW k σ τ xc xm) : SameG k σ τ xc xm := by
  obtain ⟨r, σ1, τ1, h1, h2, R1, F1, F2⟩ := h
  exact ⟨r, σ1, τ1, h1, h2, ⟨RelT_fr G.1 R1 (F1 _ _ (by omega)) (fun c j a b => F1 _ _ (by omega)) (F2 _ _ (by omega)) (fun j => F2 _ _ (by omega)), fun t a b => by rw [F1 _ _ (by omega)]; exact G.2.1 t a b, fun t a b => by rw [F2 _ _ (by omega)]; exact G.2.2.1 t a b, RelX_fr G.2.2.2.1 (fun c j a b => F1 _ _ (by omega)) (F2 _ _ (by omega)) (fun j => F2 _ _ (by omega)), RelP_fr G.2.2.2.2 (fun c j a b => F1 _ _ (by omega)) (fun c j a b => F2 _ _ (by omega))⟩, fun c j q => F1 _ _ (by omega), fun c j q => F2 _ _ (by omega)⟩
theorem G_SP {k : Int → zV} {σ τ : zM} {xc xm : Option (Option zV × zM)} (G : RelG σ τ) (h : SameP k σ τ xc xm) : SameG k σ τ xc xm := by
  obtain ⟨r, σ1, τ1, h1, h2, R1, F1, F2⟩ := h
  exact ⟨r, σ1, τ1, h1, h2, ⟨RelT_fr G.1 (Rel1_fr G.1.1 (fun c j a b => F1 _ _ (by omega)) (fun j => F2 _ _ (by omega))) (F1 _ _ (by omega)) (fun c j a b => F1 _ _ (by omega)) (F2 _ _ (by omega)) (fun j => F2 _ _ (by omega)), fun t a b => by rw [F1 _ _ (by omega)]; exact G.2.1 t a b, fun t a b => by rw [F2 _ _ (by omega)]; exact G.2.2.1 t a b, RelX_fr G.2.2.2.1 (fun c j a b => F1 _ _ (by omega)) (F2 _ _ (by omega)) (fun j => F2 _ _ (by omega)), R1⟩, fun c j q => F1 _ _ (by omega), fun c j q => F2 _ _ (by omega)⟩
theorem g_parties {σ τ : zM} (G : RelG σ τ) {a : Int} (ha : -2147483648 ≤ a ∧ a < 2147483648) : SameG vI σ τ (zcall 47 [vR 0, vI a] σ) (zcall 110 [vR 60, vI a] τ) := G_1 G (op_parties G.1.1 ha)
theorem g_thing {σ τ : zM} (G : RelG σ τ) : SameG vI σ τ (zcall 48 [vR 0] σ) (zcall 111 [vR 60] τ) := G_1 G (op_thing G.1.1)
theorem g_point {σ τ : zM} (G : RelG σ τ) {a b c : Int} (ha : -2147483648 ≤ a ∧ a < 2147483648) (hb : -2147483648 ≤ b ∧ b < 2147483648) (hc : -2147483648 ≤ c ∧ c < 2147483648) : SameG vI σ τ (zcall 49 [vR 0, vI a, vI b, vI c] σ) (zcall 114 [vR 60, vI a, vI b, vI c] τ) := G_1 G (op_point G.1.1 ha hb hc)
theorem g_of {σ τ : zM} (G : RelG σ τ) {a b : Int} (ha : -2147483648 ≤ a ∧ a < 2147483648) (hb : -2147483648 ≤ b ∧ b < 2147483648) : SameG vI σ τ (zcall 50 [vR 0, vI a, vI b] σ) (zcall 115 [vR 60, vI a, vI b] τ) := G_1 G (op_of G.1.1 ha hb)
theorem g_hold {σ τ : zM} (G : RelG σ τ) {a b : Int} (ha : -2147483648 ≤ a ∧ a < 2147483648) (hb : -2147483648 ≤ b ∧ b < 2147483648) : SameG vI σ τ (zcall 51 [vR 0, vI a, vI b] σ) (zcall 119 [vR 60, vI a, vI b] τ) := G_1 G (op_hold G.1.1 ha hb)
theorem g_split {σ τ : zM} (G : RelG σ τ) {a b c d : Int} (ha : -2147483648 ≤ a ∧ a < 2147483648) (hb : -2147483648 ≤ b ∧ b < 2147483648) (hc : -2147483648 ≤ c ∧ c < 2147483648) (hd : -2147483648 ≤ d ∧ d < 2147483648) : SameG vI σ τ (zcall 52 [vR 0, vI a, vI b, vI c, vI d] σ) (zcall 124 [vR 60, vI a, vI b, vI c, vI d] τ) := G_1 G (op_split G.1.1 ha hb hc hd)
theorem g_settle {σ τ : zM} (G : RelG σ τ) {a b : Int} (ha : -2147483648 ≤ a ∧ a < 2147483648) (hb : -2147483648 ≤ b ∧ b < 2147483648) : SameG vI σ τ (zcall 53 [vR 0, vI a, vI b] σ) (zcall 156 [vR 60, vI a, vI b] τ) := G_SS G (op_settle (RelG_A G) ha hb)
theorem g_feed {σ τ : zM} (G : RelG σ τ) {a : Int} (ha : -2147483648 ≤ a ∧ a < 2147483648) : SameG vI σ τ (zcall 54 [vR 0, vI a] σ) (zcall 164 [vR 60, vI a] τ) := by
  obtain ⟨r, σ1, τ1, h1, h2, X, F1, F2⟩ := op_feed G.2.2.2.1 ha
  exact ⟨r, σ1, τ1, h1, h2, ⟨RelT_fr G.1 (Rel1_fr G.1.1 (fun c j a b => F1 _ _ (by omega)) (fun j => F2 _ _ (by omega) (by omega))) (F1 _ _ (by omega)) (fun c j a b => F1 _ _ (by omega)) (F2 _ _ (by omega) (by omega)) (fun j => F2 _ _ (by omega) (by omega)), fun t a b => by rw [F1 _ _ (by omega)]; exact G.2.1 t a b, fun t a b => by rw [F2 _ _ (by omega) (by omega)]; exact G.2.2.1 t a b, X, RelP_fr G.2.2.2.2 (fun c j a b => F1 _ _ (by omega)) (fun c j a b => F2 _ _ (by omega) (by omega))⟩, fun c j q => F1 _ _ (by omega), fun c j q => F2 _ _ (by omega) (by omega)⟩
theorem g_read {σ τ : zM} (G : RelG σ τ) : SameG vI σ τ (zcall 55 [vR 0] σ) (zcall 170 [vR 60] τ) := by
  obtain ⟨r, σ1, τ1, h1, h2, R1, X, F1, F2⟩ := op_read (RelG_A G) G.2.2.2.1
  exact ⟨r, σ1, τ1, h1, h2, ⟨RelT_fr G.1 R1.1 (F1 _ _ (by omega)) (fun c j a b => F1 _ _ (by omega)) (F2 _ _ (by omega)) (fun j => F2 _ _ (by omega)), R1.2.1, R1.2.2, X, RelP_fr G.2.2.2.2 (fun c j a b => F1 _ _ (by omega)) (fun c j a b => F2 _ _ (by omega))⟩, fun c j q => F1 _ _ (by omega), fun c j q => F2 _ _ (by omega)⟩
theorem g_holder {σ τ : zM} (G : RelG σ τ) {a b : Int} (ha : -2147483648 ≤ a ∧ a < 2147483648) (hb : -2147483648 ≤ b ∧ b < 2147483648) : SameG vI σ τ (zcall 56 [vR 0, vI a, vI b] σ) (zcall 125 [vR 60, vI a, vI b] τ) := G_1 G (op_holder G.1.1 ha hb)
theorem g_held {σ τ : zM} (G : RelG σ τ) {a b c : Int} (ha : -2147483648 ≤ a ∧ a < 2147483648) (hb : -2147483648 ≤ b ∧ b < 2147483648) (hc : -2147483648 ≤ c ∧ c < 2147483648) : SameG vL σ τ (zcall 57 [vR 0, vI a, vI b, vI c] σ) (zcall 128 [vR 60, vI a, vI b, vI c] τ) := G_id G (op_held G.1.1 ha hb hc)
theorem g_share {σ τ : zM} (G : RelG σ τ) {a b c : Int} (ha : -2147483648 ≤ a ∧ a < 2147483648) (hb : -2147483648 ≤ b ∧ b < 2147483648) (hc : -2147483648 ≤ c ∧ c < 2147483648) : SameG vL σ τ (zcall 58 [vR 0, vI a, vI b, vI c] σ) (zcall 132 [vR 60, vI a, vI b, vI c] τ) := G_id G (op_share G.1.1 ha hb hc)
theorem g_claim {σ τ : zM} (G : RelG σ τ) {a b : Int} (ha : -2147483648 ≤ a ∧ a < 2147483648) (hb : -2147483648 ≤ b ∧ b < 2147483648) : SameG vI σ τ (zcall 59 [vR 0, vI a, vI b] σ) (zcall 139 [vR 60, vI a, vI b] τ) := G_1 G (op_claim G.1.1 ha hb)
theorem g_better {σ τ : zM} (G : RelG σ τ) {a b : Int} (ha : -2147483648 ≤ a ∧ a < 2147483648) (hb : -2147483648 ≤ b ∧ b < 2147483648) : SameG vI σ τ (zcall 60 [vR 0, vI a, vI b] σ) (zcall 140 [vR 60, vI a, vI b] τ) := G_1 G (op_better G.1.1 ha hb)
theorem g_told {σ τ : zM} (G : RelG σ τ) {a : Int} (ha : -2147483648 ≤ a ∧ a < 2147483648) : SameG vI σ τ (zcall 61 [vR 0, vI a] σ) (zcall 163 [vR 60, vI a] τ) := G_SW G (op_told G.1.1 ha)
theorem g_all {σ τ : zM} (G : RelG σ τ) {a : Int} (ha : -2147483648 ≤ a ∧ a < 2147483648) : SameG vI σ τ (zcall 62 [vR 0, vI a] σ) (zcall 117 [vR 60, vI a] τ) := G_1 G (op_all G.1.1 ha)
theorem g_adjusted {σ τ : zM} (G : RelG σ τ) {a b c : Int} (ha : -2147483648 ≤ a ∧ a < 2147483648) (hb : -2147483648 ≤ b ∧ b < 2147483648) (hc : -2147483648 ≤ c ∧ c < 2147483648) : SameG vI σ τ (zcall 63 [vR 0, vI a, vI b, vI c] σ) (zcall 152 [vR 60, vI a, vI b, vI c] τ) := G_SA G (op_adjusted (RelG_A G) ha hb hc)
theorem g_alike {σ τ : zM} (G : RelG σ τ) {a b c : Int} (ha : -2147483648 ≤ a ∧ a < 2147483648) (hb : -2147483648 ≤ b ∧ b < 2147483648) (hc : -2147483648 ≤ c ∧ c < 2147483648) : SameG vL σ τ (zcall 64 [vR 0, vI a, vI b, vI c] σ) (zcall 154 [vR 60, vI a, vI b, vI c] τ) := G_SA G (op_alike (RelG_A G) ha hb hc)
theorem g_parted {σ τ : zM} (G : RelG σ τ) {a b c : Int} (ha : -2147483648 ≤ a ∧ a < 2147483648) (hb : -2147483648 ≤ b ∧ b < 2147483648) (hc : -2147483648 ≤ c ∧ c < 2147483648) : SameG vL σ τ (zcall 65 [vR 0, vI a, vI b, vI c] σ) (zcall 155 [vR 60, vI a, vI b, vI c] τ) := G_SA G (op_parted (RelG_A G) ha hb hc)
theorem g_ratio {σ τ : zM} (G : RelG σ τ) {a b c : Int} (ha : -2147483648 ≤ a ∧ a < 2147483648) (hb : -2147483648 ≤ b ∧ b < 2147483648) (hc : -2147483648 ≤ c ∧ c < 2147483648) : SameG vI σ τ (zcall 66 [vR 0, vI a, vI b, vI c] σ) (zcall 145 [vR 60, vI a, vI b, vI c] τ) := G_1 G (op_ratio G.1.1 ha hb hc)
theorem g_fair {σ τ : zM} (G : RelG σ τ) {a : Int} (ha : -2147483648 ≤ a ∧ a < 2147483648) : SameG vI σ τ (zcall 67 [vR 0, vI a] σ) (zcall 160 [vR 60, vI a] τ) := G_SW G (op_fair G.1.1 ha)
theorem g_fairest {σ τ : zM} (G : RelG σ τ) {a : Int} (ha : -2147483648 ≤ a ∧ a < 2147483648) : SameG vL σ τ (zcall 68 [vR 0, vI a] σ) (zcall 161 [vR 60, vI a] τ) := G_SW G (op_fairest G.1.1 ha)
theorem g_see {σ τ : zM} (G : RelG σ τ) {a b : Int} (ha : -2147483648 ≤ a ∧ a < 2147483648) (hb : -2147483648 ≤ b ∧ b < 2147483648) : SameG vI σ τ (zcall 69 [vR 0, vI a, vI b] σ) (zcall 171 [vR 60, vI a, vI b] τ) := G_1 G (op_see G.1.1 hb ha)
theorem g_fits {σ τ : zM} (G : RelG σ τ) {a b c : Int} (ha : -2147483648 ≤ a ∧ a < 2147483648) (hb : -2147483648 ≤ b ∧ b < 2147483648) (hc : -2147483648 ≤ c ∧ c < 2147483648) : SameG vI σ τ (zcall 70 [vR 0, vI a, vI b, vI c] σ) (zcall 173 [vR 60, vI a, vI b, vI c] τ) := G_ST G (op_fits (RelG_A G) ha hb hc)
theorem g_odds {σ τ : zM} (G : RelG σ τ) {a b : Int} (ha : -2147483648 ≤ a ∧ a < 2147483648) (hb : -2147483648 ≤ b ∧ b < 2147483648) : SameG vL σ τ (zcall 71 [vR 0, vI a, vI b] σ) (zcall 174 [vR 60, vI a, vI b] τ) := G_ST G (op_odds (RelG_A G) ha hb)
theorem g_mean {σ τ : zM} (G : RelG σ τ) {a b : Int} (ha : -2147483648 ≤ a ∧ a < 2147483648) (hb : -2147483648 ≤ b ∧ b < 2147483648) : SameG vL σ τ (zcall 72 [vR 0, vI a, vI b] σ) (zcall 175 [vR 60, vI a, vI b] τ) := G_id G (op_mean G.1.1 ha hb)
theorem g_event {σ τ : zM} (G : RelG σ τ) {a b : Int} (ha : -2147483648 ≤ a ∧ a < 2147483648) (hb : -2147483648 ≤ b ∧ b < 2147483648) : SameG vI σ τ (zcall 73 [vR 0, vI a, vI b] σ) (zcall 176 [vR 60, vI a, vI b] τ) := G_1 G (op_event G.1.1 ha hb)
theorem g_after {σ τ : zM} (G : RelG σ τ) {a : Int} (ha : -2147483648 ≤ a ∧ a < 2147483648) : SameG vL σ τ (zcall 74 [vR 0, vI a] σ) (zcall 179 [vR 60, vI a] τ) := G_SH G (op_after (RelG_A G) ha)
theorem g_book {σ τ : zM} (G : RelG σ τ) {a b : Int} (ha : -2147483648 ≤ a ∧ a < 2147483648) (hb : -2147483648 ≤ b ∧ b < 2147483648) : SameG vI σ τ (zcall 75 [vR 0, vI a, vI b] σ) (zcall 180 [vR 60, vI a, vI b] τ) := G_1 G (op_book G.1.1 hb ha)
theorem g_looked {σ τ : zM} (G : RelG σ τ) : SameG vI σ τ (zcall 76 [vR 0] σ) (zcall 181 [vR 60] τ) := G_1 G (op_looked G.1.1)
theorem g_judge {σ τ : zM} (G : RelG σ τ) {a b : Int} (ha : -2147483648 ≤ a ∧ a < 2147483648) (hb : -2147483648 ≤ b ∧ b < 2147483648) : SameG vI σ τ (zcall 77 [vR 0, vI a, vI b] σ) (zcall 191 [vR 60, vI a, vI b] τ) := G_id G (op_judge G.2.2.2.2 G.1.1 ha hb)
theorem g_image {σ τ : zM} (G : RelG σ τ) : SameG vI σ τ (zcall 78 [vR 0] σ) (zcall 182 [vR 60] τ) := by
  obtain ⟨r, σ1, τ1, h1, h2, T, F1, F2, F3, F4⟩ := op_image G.1
  exact ⟨r, σ1, τ1, h1, h2, ⟨T, fun t a b => by rw [F1 _ _ (by omega)]; exact G.2.1 t a b, fun t a b => by rw [F2 _ _ (by omega)]; exact G.2.2.1 t a b, RelX_fr G.2.2.2.1 (fun c j a b => F1 _ _ (by omega)) (F4 _ (by omega)) (fun j => F2 _ _ (by omega)), RelP_fr G.2.2.2.2 (fun c j a b => F1 _ _ (by omega)) (fun c j a b => F2 _ _ (by omega))⟩, fun c j q => F1 _ _ (by omega), fun c j q => F2 _ _ (by omega)⟩
theorem g_undo {σ τ : zM} (G : RelG σ τ) : SameG vI σ τ (zcall 79 [vR 0] σ) (zcall 183 [vR 60] τ) := by
  obtain ⟨r, σ1, τ1, h1, h2, T, F1, F2⟩ := op_undo G.1
  exact ⟨r, σ1, τ1, h1, h2, ⟨T, fun t a b => by rw [F1 _ _ (by omega)]; exact G.2.1 t a b, fun t a b => by rw [F2 _ _ (by omega)]; exact G.2.2.1 t a b, RelX_fr G.2.2.2.1 (fun c j a b => F1 _ _ (by omega)) (F2 _ _ (by omega)) (fun j => F2 _ _ (by omega)), RelP_fr G.2.2.2.2 (fun c j a b => F1 _ _ (by omega)) (fun c j a b => F2 _ _ (by omega))⟩, fun c j q => F1 _ _ (by omega), fun c j q => F2 _ _ (by omega)⟩
theorem g_count {σ τ : zM} (G : RelG σ τ) {a : Int} (ha : -2147483648 ≤ a ∧ a < 2147483648) : SameG vI σ τ (zcall 80 [vR 0, vI a] σ) (zcall 184 [vR 60, vI a] τ) := G_id G (op_count G.1.1 G.2.2.2.1 ha)
theorem g_tape {σ τ : zM} (G : RelG σ τ) {a b c : Int} (ha : -2147483648 ≤ a ∧ a < 2147483648) (hb : -2147483648 ≤ b ∧ b < 2147483648) (hc : -2147483648 ≤ c ∧ c < 2147483648) : SameG vI σ τ (zcall 81 [vR 0, vI a, vI b, vI c] σ) (zcall 186 [vR 60, vI a, vI b, vI c] τ) := G_SP G (op_tape G.2.2.2.2 ha hb hc)
theorem g_item {σ τ : zM} (G : RelG σ τ) {a b L : Int} (ha : -2147483648 ≤ a ∧ a < 2147483648) (hb : -2147483648 ≤ b ∧ b < 2147483648) (hL : -9223372036854775808 ≤ L ∧ L < 9223372036854775808) : SameG vI σ τ (zcall 82 [vR 0, vI a, vI b, vL L] σ) (zcall 188 [vR 60, vI a, vI b, vL L] τ) := G_SP G (op_item G.2.2.2.2 ha hb hL)
theorem g_peek {σ τ : zM} (G : RelG σ τ) {a b : Int} (ha : -2147483648 ≤ a ∧ a < 2147483648) (hb : -2147483648 ≤ b ∧ b < 2147483648) : SameG vL σ τ (zcall 83 [vR 0, vI a, vI b] σ) (zcall 189 [vR 60, vI a, vI b] τ) := G_SP G (op_peek G.2.2.2.2 ha hb)
theorem g_shift {σ τ : zM} (G : RelG σ τ) {a b c d e : Int} (ha : -2147483648 ≤ a ∧ a < 2147483648) (hb : -2147483648 ≤ b ∧ b < 2147483648) (hc : -2147483648 ≤ c ∧ c < 2147483648) (hd : -2147483648 ≤ d ∧ d < 2147483648) (he : -2147483648 ≤ e ∧ e < 2147483648) : SameG vI σ τ (zcall 84 [vR 0, vI a, vI b, vI c, vI d, vI e] σ) (zcall 190 [vR 60, vI a, vI b, vI c, vI d, vI e] τ) := G_SP G (op_shift G.2.2.2.2 ha hb hc hd he)
/-- one after the other in one memory -/
theorem G_both {k : Int → zV} (hk : ∀ a b : Int, k a = k b → a = b) {xc xm : zM → Option (Option zV × zM)} (h : ∀ σ τ : zM, RelG σ τ → SameG k σ τ (xc σ) (xm τ)) {μ : zM} (G : RelG μ μ) : ∃ r σ1 μ1, xc μ = some (some (k r), σ1) ∧ xm σ1 = some (some (k r), μ1) ∧ RelG μ1 μ1 ∧ (∀ j, σ1 72 j = μ 72 j) ∧ (∀ j, μ1 72 j = μ 72 j) := by
  obtain ⟨r, σ1, τ1, h1, h2, G1, F1, F2⟩ := h μ μ G
  obtain ⟨r', σ1', μ1, k1, k2, G2, K1, K2⟩ := h μ σ1 (RelG_r G (fun c j a b => F1 _ _ (by omega)))
  rw [h1] at k1
  injection k1 with k1
  injection k1 with e1 e2
  injection e1 with e3
  have e4 := hk _ _ e3
  subst e2
  subst e4
  refine ⟨r, σ1, μ1, h1, k2, RelG_l G2 (fun c j a b => K2 _ _ (by omega)), fun j => F1 _ _ (by omega), fun j => ?_⟩
  rw [K2 _ _ (by omega), F1 _ _ (by omega)]
