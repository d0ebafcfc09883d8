/-! the law from its entry -/
theorem hlay (ci : Nat) (h : ci < 8 := by decide) : ∀ w ∈ u_ws (zcl ci).1 (zcl ci).2.1 (zcl ci).2.2, w ∈ lw_tbl := fun w hw => (List.mem_filter.mp (zlay_in h w hw)).1
set_option maxHeartbeats 4000000 in
set_option maxRecDepth 100000 in
theorem start_go {p : Program} {e : Env} {s : State} {m : MethodId} {below : List Frame} {meth : Method} {c : Code} (l : Launch) {b L : Nat} {xs : Nat → Int32} (hL : L ≤ 3072) (C0 : lw_At p s m meth c b L xs) {D : va_G} {ca : Nat → ClassId} (hK : va_K D vwCl (zTys ca) s) {q0 a1 a2 a3 a4 a5 a6 a7 a8 a9 a10 a11 a12 a13 a14 a15 a16 a17 a18 a19 a20 a21 a22 a23 a24 a25 a26 a27 a28 a29 a30 a31 a32 a33 a34 a35 a36 a37 a38 a39 a40 a41 a42 a43 a44 a45 a46 a47 q1 b1 b2 b3 b4 b5 b6 b7 b8 b9 b10 b11 : Nat} {H : Heap} {locs : List Loc} (hP : va_P D vwCl [(q0, .inr (6, [.ref a1, .ref a13, .int 0, .ref a25, .ref a27, .ref a32, .ref a33, .ref a35])), (a1, .inr (2, [.int 2, .int 0, .ref a2, .ref a3, .int (-1), .int (-1), .long 0, .long 1, .ref a4, .ref a7, .ref a10])), (a2, .inl (ca 4, 4, .inr (.inr (.inr (.inr fun j => some (a2 + 1 + j)))))), (a2 + 1, .inl (ca 0, 6, .inl fun _ => 0)), (a2 + 2, .inl (ca 0, 6, .inl fun _ => 0)), (a2 + 3, .inl (ca 0, 6, .inl fun _ => 0)), (a2 + 4, .inl (ca 0, 6, .inl fun _ => 0)), (a3, .inl (ca 0, 6, .inl fun _ => 0)), (a4, .inr (1, [.ref a5, .ref a6, .int 0])), (a5, .inl (ca 0, 5, .inl fun _ => 0)), (a6, .inl (ca 0, 5, .inl fun _ => 0)), (a7, .inr (1, [.ref a8, .ref a9, .int 0])), (a8, .inl (ca 0, 8, .inl fun _ => 0)), (a9, .inl (ca 0, 8, .inl fun _ => 0)), (a10, .inr (1, [.ref a11, .ref a12, .int 0])), (a11, .inl (ca 0, 8, .inl fun _ => 0)), (a12, .inl (ca 0, 8, .inl fun _ => 0)), (a13, .inr (2, [.int 2, .int 0, .ref a14, .ref a15, .int (-1), .int (-1), .long 0, .long 1, .ref a16, .ref a19, .ref a22])), (a14, .inl (ca 4, 4, .inr (.inr (.inr (.inr fun j => some (a14 + 1 + j)))))), (a14 + 1, .inl (ca 0, 6, .inl fun _ => 0)), (a14 + 2, .inl (ca 0, 6, .inl fun _ => 0)), (a14 + 3, .inl (ca 0, 6, .inl fun _ => 0)), (a14 + 4, .inl (ca 0, 6, .inl fun _ => 0)), (a15, .inl (ca 0, 6, .inl fun _ => 0)), (a16, .inr (1, [.ref a17, .ref a18, .int 0])), (a17, .inl (ca 0, 5, .inl fun _ => 0)), (a18, .inl (ca 0, 5, .inl fun _ => 0)), (a19, .inr (1, [.ref a20, .ref a21, .int 0])), (a20, .inl (ca 0, 8, .inl fun _ => 0)), (a21, .inl (ca 0, 8, .inl fun _ => 0)), (a22, .inr (1, [.ref a23, .ref a24, .int 0])), (a23, .inl (ca 0, 8, .inl fun _ => 0)), (a24, .inl (ca 0, 8, .inl fun _ => 0)), (a25, .inr (0, [.ref a26, .int 0, .int 0, .int 0, .int 0, .int 0, .long 0, .long 0, .long 0, .long 0])), (a26, .inl (ca 0, 6, .inl fun _ => 0)), (a27, .inr (5, [.null, .int 0, .int 0, .ref a28, .ref a29, .ref a30, .ref a31, .long 0, .long 0, .int 0])), (a28, .inl (ca 0, 6, .inl fun _ => 0)), (a29, .inl (ca 0, 4, .inl fun _ => 0)), (a30, .inl (ca 0, 4, .inl fun _ => 0)), (a31, .inl (ca 0, 6, .inl fun _ => 0)), (a32, .inl (ca 4, 4, .inr (.inr (.inr (.inr fun j => some (a32 + 1 + j)))))), (a32 + 1, .inl (ca 0, 6, .inl fun _ => 0)), (a32 + 2, .inl (ca 0, 6, .inl fun _ => 0)), (a32 + 3, .inl (ca 0, 6, .inl fun _ => 0)), (a32 + 4, .inl (ca 0, 6, .inl fun _ => 0)), (a33, .inr (4, [.ref a34, .int 0])), (a34, .inl (ca 2, 100, .inl fun _ => 0)), (a35, .inl (ca 5, 6, .inr (.inr (.inr (.inr (va_up ((va_up ((va_up ((va_up ((va_up ((va_up (fun _ => none) 0 (some a36))) 1 (some a38))) 2 (some a40))) 3 (some a42))) 4 (some a44))) 5 (some a46))))))), (a36, .inr (3, [.int (-1), .int 0, .ref a37])), (a37, .inl (ca 1, 60, .inr (.inl fun _ => 0))), (a38, .inr (3, [.int (-1), .int 0, .ref a39])), (a39, .inl (ca 1, 60, .inr (.inl fun _ => 0))), (a40, .inr (3, [.int (-1), .int 0, .ref a41])), (a41, .inl (ca 1, 60, .inr (.inl fun _ => 0))), (a42, .inr (3, [.int (-1), .int 0, .ref a43])), (a43, .inl (ca 1, 60, .inr (.inl fun _ => 0))), (a44, .inr (3, [.int (-1), .int 0, .ref a45])), (a45, .inl (ca 1, 60, .inr (.inl fun _ => 0))), (a46, .inr (3, [.int (-1), .int 0, .ref a47])), (a47, .inl (ca 1, 60, .inr (.inl fun _ => 0))), (q1, .inr (7, [.ref b1, .ref b2, .ref b3, .int 0, .ref b4, .int 0, .long 0, .long 0, .int 0, .int 0, .int 0, .ref b5, .ref b6, .long 0, .long 0, .int 0, .ref b7, .int 0, .int 0, .ref b8, .ref b9, .ref b10, .ref b11])), (b1, .inl (ca 0, 82, .inl (upd (fun _ => 0) 0 2))), (b2, .inl (ca 0, 82, .inl fun _ => 0)), (b3, .inl (ca 0, 82, .inl fun _ => 0)), (b4, .inl (ca 3, 6, .inl fun _ => 0)), (b5, .inl (ca 0, 6, .inl fun _ => 0)), (b6, .inl (ca 0, 6, .inl fun _ => 0)), (b7, .inl (ca 0, 100, .inl fun _ => 0)), (b8, .inl (ca 0, 56, .inl fun _ => 0)), (b9, .inl (ca 0, 6, .inl (upd ((upd ((upd ((upd ((upd ((upd (fun _ => 0) 0 (-1))) 1 (-1))) 2 (-1))) 3 (-1))) 4 (-1))) 5 (-1)))), (b10, .inl (ca 0, 6, .inl fun _ => 0)), (b11, .inl (ca 1, 360, .inr (.inl fun _ => 0)))] H) (hD : va_D (fun q : Nat => s.heap.size ≤ q) [(q0, .inr (6, [.ref a1, .ref a13, .int 0, .ref a25, .ref a27, .ref a32, .ref a33, .ref a35])), (a1, .inr (2, [.int 2, .int 0, .ref a2, .ref a3, .int (-1), .int (-1), .long 0, .long 1, .ref a4, .ref a7, .ref a10])), (a2, .inl (ca 4, 4, .inr (.inr (.inr (.inr fun j => some (a2 + 1 + j)))))), (a2 + 1, .inl (ca 0, 6, .inl fun _ => 0)), (a2 + 2, .inl (ca 0, 6, .inl fun _ => 0)), (a2 + 3, .inl (ca 0, 6, .inl fun _ => 0)), (a2 + 4, .inl (ca 0, 6, .inl fun _ => 0)), (a3, .inl (ca 0, 6, .inl fun _ => 0)), (a4, .inr (1, [.ref a5, .ref a6, .int 0])), (a5, .inl (ca 0, 5, .inl fun _ => 0)), (a6, .inl (ca 0, 5, .inl fun _ => 0)), (a7, .inr (1, [.ref a8, .ref a9, .int 0])), (a8, .inl (ca 0, 8, .inl fun _ => 0)), (a9, .inl (ca 0, 8, .inl fun _ => 0)), (a10, .inr (1, [.ref a11, .ref a12, .int 0])), (a11, .inl (ca 0, 8, .inl fun _ => 0)), (a12, .inl (ca 0, 8, .inl fun _ => 0)), (a13, .inr (2, [.int 2, .int 0, .ref a14, .ref a15, .int (-1), .int (-1), .long 0, .long 1, .ref a16, .ref a19, .ref a22])), (a14, .inl (ca 4, 4, .inr (.inr (.inr (.inr fun j => some (a14 + 1 + j)))))), (a14 + 1, .inl (ca 0, 6, .inl fun _ => 0)), (a14 + 2, .inl (ca 0, 6, .inl fun _ => 0)), (a14 + 3, .inl (ca 0, 6, .inl fun _ => 0)), (a14 + 4, .inl (ca 0, 6, .inl fun _ => 0)), (a15, .inl (ca 0, 6, .inl fun _ => 0)), (a16, .inr (1, [.ref a17, .ref a18, .int 0])), (a17, .inl (ca 0, 5, .inl fun _ => 0)), (a18, .inl (ca 0, 5, .inl fun _ => 0)), (a19, .inr (1, [.ref a20, .ref a21, .int 0])), (a20, .inl (ca 0, 8, .inl fun _ => 0)), (a21, .inl (ca 0, 8, .inl fun _ => 0)), (a22, .inr (1, [.ref a23, .ref a24, .int 0])), (a23, .inl (ca 0, 8, .inl fun _ => 0)), (a24, .inl (ca 0, 8, .inl fun _ => 0)), (a25, .inr (0, [.ref a26, .int 0, .int 0, .int 0, .int 0, .int 0, .long 0, .long 0, .long 0, .long 0])), (a26, .inl (ca 0, 6, .inl fun _ => 0)), (a27, .inr (5, [.null, .int 0, .int 0, .ref a28, .ref a29, .ref a30, .ref a31, .long 0, .long 0, .int 0])), (a28, .inl (ca 0, 6, .inl fun _ => 0)), (a29, .inl (ca 0, 4, .inl fun _ => 0)), (a30, .inl (ca 0, 4, .inl fun _ => 0)), (a31, .inl (ca 0, 6, .inl fun _ => 0)), (a32, .inl (ca 4, 4, .inr (.inr (.inr (.inr fun j => some (a32 + 1 + j)))))), (a32 + 1, .inl (ca 0, 6, .inl fun _ => 0)), (a32 + 2, .inl (ca 0, 6, .inl fun _ => 0)), (a32 + 3, .inl (ca 0, 6, .inl fun _ => 0)), (a32 + 4, .inl (ca 0, 6, .inl fun _ => 0)), (a33, .inr (4, [.ref a34, .int 0])), (a34, .inl (ca 2, 100, .inl fun _ => 0)), (a35, .inl (ca 5, 6, .inr (.inr (.inr (.inr (va_up ((va_up ((va_up ((va_up ((va_up ((va_up (fun _ => none) 0 (some a36))) 1 (some a38))) 2 (some a40))) 3 (some a42))) 4 (some a44))) 5 (some a46))))))), (a36, .inr (3, [.int (-1), .int 0, .ref a37])), (a37, .inl (ca 1, 60, .inr (.inl fun _ => 0))), (a38, .inr (3, [.int (-1), .int 0, .ref a39])), (a39, .inl (ca 1, 60, .inr (.inl fun _ => 0))), (a40, .inr (3, [.int (-1), .int 0, .ref a41])), (a41, .inl (ca 1, 60, .inr (.inl fun _ => 0))), (a42, .inr (3, [.int (-1), .int 0, .ref a43])), (a43, .inl (ca 1, 60, .inr (.inl fun _ => 0))), (a44, .inr (3, [.int (-1), .int 0, .ref a45])), (a45, .inl (ca 1, 60, .inr (.inl fun _ => 0))), (a46, .inr (3, [.int (-1), .int 0, .ref a47])), (a47, .inl (ca 1, 60, .inr (.inl fun _ => 0))), (q1, .inr (7, [.ref b1, .ref b2, .ref b3, .int 0, .ref b4, .int 0, .long 0, .long 0, .int 0, .int 0, .int 0, .ref b5, .ref b6, .long 0, .long 0, .int 0, .ref b7, .int 0, .int 0, .ref b8, .ref b9, .ref b10, .ref b11])), (b1, .inl (ca 0, 82, .inl (upd (fun _ => 0) 0 2))), (b2, .inl (ca 0, 82, .inl fun _ => 0)), (b3, .inl (ca 0, 82, .inl fun _ => 0)), (b4, .inl (ca 3, 6, .inl fun _ => 0)), (b5, .inl (ca 0, 6, .inl fun _ => 0)), (b6, .inl (ca 0, 6, .inl fun _ => 0)), (b7, .inl (ca 0, 100, .inl fun _ => 0)), (b8, .inl (ca 0, 56, .inl fun _ => 0)), (b9, .inl (ca 0, 6, .inl (upd ((upd ((upd ((upd ((upd ((upd (fun _ => 0) 0 (-1))) 1 (-1))) 2 (-1))) 3 (-1))) 4 (-1))) 5 (-1)))), (b10, .inl (ca 0, 6, .inl fun _ => 0)), (b11, .inl (ca 1, 360, .inr (.inl fun _ => 0)))]) (hS : va_S (fun q : Nat => s.heap.size ≤ q) s.heap H locs) {ls : Array Slot} (hl : lv_has ls 4 [(0, .ref b), (1, .ref q0), (2, .ref q1), (3, .int 0)]) {cells slots : Nat} (hcs : cells ≤ 600000 ∧ slots ≤ 7302250) : W p l e room_1 s m #[Value.ref b] below meth c H locs cells slots (lw_Z below #[Value.ref b] s) (F0 m 18 ls []) := by
  obtain ⟨ad, hae⟩ : ∃ ad : Nat → Nat, ad = fun i => ([q0, a1, a2, a2 + 1, a2 + 2, a2 + 3, a2 + 4, a3, a4, a5, a6, a7, a8, a9, a10, a11, a12, a13, a14, a14 + 1, a14 + 2, a14 + 3, a14 + 4, a15, a16, a17, a18, a19, a20, a21, a22, a23, a24, a25, a26, a27, a28, a29, a30, a31, a32, a32 + 1, a32 + 2, a32 + 3, a32 + 4, a33, a34, a35, a36, a37, a38, a39, a40, a41, a42, a43, a44, a45, a46, a47, q1, b1, b2, b3, b4, b5, b6, b7, b8, b9, b10, b11] ++ [b]).getD i 0 := ⟨_, rfl⟩
  have hinj : ∀ i j, i < 72 → j < 72 → ad i = ad j → i = j := by rw [hae]; exact ad_inj hD (L := [q0, a1, a2, a2 + 1, a2 + 2, a2 + 3, a2 + 4, a3, a4, a5, a6, a7, a8, a9, a10, a11, a12, a13, a14, a14 + 1, a14 + 2, a14 + 3, a14 + 4, a15, a16, a17, a18, a19, a20, a21, a22, a23, a24, a25, a26, a27, a28, a29, a30, a31, a32, a32 + 1, a32 + 2, a32 + 3, a32 + 4, a33, a34, a35, a36, a37, a38, a39, a40, a41, a42, a43, a44, a45, a46, a47, q1, b1, b2, b3, b4, b5, b6, b7, b8, b9, b10, b11]) rfl rfl (b := b)
  have hA : ∀ q, q < 72 → s.heap.size ≤ ad q := by rw [hae]; exact ad_A hD (L := [q0, a1, a2, a2 + 1, a2 + 2, a2 + 3, a2 + 4, a3, a4, a5, a6, a7, a8, a9, a10, a11, a12, a13, a14, a14 + 1, a14 + 2, a14 + 3, a14 + 4, a15, a16, a17, a18, a19, a20, a21, a22, a23, a24, a25, a26, a27, a28, a29, a30, a31, a32, a32 + 1, a32 + 2, a32 + 3, a32 + 4, a33, a34, a35, a36, a37, a38, a39, a40, a41, a42, a43, a44, a45, a46, a47, q1, b1, b2, b3, b4, b5, b6, b7, b8, b9, b10, b11]) rfl rfl (b := b)
  have hz : ∀ (n : Nat) (f : Nat → Int), (∀ j, f j = 0) → ∀ j, j < n → (0 : Int32) = Int32.ofInt (f j) := fun n f h j _ => by rw [h j]; rfl
  have hd : ∀ i : Nat, ([q0, a1, a2, a2 + 1, a2 + 2, a2 + 3, a2 + 4, a3, a4, a5, a6, a7, a8, a9, a10, a11, a12, a13, a14, a14 + 1, a14 + 2, a14 + 3, a14 + 4, a15, a16, a17, a18, a19, a20, a21, a22, a23, a24, a25, a26, a27, a28, a29, a30, a31, a32, a32 + 1, a32 + 2, a32 + 3, a32 + 4, a33, a34, a35, a36, a37, a38, a39, a40, a41, a42, a43, a44, a45, a46, a47, q1, b1, b2, b3, b4, b5, b6, b7, b8, b9, b10, b11] ++ [b]).getD i 0 = ad i := fun i => by rw [hae]
  have had : b = ad 72 := hd 72
  have h0 : q0 = ad 0 := hd 0
  have h1 : a1 = ad 1 := hd 1
  have h2 : a2 = ad 2 := hd 2
  have h3 : a2 + 1 = ad 3 := hd 3
  have h4 : a2 + 2 = ad 4 := hd 4
  have h5 : a2 + 3 = ad 5 := hd 5
  have h6 : a2 + 4 = ad 6 := hd 6
  have h7 : a3 = ad 7 := hd 7
  have h8 : a4 = ad 8 := hd 8
  have h9 : a5 = ad 9 := hd 9
  have h10 : a6 = ad 10 := hd 10
  have h11 : a7 = ad 11 := hd 11
  have h12 : a8 = ad 12 := hd 12
  have h13 : a9 = ad 13 := hd 13
  have h14 : a10 = ad 14 := hd 14
  have h15 : a11 = ad 15 := hd 15
  have h16 : a12 = ad 16 := hd 16
  have h17 : a13 = ad 17 := hd 17
  have h18 : a14 = ad 18 := hd 18
  have h19 : a14 + 1 = ad 19 := hd 19
  have h20 : a14 + 2 = ad 20 := hd 20
  have h21 : a14 + 3 = ad 21 := hd 21
  have h22 : a14 + 4 = ad 22 := hd 22
  have h23 : a15 = ad 23 := hd 23
  have h24 : a16 = ad 24 := hd 24
  have h25 : a17 = ad 25 := hd 25
  have h26 : a18 = ad 26 := hd 26
  have h27 : a19 = ad 27 := hd 27
  have h28 : a20 = ad 28 := hd 28
  have h29 : a21 = ad 29 := hd 29
  have h30 : a22 = ad 30 := hd 30
  have h31 : a23 = ad 31 := hd 31
  have h32 : a24 = ad 32 := hd 32
  have h33 : a25 = ad 33 := hd 33
  have h34 : a26 = ad 34 := hd 34
  have h35 : a27 = ad 35 := hd 35
  have h36 : a28 = ad 36 := hd 36
  have h37 : a29 = ad 37 := hd 37
  have h38 : a30 = ad 38 := hd 38
  have h39 : a31 = ad 39 := hd 39
  have h40 : a32 = ad 40 := hd 40
  have h41 : a32 + 1 = ad 41 := hd 41
  have h42 : a32 + 2 = ad 42 := hd 42
  have h43 : a32 + 3 = ad 43 := hd 43
  have h44 : a32 + 4 = ad 44 := hd 44
  have h45 : a33 = ad 45 := hd 45
  have h46 : a34 = ad 46 := hd 46
  have h47 : a35 = ad 47 := hd 47
  have h48 : a36 = ad 48 := hd 48
  have h49 : a37 = ad 49 := hd 49
  have h50 : a38 = ad 50 := hd 50
  have h51 : a39 = ad 51 := hd 51
  have h52 : a40 = ad 52 := hd 52
  have h53 : a41 = ad 53 := hd 53
  have h54 : a42 = ad 54 := hd 54
  have h55 : a43 = ad 55 := hd 55
  have h56 : a44 = ad 56 := hd 56
  have h57 : a45 = ad 57 := hd 57
  have h58 : a46 = ad 58 := hd 58
  have h59 : a47 = ad 59 := hd 59
  have h60 : q1 = ad 60 := hd 60
  have h61 : b1 = ad 61 := hd 61
  have h62 : b2 = ad 62 := hd 62
  have h63 : b3 = ad 63 := hd 63
  have h64 : b4 = ad 64 := hd 64
  have h65 : b5 = ad 65 := hd 65
  have h66 : b6 = ad 66 := hd 66
  have h67 : b7 = ad 67 := hd 67
  have h68 : b8 = ad 68 := hd 68
  have h69 : b9 = ad 69 := hd 69
  have h70 : b10 = ad 70 := hd 70
  have h71 : b11 = ad 71 := hd 71
  clear hae hd
  refine law_go l hL C0 hK had.symm hinj hA (vP_zWS ?_) hS (by rw [← h0, ← h60]; exact hl) hcs
  have f0 : va_at D vwCl (ad 0, zent ad ca (mu0 L xs (0 : Nat)) 0) H := by
    have x := hP 0 _ rfl
    rw [h0, h1, h17, h33, h35, h40, h45, h47] at x
    exact x
  have f1 : va_at D vwCl (ad 1, zent ad ca (mu0 L xs (1 : Nat)) 1) H := by
    have x := hP 1 _ rfl
    rw [h1, h2, h7, h8, h11, h14] at x
    exact x
  have f2 : va_at D vwCl (ad 2, zent ad ca (mu0 L xs (2 : Nat)) 2) H := by
    have x := hP 2 _ rfl
    rw [← h2]
    refine at_q (g := fun j => some (ad (zra 2 j))) x (fun j hj => ?_)
    have hj : j < 4 := hj
    rcases (show j = 0 ∨ j = 1 ∨ j = 2 ∨ j = 3 by omega) with rfl | rfl | rfl | rfl
    · exact congrArg some h3
    · exact congrArg some h4
    · exact congrArg some h5
    · exact congrArg some h6
  have f3 : va_at D vwCl (ad 3, zent ad ca (mu0 L xs (3 : Nat)) 3) H := by
    rw [← h3]
    exact at_i (g := fun j => Int32.ofInt (mu0 L xs (3 : Nat) j)) (hP 3 _ rfl) (hz 6 (fun j => mu0 L xs (3 : Nat) j) (fun j => mu0_z (by omega)))
  have f4 : va_at D vwCl (ad 4, zent ad ca (mu0 L xs (4 : Nat)) 4) H := by
    rw [← h4]
    exact at_i (g := fun j => Int32.ofInt (mu0 L xs (4 : Nat) j)) (hP 4 _ rfl) (hz 6 (fun j => mu0 L xs (4 : Nat) j) (fun j => mu0_z (by omega)))
  have f5 : va_at D vwCl (ad 5, zent ad ca (mu0 L xs (5 : Nat)) 5) H := by
    rw [← h5]
    exact at_i (g := fun j => Int32.ofInt (mu0 L xs (5 : Nat) j)) (hP 5 _ rfl) (hz 6 (fun j => mu0 L xs (5 : Nat) j) (fun j => mu0_z (by omega)))
  have f6 : va_at D vwCl (ad 6, zent ad ca (mu0 L xs (6 : Nat)) 6) H := by
    rw [← h6]
    exact at_i (g := fun j => Int32.ofInt (mu0 L xs (6 : Nat) j)) (hP 6 _ rfl) (hz 6 (fun j => mu0 L xs (6 : Nat) j) (fun j => mu0_z (by omega)))
  have f7 : va_at D vwCl (ad 7, zent ad ca (mu0 L xs (7 : Nat)) 7) H := by
    rw [← h7]
    exact at_i (g := fun j => Int32.ofInt (mu0 L xs (7 : Nat) j)) (hP 7 _ rfl) (hz 6 (fun j => mu0 L xs (7 : Nat) j) (fun j => mu0_z (by omega)))
  have f8 : va_at D vwCl (ad 8, zent ad ca (mu0 L xs (8 : Nat)) 8) H := by
    have x := hP 8 _ rfl
    rw [h8, h9, h10] at x
    exact x
  have f9 : va_at D vwCl (ad 9, zent ad ca (mu0 L xs (9 : Nat)) 9) H := by
    rw [← h9]
    exact at_i (g := fun j => Int32.ofInt (mu0 L xs (9 : Nat) j)) (hP 9 _ rfl) (hz 5 (fun j => mu0 L xs (9 : Nat) j) (fun j => mu0_z (by omega)))
  have f10 : va_at D vwCl (ad 10, zent ad ca (mu0 L xs (10 : Nat)) 10) H := by
    rw [← h10]
    exact at_i (g := fun j => Int32.ofInt (mu0 L xs (10 : Nat) j)) (hP 10 _ rfl) (hz 5 (fun j => mu0 L xs (10 : Nat) j) (fun j => mu0_z (by omega)))
  have f11 : va_at D vwCl (ad 11, zent ad ca (mu0 L xs (11 : Nat)) 11) H := by
    have x := hP 11 _ rfl
    rw [h11, h12, h13] at x
    exact x
  have f12 : va_at D vwCl (ad 12, zent ad ca (mu0 L xs (12 : Nat)) 12) H := by
    rw [← h12]
    exact at_i (g := fun j => Int32.ofInt (mu0 L xs (12 : Nat) j)) (hP 12 _ rfl) (hz 8 (fun j => mu0 L xs (12 : Nat) j) (fun j => mu0_z (by omega)))
  have f13 : va_at D vwCl (ad 13, zent ad ca (mu0 L xs (13 : Nat)) 13) H := by
    rw [← h13]
    exact at_i (g := fun j => Int32.ofInt (mu0 L xs (13 : Nat) j)) (hP 13 _ rfl) (hz 8 (fun j => mu0 L xs (13 : Nat) j) (fun j => mu0_z (by omega)))
  have f14 : va_at D vwCl (ad 14, zent ad ca (mu0 L xs (14 : Nat)) 14) H := by
    have x := hP 14 _ rfl
    rw [h14, h15, h16] at x
    exact x
  have f15 : va_at D vwCl (ad 15, zent ad ca (mu0 L xs (15 : Nat)) 15) H := by
    rw [← h15]
    exact at_i (g := fun j => Int32.ofInt (mu0 L xs (15 : Nat) j)) (hP 15 _ rfl) (hz 8 (fun j => mu0 L xs (15 : Nat) j) (fun j => mu0_z (by omega)))
  have f16 : va_at D vwCl (ad 16, zent ad ca (mu0 L xs (16 : Nat)) 16) H := by
    rw [← h16]
    exact at_i (g := fun j => Int32.ofInt (mu0 L xs (16 : Nat) j)) (hP 16 _ rfl) (hz 8 (fun j => mu0 L xs (16 : Nat) j) (fun j => mu0_z (by omega)))
  have f17 : va_at D vwCl (ad 17, zent ad ca (mu0 L xs (17 : Nat)) 17) H := by
    have x := hP 17 _ rfl
    rw [h17, h18, h23, h24, h27, h30] at x
    exact x
  have f18 : va_at D vwCl (ad 18, zent ad ca (mu0 L xs (18 : Nat)) 18) H := by
    have x := hP 18 _ rfl
    rw [← h18]
    refine at_q (g := fun j => some (ad (zra 18 j))) x (fun j hj => ?_)
    have hj : j < 4 := hj
    rcases (show j = 0 ∨ j = 1 ∨ j = 2 ∨ j = 3 by omega) with rfl | rfl | rfl | rfl
    · exact congrArg some h19
    · exact congrArg some h20
    · exact congrArg some h21
    · exact congrArg some h22
  have f19 : va_at D vwCl (ad 19, zent ad ca (mu0 L xs (19 : Nat)) 19) H := by
    rw [← h19]
    exact at_i (g := fun j => Int32.ofInt (mu0 L xs (19 : Nat) j)) (hP 19 _ rfl) (hz 6 (fun j => mu0 L xs (19 : Nat) j) (fun j => mu0_z (by omega)))
  have f20 : va_at D vwCl (ad 20, zent ad ca (mu0 L xs (20 : Nat)) 20) H := by
    rw [← h20]
    exact at_i (g := fun j => Int32.ofInt (mu0 L xs (20 : Nat) j)) (hP 20 _ rfl) (hz 6 (fun j => mu0 L xs (20 : Nat) j) (fun j => mu0_z (by omega)))
  have f21 : va_at D vwCl (ad 21, zent ad ca (mu0 L xs (21 : Nat)) 21) H := by
    rw [← h21]
    exact at_i (g := fun j => Int32.ofInt (mu0 L xs (21 : Nat) j)) (hP 21 _ rfl) (hz 6 (fun j => mu0 L xs (21 : Nat) j) (fun j => mu0_z (by omega)))
  have f22 : va_at D vwCl (ad 22, zent ad ca (mu0 L xs (22 : Nat)) 22) H := by
    rw [← h22]
    exact at_i (g := fun j => Int32.ofInt (mu0 L xs (22 : Nat) j)) (hP 22 _ rfl) (hz 6 (fun j => mu0 L xs (22 : Nat) j) (fun j => mu0_z (by omega)))
  have f23 : va_at D vwCl (ad 23, zent ad ca (mu0 L xs (23 : Nat)) 23) H := by
    rw [← h23]
    exact at_i (g := fun j => Int32.ofInt (mu0 L xs (23 : Nat) j)) (hP 23 _ rfl) (hz 6 (fun j => mu0 L xs (23 : Nat) j) (fun j => mu0_z (by omega)))
  have f24 : va_at D vwCl (ad 24, zent ad ca (mu0 L xs (24 : Nat)) 24) H := by
    have x := hP 24 _ rfl
    rw [h24, h25, h26] at x
    exact x
  have f25 : va_at D vwCl (ad 25, zent ad ca (mu0 L xs (25 : Nat)) 25) H := by
    rw [← h25]
    exact at_i (g := fun j => Int32.ofInt (mu0 L xs (25 : Nat) j)) (hP 25 _ rfl) (hz 5 (fun j => mu0 L xs (25 : Nat) j) (fun j => mu0_z (by omega)))
  have f26 : va_at D vwCl (ad 26, zent ad ca (mu0 L xs (26 : Nat)) 26) H := by
    rw [← h26]
    exact at_i (g := fun j => Int32.ofInt (mu0 L xs (26 : Nat) j)) (hP 26 _ rfl) (hz 5 (fun j => mu0 L xs (26 : Nat) j) (fun j => mu0_z (by omega)))
  have f27 : va_at D vwCl (ad 27, zent ad ca (mu0 L xs (27 : Nat)) 27) H := by
    have x := hP 27 _ rfl
    rw [h27, h28, h29] at x
    exact x
  have f28 : va_at D vwCl (ad 28, zent ad ca (mu0 L xs (28 : Nat)) 28) H := by
    rw [← h28]
    exact at_i (g := fun j => Int32.ofInt (mu0 L xs (28 : Nat) j)) (hP 28 _ rfl) (hz 8 (fun j => mu0 L xs (28 : Nat) j) (fun j => mu0_z (by omega)))
  have f29 : va_at D vwCl (ad 29, zent ad ca (mu0 L xs (29 : Nat)) 29) H := by
    rw [← h29]
    exact at_i (g := fun j => Int32.ofInt (mu0 L xs (29 : Nat) j)) (hP 29 _ rfl) (hz 8 (fun j => mu0 L xs (29 : Nat) j) (fun j => mu0_z (by omega)))
  have f30 : va_at D vwCl (ad 30, zent ad ca (mu0 L xs (30 : Nat)) 30) H := by
    have x := hP 30 _ rfl
    rw [h30, h31, h32] at x
    exact x
  have f31 : va_at D vwCl (ad 31, zent ad ca (mu0 L xs (31 : Nat)) 31) H := by
    rw [← h31]
    exact at_i (g := fun j => Int32.ofInt (mu0 L xs (31 : Nat) j)) (hP 31 _ rfl) (hz 8 (fun j => mu0 L xs (31 : Nat) j) (fun j => mu0_z (by omega)))
  have f32 : va_at D vwCl (ad 32, zent ad ca (mu0 L xs (32 : Nat)) 32) H := by
    rw [← h32]
    exact at_i (g := fun j => Int32.ofInt (mu0 L xs (32 : Nat) j)) (hP 32 _ rfl) (hz 8 (fun j => mu0 L xs (32 : Nat) j) (fun j => mu0_z (by omega)))
  have f33 : va_at D vwCl (ad 33, zent ad ca (mu0 L xs (33 : Nat)) 33) H := by
    have x := hP 33 _ rfl
    rw [h33, h34] at x
    exact x
  have f34 : va_at D vwCl (ad 34, zent ad ca (mu0 L xs (34 : Nat)) 34) H := by
    rw [← h34]
    exact at_i (g := fun j => Int32.ofInt (mu0 L xs (34 : Nat) j)) (hP 34 _ rfl) (hz 6 (fun j => mu0 L xs (34 : Nat) j) (fun j => mu0_z (by omega)))
  have f35 : va_at D vwCl (ad 35, zent ad ca (mu0 L xs (35 : Nat)) 35) H := by
    have x := hP 35 _ rfl
    rw [h35, h36, h37, h38, h39] at x
    exact x
  have f36 : va_at D vwCl (ad 36, zent ad ca (mu0 L xs (36 : Nat)) 36) H := by
    rw [← h36]
    exact at_i (g := fun j => Int32.ofInt (mu0 L xs (36 : Nat) j)) (hP 36 _ rfl) (hz 6 (fun j => mu0 L xs (36 : Nat) j) (fun j => mu0_z (by omega)))
  have f37 : va_at D vwCl (ad 37, zent ad ca (mu0 L xs (37 : Nat)) 37) H := by
    rw [← h37]
    exact at_i (g := fun j => Int32.ofInt (mu0 L xs (37 : Nat) j)) (hP 37 _ rfl) (hz 4 (fun j => mu0 L xs (37 : Nat) j) (fun j => mu0_z (by omega)))
  have f38 : va_at D vwCl (ad 38, zent ad ca (mu0 L xs (38 : Nat)) 38) H := by
    rw [← h38]
    exact at_i (g := fun j => Int32.ofInt (mu0 L xs (38 : Nat) j)) (hP 38 _ rfl) (hz 4 (fun j => mu0 L xs (38 : Nat) j) (fun j => mu0_z (by omega)))
  have f39 : va_at D vwCl (ad 39, zent ad ca (mu0 L xs (39 : Nat)) 39) H := by
    rw [← h39]
    exact at_i (g := fun j => Int32.ofInt (mu0 L xs (39 : Nat) j)) (hP 39 _ rfl) (hz 6 (fun j => mu0 L xs (39 : Nat) j) (fun j => mu0_z (by omega)))
  have f40 : va_at D vwCl (ad 40, zent ad ca (mu0 L xs (40 : Nat)) 40) H := by
    have x := hP 40 _ rfl
    rw [← h40]
    refine at_q (g := fun j => some (ad (zra 40 j))) x (fun j hj => ?_)
    have hj : j < 4 := hj
    rcases (show j = 0 ∨ j = 1 ∨ j = 2 ∨ j = 3 by omega) with rfl | rfl | rfl | rfl
    · exact congrArg some h41
    · exact congrArg some h42
    · exact congrArg some h43
    · exact congrArg some h44
  have f41 : va_at D vwCl (ad 41, zent ad ca (mu0 L xs (41 : Nat)) 41) H := by
    rw [← h41]
    exact at_i (g := fun j => Int32.ofInt (mu0 L xs (41 : Nat) j)) (hP 41 _ rfl) (hz 6 (fun j => mu0 L xs (41 : Nat) j) (fun j => mu0_z (by omega)))
  have f42 : va_at D vwCl (ad 42, zent ad ca (mu0 L xs (42 : Nat)) 42) H := by
    rw [← h42]
    exact at_i (g := fun j => Int32.ofInt (mu0 L xs (42 : Nat) j)) (hP 42 _ rfl) (hz 6 (fun j => mu0 L xs (42 : Nat) j) (fun j => mu0_z (by omega)))
  have f43 : va_at D vwCl (ad 43, zent ad ca (mu0 L xs (43 : Nat)) 43) H := by
    rw [← h43]
    exact at_i (g := fun j => Int32.ofInt (mu0 L xs (43 : Nat) j)) (hP 43 _ rfl) (hz 6 (fun j => mu0 L xs (43 : Nat) j) (fun j => mu0_z (by omega)))
  have f44 : va_at D vwCl (ad 44, zent ad ca (mu0 L xs (44 : Nat)) 44) H := by
    rw [← h44]
    exact at_i (g := fun j => Int32.ofInt (mu0 L xs (44 : Nat) j)) (hP 44 _ rfl) (hz 6 (fun j => mu0 L xs (44 : Nat) j) (fun j => mu0_z (by omega)))
  have f45 : va_at D vwCl (ad 45, zent ad ca (mu0 L xs (45 : Nat)) 45) H := by
    have x := hP 45 _ rfl
    rw [h45, h46] at x
    exact x
  have f46 : va_at D vwCl (ad 46, zent ad ca (mu0 L xs (46 : Nat)) 46) H := by
    rw [← h46]
    exact at_i (g := fun j => (Int32.ofInt (mu0 L xs (46 : Nat) j)).toInt8.toInt32) (hP 46 _ rfl) (fun j _ => by show (0 : Int32) = (Int32.ofInt (mu0 L xs 46 j)).toInt8.toInt32; rw [mu0_z (by omega)]; rfl)
  have f47 : va_at D vwCl (ad 47, zent ad ca (mu0 L xs (47 : Nat)) 47) H := by
    have x := hP 47 _ rfl
    rw [← h47]
    refine at_q (g := fun j => some (ad (zra 47 j))) x (fun j hj => ?_)
    have hj : j < 6 := hj
    rcases (show j = 0 ∨ j = 1 ∨ j = 2 ∨ j = 3 ∨ j = 4 ∨ j = 5 by omega) with rfl | rfl | rfl | rfl | rfl | rfl
    · exact congrArg some h48
    · exact congrArg some h50
    · exact congrArg some h52
    · exact congrArg some h54
    · exact congrArg some h56
    · exact congrArg some h58
  have f48 : va_at D vwCl (ad 48, zent ad ca (mu0 L xs (48 : Nat)) 48) H := by
    have x := hP 48 _ rfl
    rw [h48, h49] at x
    exact x
  have f49 : va_at D vwCl (ad 49, zent ad ca (mu0 L xs (49 : Nat)) 49) H := by
    rw [← h49]
    exact at_l (g := fun j => Int64.ofInt (mu0 L xs (49 : Nat) j)) (hP 49 _ rfl) (fun j _ => by show (0 : Int64) = Int64.ofInt (mu0 L xs 49 j); rw [mu0_z (by omega)]; rfl)
  have f50 : va_at D vwCl (ad 50, zent ad ca (mu0 L xs (50 : Nat)) 50) H := by
    have x := hP 50 _ rfl
    rw [h50, h51] at x
    exact x
  have f51 : va_at D vwCl (ad 51, zent ad ca (mu0 L xs (51 : Nat)) 51) H := by
    rw [← h51]
    exact at_l (g := fun j => Int64.ofInt (mu0 L xs (51 : Nat) j)) (hP 51 _ rfl) (fun j _ => by show (0 : Int64) = Int64.ofInt (mu0 L xs 51 j); rw [mu0_z (by omega)]; rfl)
  have f52 : va_at D vwCl (ad 52, zent ad ca (mu0 L xs (52 : Nat)) 52) H := by
    have x := hP 52 _ rfl
    rw [h52, h53] at x
    exact x
  have f53 : va_at D vwCl (ad 53, zent ad ca (mu0 L xs (53 : Nat)) 53) H := by
    rw [← h53]
    exact at_l (g := fun j => Int64.ofInt (mu0 L xs (53 : Nat) j)) (hP 53 _ rfl) (fun j _ => by show (0 : Int64) = Int64.ofInt (mu0 L xs 53 j); rw [mu0_z (by omega)]; rfl)
  have f54 : va_at D vwCl (ad 54, zent ad ca (mu0 L xs (54 : Nat)) 54) H := by
    have x := hP 54 _ rfl
    rw [h54, h55] at x
    exact x
  have f55 : va_at D vwCl (ad 55, zent ad ca (mu0 L xs (55 : Nat)) 55) H := by
    rw [← h55]
    exact at_l (g := fun j => Int64.ofInt (mu0 L xs (55 : Nat) j)) (hP 55 _ rfl) (fun j _ => by show (0 : Int64) = Int64.ofInt (mu0 L xs 55 j); rw [mu0_z (by omega)]; rfl)
  have f56 : va_at D vwCl (ad 56, zent ad ca (mu0 L xs (56 : Nat)) 56) H := by
    have x := hP 56 _ rfl
    rw [h56, h57] at x
    exact x
  have f57 : va_at D vwCl (ad 57, zent ad ca (mu0 L xs (57 : Nat)) 57) H := by
    rw [← h57]
    exact at_l (g := fun j => Int64.ofInt (mu0 L xs (57 : Nat) j)) (hP 57 _ rfl) (fun j _ => by show (0 : Int64) = Int64.ofInt (mu0 L xs 57 j); rw [mu0_z (by omega)]; rfl)
  have f58 : va_at D vwCl (ad 58, zent ad ca (mu0 L xs (58 : Nat)) 58) H := by
    have x := hP 58 _ rfl
    rw [h58, h59] at x
    exact x
  have f59 : va_at D vwCl (ad 59, zent ad ca (mu0 L xs (59 : Nat)) 59) H := by
    rw [← h59]
    exact at_l (g := fun j => Int64.ofInt (mu0 L xs (59 : Nat) j)) (hP 59 _ rfl) (fun j _ => by show (0 : Int64) = Int64.ofInt (mu0 L xs 59 j); rw [mu0_z (by omega)]; rfl)
  have f60 : va_at D vwCl (ad 60, zent ad ca (mu0 L xs (60 : Nat)) 60) H := by
    have x := hP 60 _ rfl
    rw [h60, h61, h62, h63, h64, h65, h66, h67, h68, h69, h70, h71] at x
    exact x
  have f61 : va_at D vwCl (ad 61, zent ad ca (mu0 L xs (61 : Nat)) 61) H := by
    rw [← h61]
    refine at_i (g := fun j => Int32.ofInt (mu0 L xs (61 : Nat) j)) (hP 61 _ rfl) (fun j hj => ?_)
    show _ = Int32.ofInt (mu0 L xs 61 j)
    rw [mu0_m]
    rcases Nat.eq_zero_or_pos j with rfl | h
    · rfl
    · rw [if_neg (by omega)]
      unfold upd
      rw [if_neg (by omega)]
      rfl
  have f62 : va_at D vwCl (ad 62, zent ad ca (mu0 L xs (62 : Nat)) 62) H := by
    rw [← h62]
    exact at_i (g := fun j => Int32.ofInt (mu0 L xs (62 : Nat) j)) (hP 62 _ rfl) (hz 82 (fun j => mu0 L xs (62 : Nat) j) (fun j => mu0_z (by omega)))
  have f63 : va_at D vwCl (ad 63, zent ad ca (mu0 L xs (63 : Nat)) 63) H := by
    rw [← h63]
    exact at_i (g := fun j => Int32.ofInt (mu0 L xs (63 : Nat) j)) (hP 63 _ rfl) (hz 82 (fun j => mu0 L xs (63 : Nat) j) (fun j => mu0_z (by omega)))
  have f64 : va_at D vwCl (ad 64, zent ad ca (mu0 L xs (64 : Nat)) 64) H := by
    rw [← h64]
    exact at_i (g := fun j => Int32.ofInt (mu0 L xs (64 : Nat) j) &&& 1) (hP 64 _ rfl) (fun j _ => by show (0 : Int32) = Int32.ofInt (mu0 L xs 64 j) &&& 1; rw [mu0_z (by omega)]; rfl)
  have f65 : va_at D vwCl (ad 65, zent ad ca (mu0 L xs (65 : Nat)) 65) H := by
    rw [← h65]
    exact at_i (g := fun j => Int32.ofInt (mu0 L xs (65 : Nat) j)) (hP 65 _ rfl) (hz 6 (fun j => mu0 L xs (65 : Nat) j) (fun j => mu0_z (by omega)))
  have f66 : va_at D vwCl (ad 66, zent ad ca (mu0 L xs (66 : Nat)) 66) H := by
    rw [← h66]
    exact at_i (g := fun j => Int32.ofInt (mu0 L xs (66 : Nat) j)) (hP 66 _ rfl) (hz 6 (fun j => mu0 L xs (66 : Nat) j) (fun j => mu0_z (by omega)))
  have f67 : va_at D vwCl (ad 67, zent ad ca (mu0 L xs (67 : Nat)) 67) H := by
    rw [← h67]
    exact at_i (g := fun j => Int32.ofInt (mu0 L xs (67 : Nat) j)) (hP 67 _ rfl) (hz 100 (fun j => mu0 L xs (67 : Nat) j) (fun j => mu0_z (by omega)))
  have f68 : va_at D vwCl (ad 68, zent ad ca (mu0 L xs (68 : Nat)) 68) H := by
    rw [← h68]
    exact at_i (g := fun j => Int32.ofInt (mu0 L xs (68 : Nat) j)) (hP 68 _ rfl) (hz 56 (fun j => mu0 L xs (68 : Nat) j) (fun j => mu0_z (by omega)))
  have f69 : va_at D vwCl (ad 69, zent ad ca (mu0 L xs (69 : Nat)) 69) H := by
    rw [← h69]
    refine at_i (g := fun j => Int32.ofInt (mu0 L xs (69 : Nat) j)) (hP 69 _ rfl) (fun j hj => ?_)
    have hj : j < 6 := hj
    show _ = Int32.ofInt (mu0 L xs 69 j)
    rw [mu0_k, if_pos ⟨by omega, by omega⟩]
    rcases (show j = 0 ∨ j = 1 ∨ j = 2 ∨ j = 3 ∨ j = 4 ∨ j = 5 by omega) with rfl | rfl | rfl | rfl | rfl | rfl <;> rfl
  have f70 : va_at D vwCl (ad 70, zent ad ca (mu0 L xs (70 : Nat)) 70) H := by
    rw [← h70]
    exact at_i (g := fun j => Int32.ofInt (mu0 L xs (70 : Nat) j)) (hP 70 _ rfl) (hz 6 (fun j => mu0 L xs (70 : Nat) j) (fun j => mu0_z (by omega)))
  have f71 : va_at D vwCl (ad 71, zent ad ca (mu0 L xs (71 : Nat)) 71) H := by
    rw [← h71]
    exact at_l (g := fun j => Int64.ofInt (mu0 L xs (71 : Nat) j)) (hP 71 _ rfl) (fun j _ => by show (0 : Int64) = Int64.ofInt (mu0 L xs 71 j); rw [mu0_z (by omega)]; rfl)
  rw [show List.range 72 = [0, 1, 2, 3, 4, 5, 6, 7, 8, 9, 10, 11, 12, 13, 14, 15, 16, 17, 18, 19, 20, 21, 22, 23, 24, 25, 26, 27, 28, 29, 30, 31, 32, 33, 34, 35, 36, 37, 38, 39, 40, 41, 42, 43, 44, 45, 46, 47, 48, 49, 50, 51, 52, 53, 54, 55, 56, 57, 58, 59, 60, 61, 62, 63, 64, 65, 66, 67, 68, 69, 70, 71] from rfl]
  exact List.forall_mem_cons.mpr ⟨f0, List.forall_mem_cons.mpr ⟨f1, List.forall_mem_cons.mpr ⟨f2, List.forall_mem_cons.mpr ⟨f3, List.forall_mem_cons.mpr ⟨f4, List.forall_mem_cons.mpr ⟨f5, List.forall_mem_cons.mpr ⟨f6, List.forall_mem_cons.mpr ⟨f7, List.forall_mem_cons.mpr ⟨f8, List.forall_mem_cons.mpr ⟨f9, List.forall_mem_cons.mpr ⟨f10, List.forall_mem_cons.mpr ⟨f11, List.forall_mem_cons.mpr ⟨f12, List.forall_mem_cons.mpr ⟨f13, List.forall_mem_cons.mpr ⟨f14, List.forall_mem_cons.mpr ⟨f15, List.forall_mem_cons.mpr ⟨f16, List.forall_mem_cons.mpr ⟨f17, List.forall_mem_cons.mpr ⟨f18, List.forall_mem_cons.mpr ⟨f19, List.forall_mem_cons.mpr ⟨f20, List.forall_mem_cons.mpr ⟨f21, List.forall_mem_cons.mpr ⟨f22, List.forall_mem_cons.mpr ⟨f23, List.forall_mem_cons.mpr ⟨f24, List.forall_mem_cons.mpr ⟨f25, List.forall_mem_cons.mpr ⟨f26, List.forall_mem_cons.mpr ⟨f27, List.forall_mem_cons.mpr ⟨f28, List.forall_mem_cons.mpr ⟨f29, List.forall_mem_cons.mpr ⟨f30, List.forall_mem_cons.mpr ⟨f31, List.forall_mem_cons.mpr ⟨f32, List.forall_mem_cons.mpr ⟨f33, List.forall_mem_cons.mpr ⟨f34, List.forall_mem_cons.mpr ⟨f35, List.forall_mem_cons.mpr ⟨f36, List.forall_mem_cons.mpr ⟨f37, List.forall_mem_cons.mpr ⟨f38, List.forall_mem_cons.mpr ⟨f39, List.forall_mem_cons.mpr ⟨f40, List.forall_mem_cons.mpr ⟨f41, List.forall_mem_cons.mpr ⟨f42, List.forall_mem_cons.mpr ⟨f43, List.forall_mem_cons.mpr ⟨f44, List.forall_mem_cons.mpr ⟨f45, List.forall_mem_cons.mpr ⟨f46, List.forall_mem_cons.mpr ⟨f47, List.forall_mem_cons.mpr ⟨f48, List.forall_mem_cons.mpr ⟨f49, List.forall_mem_cons.mpr ⟨f50, List.forall_mem_cons.mpr ⟨f51, List.forall_mem_cons.mpr ⟨f52, List.forall_mem_cons.mpr ⟨f53, List.forall_mem_cons.mpr ⟨f54, List.forall_mem_cons.mpr ⟨f55, List.forall_mem_cons.mpr ⟨f56, List.forall_mem_cons.mpr ⟨f57, List.forall_mem_cons.mpr ⟨f58, List.forall_mem_cons.mpr ⟨f59, List.forall_mem_cons.mpr ⟨f60, List.forall_mem_cons.mpr ⟨f61, List.forall_mem_cons.mpr ⟨f62, List.forall_mem_cons.mpr ⟨f63, List.forall_mem_cons.mpr ⟨f64, List.forall_mem_cons.mpr ⟨f65, List.forall_mem_cons.mpr ⟨f66, List.forall_mem_cons.mpr ⟨f67, List.forall_mem_cons.mpr ⟨f68, List.forall_mem_cons.mpr ⟨f69, List.forall_mem_cons.mpr ⟨f70, List.forall_mem_cons.mpr ⟨f71, fun _ h => absurd h List.not_mem_nil⟩⟩⟩⟩⟩⟩⟩⟩⟩⟩⟩⟩⟩⟩⟩⟩⟩⟩⟩⟩⟩⟩⟩⟩⟩⟩⟩⟩⟩⟩⟩⟩⟩⟩⟩⟩⟩⟩⟩⟩⟩⟩⟩⟩⟩⟩⟩⟩⟩⟩⟩⟩⟩⟩⟩⟩⟩⟩⟩⟩⟩⟩⟩⟩⟩⟩⟩⟩⟩⟩⟩⟩
