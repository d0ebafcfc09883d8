/-! values: (0, x) an int, (1, x) a long, (2, c) a reference to cell c, (3, _) nothing; numbers stand for their residues -/
abbrev zV : Type := Nat × Int
abbrev vI (x : Int) : zV := (0, x)
abbrev vL (x : Int) : zV := (1, x)
abbrev vR (x : Int) : zV := (2, x)
abbrev vU : zV := (3, 0)
abbrev zM : Type := Int → Int → Int
abbrev zCE : Type := Nat × Nat × Int × Instr
abbrev zMTr : Type := MethodName × ByteArray × Nat × Option FieldType × Nat × Bool × Nat × Nat × Nat × List zCE
def c32 (x : Int) : Int := (Int32.ofInt x).toInt
def c64 (x : Int) : Int := (Int64.ofInt x).toInt
def zU (σ : zM) (c j v : Int) : zM := fun c' j' => if c' = c ∧ j' = j then v else σ c' j'
def zCpy (σ : zM) (a sp d dp n : Int) : zM := fun c j => if c = d ∧ dp ≤ j ∧ j < dp + n then σ a (sp + (j - dp)) else σ c j
def zkill : List zV → List zV
  | [] => []
  | _ :: ls => vU :: ls
def zput : List zV → Nat → zV → List zV
  | [], _, _ => []
  | _ :: ls, 0, v => v :: (if v.1 = 1 then zkill ls else ls)
  | a :: ls, 1, v => (if a.1 = 1 then vU else a) :: zput ls 0 v
  | a :: ls, n + 2, v => a :: zput ls (n + 1) v
/-! the cells: what each is: (0, n) ints, (1, n) longs, (2, n) bytes, (3, n) booleans, (4, n) rows of ints, (5, n) tapes, (10 + class, fields) -/
def zSHP : List (Nat × Nat) := [(16, 8),
  (12, 11), (4, 4), (0, 6), (0, 6), (0, 6), (0, 6), (0, 6), (11, 3), (0, 5), (0, 5), (11, 3), (0, 8), (0, 8), (11, 3), (0, 8), (0, 8),
  (12, 11), (4, 4), (0, 6), (0, 6), (0, 6), (0, 6), (0, 6), (11, 3), (0, 5), (0, 5), (11, 3), (0, 8), (0, 8), (11, 3), (0, 8), (0, 8),
  (10, 10), (0, 6), (15, 10), (0, 6), (0, 4), (0, 4), (0, 6), (4, 4), (0, 6), (0, 6), (0, 6), (0, 6), (14, 2), (2, 100),
  (5, 6), (13, 3), (1, 60), (13, 3), (1, 60), (13, 3), (1, 60), (13, 3), (1, 60), (13, 3), (1, 60), (13, 3), (1, 60),
  (17, 23), (0, 82), (0, 82), (0, 82), (3, 6), (0, 6), (0, 6), (0, 100), (0, 56), (0, 6), (0, 6), (1, 360)]
def zshp (c : Int) : Nat × Nat := if 0 ≤ c then zSHP.getD c.toNat (99, 0) else (99, 0)
/-- the kinds of the fields of each class: 0 int, 1 boolean, 2 long, 3 a fixed cell, 4 a cell that may change -/
def zFK : List (List Nat) := [[3, 0, 0, 0, 0, 0, 2, 2, 2, 2], [3, 3, 0], [0, 0, 3, 3, 0, 0, 2, 2, 3, 3, 3], [0, 0, 3], [3, 0], [4, 0, 0, 3, 3, 3, 3, 2, 2, 0], [3, 3, 1, 3, 3, 3, 3, 3], [3, 3, 3, 1, 3, 0, 2, 2, 0, 0, 0, 3, 3, 2, 2, 0, 3, 0, 0, 3, 3, 3, 3]]
def zfk (ci j : Nat) : Nat := (zFK.getD ci []).getD j 9
/-- the fixed cell in field j of cell c -/
def zRF : List (Nat × List Nat) := [(0, [1, 17, 0, 33, 35, 40, 45, 47]), (1, [0, 0, 2, 7, 0, 0, 0, 0, 8, 11, 14]), (8, [9, 10, 0]), (11, [12, 13, 0]), (14, [15, 16, 0]), (17, [0, 0, 18, 23, 0, 0, 0, 0, 24, 27, 30]), (24, [25, 26, 0]), (27, [28, 29, 0]), (30, [31, 32, 0]), (33, [34]), (35, [0, 0, 0, 36, 37, 38, 39]), (45, [46]), (48, [0, 0, 49]), (50, [0, 0, 51]), (52, [0, 0, 53]), (54, [0, 0, 55]), (56, [0, 0, 57]), (58, [0, 0, 59]), (60, [61, 62, 63, 0, 64, 0, 0, 0, 0, 0, 0, 65, 66, 0, 0, 0, 67, 0, 0, 68, 69, 70, 71])]
def zrf (c j : Nat) : Nat := match zRF.find? (fun q => q.1 == c) with
  | some q => q.2.getD j 0
  | none => 0
/-- the cell at place j of a row of rows -/
def zra (c j : Nat) : Nat := if c = 47 then 48 + 2 * j else c + 1 + j
