/-! THE SMALL MACHINE: cells named by a family and two numbers; all whole numbers of all cells stand in one function (region, key, place) -/
abbrev sl_R : Type := Nat × Nat × Nat
abbrev sl_V : Type := Int32 ⊕ (Int64 ⊕ sl_R)
abbrev sl_S : Type := Nat → Nat → Nat → Int32
abbrev sl_L : Type := List (Option sl_V)
abbrev sl_E : Type := Nat × Nat × Nat × Int32
abbrev sl_Q : Type := (Nat × sl_L × List sl_V × sl_S) ⊕ ((Nat × List sl_V × Nat × List sl_V) ⊕ Option sl_V)
abbrev sl_G : Type := (Nat × Nat × Nat) ⊕ sl_R
def sl_u1 (g : Nat → Int32) (i : Nat) (v : Int32) : Nat → Int32 := fun j => if j = i then v else g j
def sl_u2 (f : Nat → Nat → Int32) (k i : Nat) (v : Int32) : Nat → Nat → Int32 := fun j => if j = k then sl_u1 (f k) i v else f j
def sl_up (σ : sl_S) (r k i : Nat) (v : Int32) : sl_S := fun j => if j = r then sl_u2 (σ r) k i v else σ j
def sl_obj (f i t : Nat) : Option (Nat × List sl_G) := match f with
  | 0 => some (8, [.inr (11, 0, 0), .inr (1, 1, 0), .inr (1, 2, 0), .inr (1, 3, 0), .inl (7, 0, 0), .inr (20, 0, 0), .inr (22, 0, 0), .inr (26, 0, 0), .inl (7, 0, 1), .inr (29, 0, 0), .inl (7, 0, 2)])
  | 1 => some (1, [.inr (11, 0, 0), .inr (2, i, 0), .inr (3, i, 0), .inr (6, i, 0), .inr (7, i, 0), .inr (8, i, 0), .inr (9, i, 0), .inr (10, i, 0), .inl (i, 0, 0), .inl (i, 0, 1), .inl (i, 0, 2), .inl (i, 8, 0), .inl (i, 8, 1), .inl (i, 0, 5), .inl (i, 0, 6), .inl (i, 0, 7), .inl (i, 0, 8), .inl (i, 8, 2)])
  | 11 => some (3, [.inr (12, 0, 0), .inl (5, 0, 0), .inr (14, 0, 0), .inr (15, 0, 0), .inl (5, 0, 1), .inr (16, 0, 0), .inl (5, 0, 2), .inl (5, 0, 3), .inl (5, 0, 4)])
  | 13 => some (5, [.inl (5, 1, t), .inl (5, 2, t), .inl (5, 3, t), .inl (5, 4, t), .inl (5, 5, t)])
  | 17 => some (7, [.inl (5, 8, t), .inr (18, 0, t), .inr (19, 0, t)])
  | 20 => some (6, [.inr (21, 0, 0), .inl (7, 0, 3), .inl (7, 0, 4), .inl (7, 0, 5)])
  | 22 => some (0, [.inr (23, 0, 0), .inr (24, 0, 0), .inr (25, 0, 0)])
  | 27 => some (2, [.inl (7, 5, t), .inl (7, 6, t), .inl (7, 7, t), .inl (7, 8, t), .inr (28, 0, t), .inl (7, 9, t)])
  | 30 => some (4, [.inl (7, 11, t), .inl (7, 12, t), .inr (31, 0, t)])
  | 40 => some (9, [.inl (6, 0, 0), .inl (6, 0, 1), .inl (6, 0, 3), .inl (6, 0, 4), .inl (4, 0, 1), .inl (4, 0, 0), .inl (4, 0, 2), .inl (4, 9, 0), .inl (4, 9, 1), .inl (4, 0, 5), .inl (4, 0, 6), .inl (4, 0, 7), .inl (4, 0, 8), .inr (41, 0, 0), .inr (42, 0, 0), .inr (43, 0, 0), .inr (44, 0, 0), .inr (45, 0, 0), .inr (46, 0, 0), .inr (47, 0, 0), .inr (48, 0, 0), .inr (49, 0, 0), .inr (50, 0, 0), .inr (51, 0, 0), .inr (52, 0, 0), .inr (53, 0, 0), .inr (54, 0, 0), .inr (55, 0, 0), .inr (56, 0, 0), .inl (6, 0, 2), .inl (8, 0, 3), .inl (8, 0, 4), .inl (8, 0, 5), .inl (8, 0, 6), .inr (57, 0, 0), .inr (58, 0, 0), .inr (59, 0, 0), .inr (60, 0, 0), .inl (8, 0, 7), .inr (61, 0, 0), .inl (8, 0, 2), .inr (62, 0, 0), .inr (63, 0, 0), .inr (64, 0, 0), .inr (65, 0, 0), .inl (8, 0, 1), .inr (66, 0, 0), .inr (67, 0, 0), .inr (68, 0, 0), .inr (69, 0, 0), .inr (70, 0, 0), .inr (71, 0, 0), .inl (8, 0, 0), .inl (8, 0, 8), .inl (8, 0, 9), .inr (72, 0, 0), .inr (73, 0, 0), .inr (74, 0, 0), .inr (75, 0, 0)])
  | _ => none
/-- rows of whole numbers: sort (0 int, 1 byte, 2 boolean), how many, region, key, first place -/
def sl_arr (f i t : Nat) : Option (Nat × Nat × Nat × Nat × Nat) := match f with
  | 4 => some (0, 12, i, 1, 12 * t)
  | 5 => some (0, 12, i, 2, 12 * t)
  | 6 => some (0, 5, i, 3, 0)
  | 7 => some (0, 5, i, 4, 0)
  | 8 => some (0, 6, i, 5, 0)
  | 9 => some (0, 6, i, 6, 0)
  | 10 => some (0, 6, i, 7, 0)
  | 14 => some (0, 6, 5, 6, 0)
  | 15 => some (0, 6, 5, 7, 0)
  | 18 => some (0, 12, 5, 9, 12 * t)
  | 19 => some (0, 12, 5, 10, 12 * t)
  | 21 => some (1, 120, 7, 1, 0)
  | 23 => some (0, 5, 7, 2, 0)
  | 24 => some (0, 5, 7, 3, 0)
  | 25 => some (0, 5, 7, 4, 0)
  | 28 => some (0, 24, 7, 10, 24 * t)
  | 31 => some (0, 40, 7, 13, 40 * t)
  | 41 => some (0, 5, 6, 1, 0)
  | 42 => some (0, 5, 6, 2, 0)
  | 43 => some (0, 5, 6, 3, 0)
  | 44 => some (0, 5, 6, 4, 0)
  | 45 => some (0, 5, 4, 3, 0)
  | 46 => some (0, 5, 4, 4, 0)
  | 47 => some (0, 60, 4, 1, 0)
  | 48 => some (0, 60, 4, 2, 0)
  | 49 => some (0, 6, 8, 19, 0)
  | 50 => some (0, 6, 8, 20, 0)
  | 51 => some (2, 60, 6, 5, 0)
  | 52 => some (0, 6, 6, 6, 0)
  | 53 => some (0, 6, 6, 7, 0)
  | 54 => some (0, 6, 4, 5, 0)
  | 55 => some (0, 6, 4, 6, 0)
  | 56 => some (0, 6, 4, 7, 0)
  | 57 => some (0, 120, 8, 1, 0)
  | 58 => some (0, 6, 6, 8, 0)
  | 59 => some (0, 84, 6, 9, 0)
  | 60 => some (0, 84, 6, 10, 0)
  | 61 => some (0, 340, 8, 15, 0)
  | 62 => some (2, 12, 8, 16, 0)
  | 63 => some (0, 5, 8, 4, 0)
  | 64 => some (0, 5, 8, 3, 0)
  | 65 => some (0, 5, 8, 17, 0)
  | 66 => some (0, 8, 8, 5, 0)
  | 67 => some (0, 8, 8, 6, 0)
  | 68 => some (0, 8, 8, 7, 0)
  | 69 => some (0, 8, 8, 8, 0)
  | 70 => some (0, 192, 8, 10, 0)
  | 71 => some (2, 8, 8, 9, 0)
  | 72 => some (0, 4, 8, 11, 0)
  | 73 => some (0, 4, 8, 12, 0)
  | 74 => some (0, 160, 8, 13, 0)
  | 75 => some (0, 40, 8, 14, 0)
  | _ => none
def sl_rar (f i t : Nat) : Option (Nat × Nat × (Nat → sl_R)) := match f with
  | 2 => some (3, 5, fun j => (4, i, j))
  | 3 => some (3, 5, fun j => (5, i, j))
  | 12 => some (4, 5, fun j => (13, 0, j))
  | 16 => some (5, 6, fun j => (17, 0, j))
  | 26 => some (6, 8, fun j => (27, 0, j))
  | 29 => some (7, 4, fun j => (30, 0, j))
  | _ => none
def sl_ro (xs : Nat → Int32) (N : Nat) (f : Nat) : Option (Nat × (Nat → Int32)) := match f with
  | 99 => some (N, xs)
  | 90 => some (6, fun j => ([-1, 0, 0, 1, 2, 1] : List Int32).getD j 0)
  | 91 => some (6, fun j => ([10, 15, 50, 35, 90, 15] : List Int32).getD j 0)
  | 92 => some (6, fun j => ([100, 25, 100, 50, 100, 25] : List Int32).getD j 0)
  | 93 => some (6, fun j => ([1, 1, 1, 1, 1, 2] : List Int32).getD j 0)
  | 94 => some (6, fun j => ([1, 1, 2, 1, 2, 1] : List Int32).getD j 0)
  | 95 => some (6, fun j => ([1, 1, 1, 1, 0, 0] : List Int32).getD j 0)
  | _ => none
def sl_refs : List sl_R := [(0, 0, 0), (1, 1, 0), (2, 1, 0), (3, 1, 0), (4, 1, 0), (4, 1, 1), (4, 1, 2), (4, 1, 3), (4, 1, 4), (5, 1, 0), (5, 1, 1), (5, 1, 2), (5, 1, 3), (5, 1, 4), (6, 1, 0), (7, 1, 0), (8, 1, 0), (9, 1, 0), (10, 1, 0), (1, 2, 0), (2, 2, 0), (3, 2, 0), (4, 2, 0), (4, 2, 1), (4, 2, 2), (4, 2, 3), (4, 2, 4), (5, 2, 0), (5, 2, 1), (5, 2, 2), (5, 2, 3), (5, 2, 4), (6, 2, 0), (7, 2, 0), (8, 2, 0), (9, 2, 0), (10, 2, 0), (1, 3, 0), (2, 3, 0), (3, 3, 0), (4, 3, 0), (4, 3, 1), (4, 3, 2), (4, 3, 3), (4, 3, 4), (5, 3, 0), (5, 3, 1), (5, 3, 2), (5, 3, 3), (5, 3, 4), (6, 3, 0), (7, 3, 0), (8, 3, 0), (9, 3, 0), (10, 3, 0), (11, 0, 0), (12, 0, 0), (13, 0, 0), (13, 0, 1), (13, 0, 2), (13, 0, 3), (13, 0, 4), (14, 0, 0), (15, 0, 0), (16, 0, 0), (17, 0, 0), (17, 0, 1), (17, 0, 2), (17, 0, 3), (17, 0, 4), (17, 0, 5), (18, 0, 0), (18, 0, 1), (18, 0, 2), (18, 0, 3), (18, 0, 4), (18, 0, 5), (19, 0, 0), (19, 0, 1), (19, 0, 2), (19, 0, 3), (19, 0, 4), (19, 0, 5), (20, 0, 0), (21, 0, 0), (22, 0, 0), (23, 0, 0), (24, 0, 0), (25, 0, 0), (26, 0, 0), (27, 0, 0), (27, 0, 1), (27, 0, 2), (27, 0, 3), (27, 0, 4), (27, 0, 5), (27, 0, 6), (27, 0, 7), (28, 0, 0), (28, 0, 1), (28, 0, 2), (28, 0, 3), (28, 0, 4), (28, 0, 5), (28, 0, 6), (28, 0, 7), (29, 0, 0), (30, 0, 0), (30, 0, 1), (30, 0, 2), (30, 0, 3), (31, 0, 0), (31, 0, 1), (31, 0, 2), (31, 0, 3), (40, 0, 0), (41, 0, 0), (42, 0, 0), (43, 0, 0), (44, 0, 0), (45, 0, 0), (46, 0, 0), (47, 0, 0), (48, 0, 0), (49, 0, 0), (50, 0, 0), (51, 0, 0), (52, 0, 0), (53, 0, 0), (54, 0, 0), (55, 0, 0), (56, 0, 0), (57, 0, 0), (58, 0, 0), (59, 0, 0), (60, 0, 0), (61, 0, 0), (62, 0, 0), (63, 0, 0), (64, 0, 0), (65, 0, 0), (66, 0, 0), (67, 0, 0), (68, 0, 0), (69, 0, 0), (70, 0, 0), (71, 0, 0), (72, 0, 0), (73, 0, 0), (74, 0, 0), (75, 0, 0)]
def sl_ilen (N : Nat) (r : sl_R) : Nat := match sl_arr r.1 r.2.1 r.2.2 with
  | some (0, n, _) => n
  | some _ => 0
  | none => match sl_ro (fun _ => 0) N r.1 with | some (n, _) => n | none => 0
def sl_wlen (r : sl_R) (ty : Nat) : Nat := match sl_arr r.1 r.2.1 r.2.2 with
  | some (k, n, _) => if k = ty then n else 0
  | none => 0
def sl_rlen (r : sl_R) : Nat := match sl_rar r.1 r.2.1 r.2.2 with
  | some (_, n, _) => n
  | none => 0
def sl_rd (xs : Nat → Int32) (σ : sl_S) (r : sl_R) (j : Nat) : Int32 := match sl_arr r.1 r.2.1 r.2.2 with
  | some (_, _, R, K, o) => σ R K (o + j)
  | none => match sl_ro xs 0 r.1 with | some (_, g) => g j | none => 0
def sl_wr (σ : sl_S) (r : sl_R) (j : Nat) (v : Int32) : sl_S := match sl_arr r.1 r.2.1 r.2.2 with
  | some (_, _, R, K, o) => sl_up σ R K (o + j) v
  | none => σ
def sl_rg (r : sl_R) (j : Nat) : sl_R := match sl_rar r.1 r.2.1 r.2.2 with
  | some (_, _, g) => g j
  | none => r
/-- a row's piece copied: n numbers from place i on of the row q to place j of the row r -/
def sl_cp (σ : sl_S) (q r : sl_R) (i j n : Nat) : sl_S := match sl_arr q.1 q.2.1 q.2.2, sl_arr r.1 r.2.1 r.2.2 with
  | some (_, _, R, K, o), some (_, _, R', K', o') => fun a => if a = R' then (fun b => if b = K' then (fun c => if o' + j ≤ c ∧ c < o' + j + n then σ R K (o + i + (c - (o' + j))) else σ R' K' c) else σ R' b) else σ a
  | _, _ => σ
def sl_gi (σ : sl_S) : sl_G → sl_V
  | .inl (r, k, i) => .inl (σ r k i)
  | .inr q => .inr (.inr q)
/-- is place i not the second half of a long -/
def sl_nl (L : sl_L) : Nat → Bool
  | 0 => true
  | i + 1 => match L[i]? with | some (some (.inr (.inl _))) => false | _ => true
def sl_cmp : Int64 → Int64 → Int32 := fun x y => if x < y then -1 else if x = y then 0 else 1
def sl_br (b : Nat) (x y : Int32) : Bool := match b with
  | 0 => decide (x = y)
  | 1 => decide (¬ x = y)
  | 2 => decide (x < y)
  | 3 => decide (y ≤ x)
  | 4 => decide (y < x)
  | _ => decide (x ≤ y)
def sl_mkA : List sl_V → sl_L
  | [] => []
  | .inr (.inl x) :: l => some (.inr (.inl x)) :: none :: sl_mkA l
  | v :: l => some v :: sl_mkA l
def sl_cw : List sl_V → Nat
  | [] => 0
  | .inr (.inl _) :: st => 2 + sl_cw st
  | _ :: st => 1 + sl_cw st
/-- a call's receiver is of the right kind (v: its number; 100, 101: none wanted) -/
def sl_rc (v : Int32) (as : List sl_V) : Bool := if v = 100 ∨ v = 101 then true else match as with
  | .inr (.inr r) :: _ => match sl_obj r.1 r.2.1 r.2.2 with
    | some (ci, _) => nI ci == v
    | none => false
  | _ => false
def sl_nx (pc : Nat) (L : sl_L) (st : List sl_V) (σ : sl_S) : Option sl_Q := some (.inl (pc, L, st, σ))
/-- whole-number work on two ints: kinds 8 .. 16 -/
def sl_bin (k : Nat) (x y : Int32) : Int32 := match k with
  | 8 => x + y
  | 9 => x - y
  | 10 => x * y
  | 11 => x &&& y
  | 12 => x ||| y
  | 13 => x ^^^ y
  | 14 => x <<< (y &&& 31)
  | 15 => x >>> (y &&& 31)
  | _ => (x.toUInt32 >>> (y.toUInt32 &&& Int32.toUInt32 31)).toInt32
/-- on two longs: kinds 24 .. -/
def sl_lin (k : Nat) (x y : Int64) : Int64 := match k with
  | 0 => x * y
  | 1 => x - y
  | 2 => x &&& y
  | _ => x ||| y
def sl_lk (a : Nat) : Int64 := match a with
  | 0 => 0
  | 1 => 10
  | 2 => -1
  | _ => 4294967295
/-- the jump tables: least, targets, else -/
def sl_jump (off : Nat) (ts : List Nat) (x : Int32) : Nat := if x < 0 then off else ts.getD x.toNatClampNeg off
section SLM
variable (xs : Nat → Int32) (N : Nat)
def sl_stepA (k a b : Nat) (v : Int32) (nx : Nat) (L : sl_L) (st : List sl_V) (σ : sl_S) : Option sl_Q := match k with
  | 0 => sl_nx nx L (.inl v :: st) σ
  | 1 => match L[a]? with | some (some (.inl x)) => sl_nx nx L (.inl x :: st) σ | _ => none
  | 2 => match L[a]? with | some (some (.inr (.inl x))) => sl_nx nx L (.inr (.inl x) :: st) σ | _ => none
  | 3 => match L[a]? with | some (some (.inr (.inr x))) => sl_nx nx L (.inr (.inr x) :: st) σ | _ => none
  | 4 => match st with | .inl x :: st => if a < L.length ∧ sl_nl L a = true then sl_nx nx (L.set a (some (.inl x))) st σ else none | _ => none
  | 5 => match st with | .inr (.inl x) :: st => if a + 1 < L.length ∧ sl_nl L a = true then sl_nx nx ((L.set a (some (.inr (.inl x)))).set (a + 1) none) st σ else none | _ => none
  | 6 => match st with | .inr (.inr x) :: st => if a < L.length ∧ sl_nl L a = true then sl_nx nx (L.set a (some (.inr (.inr x)))) st σ else none | _ => none
  | 7 => match L[a]? with | some (some (.inl x)) => if sl_nl L a = true then sl_nx nx (L.set a (some (.inl (x + v)))) st σ else none | _ => none
  | 8 => match st with | .inl y :: .inl x :: st => sl_nx nx L (.inl (sl_bin b x y) :: st) σ | _ => none
  | 17 => match st with | .inl y :: .inl x :: st => if y = 0 then none else sl_nx nx L (.inl (x / y) :: st) σ | _ => none
  | 18 => match st with | .inl y :: .inl x :: st => if y = 0 then none else sl_nx nx L (.inl (x - x / y * y) :: st) σ | _ => none
  | 19 => match st with | .inl x :: st => sl_nx nx L (.inl (-x) :: st) σ | _ => none
  | 20 => match st with | .inl x :: st => sl_nx nx L (.inr (.inl x.toInt64) :: st) σ | _ => none
  | 21 => match st with | .inr (.inl x) :: st => sl_nx nx L (.inl x.toInt32 :: st) σ | _ => none
  | 22 => match st with | .inl x :: st => sl_nx nx L (.inl x.toInt8.toInt32 :: st) σ | _ => none
  | 23 => match st with | .inl x :: st => sl_nx nx L (.inl x.toInt16.toInt32 :: st) σ | _ => none
  | 24 => match st with | .inr (.inl y) :: .inr (.inl x) :: st => sl_nx nx L (.inr (.inl (sl_lin b x y)) :: st) σ | _ => none
  | 25 => match st with | .inr (.inl y) :: .inr (.inl x) :: st => if y = 0 then none else sl_nx nx L (.inr (.inl (x / y)) :: st) σ | _ => none
  | 26 => match st with | .inl y :: .inr (.inl x) :: st => sl_nx nx L (.inr (.inl (if b = 0 then x <<< (y.toInt64 &&& 63) else x >>> (y.toInt64 &&& 63))) :: st) σ | _ => none
  | 27 => match st with | .inr (.inl x) :: st => sl_nx nx L (.inr (.inl (-x)) :: st) σ | _ => none
  | 28 => match st with | .inr (.inl y) :: .inr (.inl x) :: st => sl_nx nx L (.inl (lg_cmp x y) :: st) σ | _ => none
  | 29 => sl_nx nx L (.inr (.inl (sl_lk b)) :: st) σ
  | _ => none
def sl_stepB (k a b : Nat) (v : Int32) (nx : Nat) (L : sl_L) (st : List sl_V) (σ : sl_S) : Option sl_Q := match k with
  | 0 => match st with
    | .inr (.inr r) :: st => match sl_obj r.1 r.2.1 r.2.2 with
      | some (ci, sl) => if ci = a then match sl[b]? with | some g => sl_nx nx L (sl_gi σ g :: st) σ | none => none else none
      | none => none
    | _ => none
  | 1 => match st with
    | .inl x :: .inr (.inr r) :: st => match sl_obj r.1 r.2.1 r.2.2 with
      | some (ci, sl) => if ci = a ∧ (v = 0 ∨ x = 0 ∨ x = 1) then match sl[b]? with | some (.inl q) => sl_nx nx L st (sl_up σ q.1 q.2.1 q.2.2 x) | _ => none else none
      | none => none
    | _ => none
  | 2 => sl_nx nx L (.inr (.inr (a, 0, 0)) :: st) σ
  | 3 => match st with
    | .inl j :: .inr (.inr r) :: st => if 0 ≤ j.toInt ∧ j.toInt < sl_rlen r then sl_nx nx L (.inr (.inr (sl_rg r j.toNatClampNeg)) :: st) σ else none
    | _ => none
  | 4 => match st with
    | .inl j :: .inr (.inr r) :: st => if 0 ≤ j.toInt ∧ j.toInt < sl_ilen N r then sl_nx nx L (.inl (sl_rd xs σ r j.toNatClampNeg) :: st) σ else none
    | _ => none
  | 5 => match st with
    | .inl j :: .inr (.inr r) :: st => if 0 ≤ j.toInt ∧ j.toInt < sl_wlen r b then sl_nx nx L (.inl (sl_rd xs σ r j.toNatClampNeg) :: st) σ else none
    | _ => none
  | 6 => match st with
    | .inl x :: .inl j :: .inr (.inr r) :: st => if 0 ≤ j.toInt ∧ j.toInt < sl_wlen r 0 then sl_nx nx L st (sl_wr σ r j.toNatClampNeg x) else none
    | _ => none
  | 7 => match st with
    | .inl x :: .inl j :: .inr (.inr r) :: st => if 0 ≤ j.toInt ∧ j.toInt < sl_wlen r 1 then sl_nx nx L st (sl_wr σ r j.toNatClampNeg x.toInt8.toInt32) else none
    | _ => none
  | 8 => match st with
    | .inl x :: .inl j :: .inr (.inr r) :: st => if (0 ≤ j.toInt ∧ j.toInt < sl_wlen r 2) ∧ (x = 0 ∨ x = 1) then sl_nx nx L st (sl_wr σ r j.toNatClampNeg x) else none
    | _ => none
  | 9 => match st with
    | .inr (.inr r) :: st => if sl_ilen N r = 0 then none else sl_nx nx L (.inl (nI (sl_ilen N r)) :: st) σ
    | _ => none
  | 10 => match st with
    | .inl n :: .inl j :: .inr (.inr r) :: .inl i :: .inr (.inr q) :: st =>
      if 0 ≤ n.toInt ∧ 0 ≤ i.toInt ∧ 0 ≤ j.toInt ∧ i.toInt + n.toInt ≤ sl_wlen q 0 ∧ j.toInt + n.toInt ≤ sl_wlen r 0 ∧ sl_cw st ≤ 8 ∧ 0 < sl_wlen q 0 ∧ 0 < sl_wlen r 0 then sl_nx nx L st (sl_cp σ q r i.toNatClampNeg j.toNatClampNeg n.toNatClampNeg) else none
    | _ => none
  | 11 => match st with | .inl x :: st => if sl_cw st ≤ 8 then sl_nx nx L (.inl (if 0 ≤ x then x else 0 - x) :: st) σ else none | _ => none
  | 12 => match st with | .inl y :: .inl x :: st => if sl_cw st ≤ 8 then sl_nx nx L (.inl (if x < y then y else x) :: st) σ else none | _ => none
  | 13 => match st with | .inl y :: .inl x :: st => if sl_cw st ≤ 8 then sl_nx nx L (.inl (if y < x then y else x) :: st) σ else none | _ => none
  | 14 => match st with | .inr (.inl x) :: st => if sl_cw st ≤ 8 then sl_nx nx L (.inr (.inl (if 0 < x then x else -x)) :: st) σ else none | _ => none
  | _ => none
def sl_stepC (k a b : Nat) (v : Int32) (ts : List Nat) (ml nx : Nat) (L : sl_L) (st : List sl_V) (σ : sl_S) : Option sl_Q := match k with
  | 0 => sl_nx a L st σ
  | 1 => match st with | .inl y :: .inl x :: st => sl_nx (if sl_br b x y = true then a else nx) L st σ | _ => none
  | 2 => match st with | .inl x :: st => sl_nx (if sl_br b x 0 = true then a else nx) L st σ | _ => none
  | 3 => match st with | .inl x :: st => sl_nx (sl_jump a ts x) L st σ | _ => none
  | 4 => if b ≤ st.length ∧ sl_cw (st.drop b) ≤ 8 ∧ sl_rc v (st.take b).reverse = true ∧ (sl_mkA (st.take b).reverse).length ≤ ml then some (.inr (.inl (a, (st.take b).reverse, nx, st.drop b))) else none
  | 5 => match st with | [.inl x] => if v = 0 ∨ x = 0 ∨ x = 1 then some (.inr (.inr (some (.inl x)))) else none | _ => none
  | 6 => match st with | [] => some (.inr (.inr none)) | _ => none
  | 7 => match st with | [.inr (.inl x)] => some (.inr (.inr (some (.inr (.inl x))))) | _ => none
  | 8 => match st with | .inl x :: st => sl_nx nx L (.inl x :: .inl x :: st) σ | .inr (.inr x) :: st => sl_nx nx L (.inr (.inr x) :: .inr (.inr x) :: st) σ | _ => none
  | 9 => match st with | .inl y :: .inr (.inr x) :: st => sl_nx nx L (.inl y :: .inr (.inr x) :: .inl y :: .inr (.inr x) :: st) σ | _ => none
  | _ => none
def sl_stepE (sw : Nat → List Nat) (ml : Nat → Nat) (e : sl_E) (nx : Nat) (L : sl_L) (st : List sl_V) (σ : sl_S) : Option sl_Q :=
  if e.1 < 100 then sl_stepA e.1 e.2.1 e.2.2.1 e.2.2.2 nx L st σ
  else if e.1 < 200 then sl_stepB xs N (e.1 - 100) e.2.1 e.2.2.1 e.2.2.2 nx L st σ
  else sl_stepC (e.1 - 200) e.2.1 e.2.2.1 e.2.2.2 (sw e.2.2.1) (ml e.2.1) nx L st σ
end SLM
