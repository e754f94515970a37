/-! what the skeleton says, and the class tables: checked by the kernel -/
def sl_own1 (K I : Nat) : Option (sl_R × Nat) := match K with
  | 0 => match I with
    | 0 => some ((1, 1, 0), 8)
    | 1 => some ((1, 1, 0), 9)
    | 2 => some ((1, 1, 0), 10)
    | 5 => some ((1, 1, 0), 13)
    | 6 => some ((1, 1, 0), 14)
    | 7 => some ((1, 1, 0), 15)
    | 8 => some ((1, 1, 0), 16)
    | _ => none
  | 1 => some ((4, 1, I / 12), I % 12)
  | 2 => some ((5, 1, I / 12), I % 12)
  | 3 => some ((6, 1, 0), I)
  | 4 => some ((7, 1, 0), I)
  | 5 => some ((8, 1, 0), I)
  | 6 => some ((9, 1, 0), I)
  | 7 => some ((10, 1, 0), I)
  | 8 => match I with
    | 0 => some ((1, 1, 0), 11)
    | 1 => some ((1, 1, 0), 12)
    | 2 => some ((1, 1, 0), 17)
    | _ => none
  | _ => none
def sl_own2 (K I : Nat) : Option (sl_R × Nat) := match K with
  | 0 => match I with
    | 0 => some ((1, 2, 0), 8)
    | 1 => some ((1, 2, 0), 9)
    | 2 => some ((1, 2, 0), 10)
    | 5 => some ((1, 2, 0), 13)
    | 6 => some ((1, 2, 0), 14)
    | 7 => some ((1, 2, 0), 15)
    | 8 => some ((1, 2, 0), 16)
    | _ => none
  | 1 => some ((4, 2, I / 12), I % 12)
  | 2 => some ((5, 2, I / 12), I % 12)
  | 3 => some ((6, 2, 0), I)
  | 4 => some ((7, 2, 0), I)
  | 5 => some ((8, 2, 0), I)
  | 6 => some ((9, 2, 0), I)
  | 7 => some ((10, 2, 0), I)
  | 8 => match I with
    | 0 => some ((1, 2, 0), 11)
    | 1 => some ((1, 2, 0), 12)
    | 2 => some ((1, 2, 0), 17)
    | _ => none
  | _ => none
def sl_own3 (K I : Nat) : Option (sl_R × Nat) := match K with
  | 0 => match I with
    | 0 => some ((1, 3, 0), 8)
    | 1 => some ((1, 3, 0), 9)
    | 2 => some ((1, 3, 0), 10)
    | 5 => some ((1, 3, 0), 13)
    | 6 => some ((1, 3, 0), 14)
    | 7 => some ((1, 3, 0), 15)
    | 8 => some ((1, 3, 0), 16)
    | _ => none
  | 1 => some ((4, 3, I / 12), I % 12)
  | 2 => some ((5, 3, I / 12), I % 12)
  | 3 => some ((6, 3, 0), I)
  | 4 => some ((7, 3, 0), I)
  | 5 => some ((8, 3, 0), I)
  | 6 => some ((9, 3, 0), I)
  | 7 => some ((10, 3, 0), I)
  | 8 => match I with
    | 0 => some ((1, 3, 0), 11)
    | 1 => some ((1, 3, 0), 12)
    | 2 => some ((1, 3, 0), 17)
    | _ => none
  | _ => none
def sl_own4 (K I : Nat) : Option (sl_R × Nat) := match K with
  | 0 => match I with
    | 0 => some ((40, 0, 0), 5)
    | 1 => some ((40, 0, 0), 4)
    | 2 => some ((40, 0, 0), 6)
    | 5 => some ((40, 0, 0), 9)
    | 6 => some ((40, 0, 0), 10)
    | 7 => some ((40, 0, 0), 11)
    | 8 => some ((40, 0, 0), 12)
    | _ => none
  | 1 => some ((47, 0, 0), I)
  | 2 => some ((48, 0, 0), I)
  | 3 => some ((45, 0, 0), I)
  | 4 => some ((46, 0, 0), I)
  | 5 => some ((54, 0, 0), I)
  | 6 => some ((55, 0, 0), I)
  | 7 => some ((56, 0, 0), I)
  | 9 => match I with
    | 0 => some ((40, 0, 0), 7)
    | 1 => some ((40, 0, 0), 8)
    | _ => none
  | _ => none
def sl_own5 (K I : Nat) : Option (sl_R × Nat) := match K with
  | 0 => match I with
    | 0 => some ((11, 0, 0), 1)
    | 1 => some ((11, 0, 0), 4)
    | 2 => some ((11, 0, 0), 6)
    | 3 => some ((11, 0, 0), 7)
    | 4 => some ((11, 0, 0), 8)
    | _ => none
  | 1 => some ((13, 0, I), 0)
  | 2 => some ((13, 0, I), 1)
  | 3 => some ((13, 0, I), 2)
  | 4 => some ((13, 0, I), 3)
  | 5 => some ((13, 0, I), 4)
  | 6 => some ((14, 0, 0), I)
  | 7 => some ((15, 0, 0), I)
  | 8 => some ((17, 0, I), 0)
  | 9 => some ((18, 0, I / 12), I % 12)
  | 10 => some ((19, 0, I / 12), I % 12)
  | _ => none
def sl_own6 (K I : Nat) : Option (sl_R × Nat) := match K with
  | 0 => match I with
    | 0 => some ((40, 0, 0), 0)
    | 1 => some ((40, 0, 0), 1)
    | 2 => some ((40, 0, 0), 29)
    | 3 => some ((40, 0, 0), 2)
    | 4 => some ((40, 0, 0), 3)
    | _ => none
  | 1 => some ((41, 0, 0), I)
  | 2 => some ((42, 0, 0), I)
  | 3 => some ((43, 0, 0), I)
  | 4 => some ((44, 0, 0), I)
  | 5 => some ((51, 0, 0), I)
  | 6 => some ((52, 0, 0), I)
  | 7 => some ((53, 0, 0), I)
  | 8 => some ((58, 0, 0), I)
  | 9 => some ((59, 0, 0), I)
  | 10 => some ((60, 0, 0), I)
  | _ => none
def sl_own7 (K I : Nat) : Option (sl_R × Nat) := match K with
  | 0 => match I with
    | 0 => some ((0, 0, 0), 4)
    | 1 => some ((0, 0, 0), 8)
    | 2 => some ((0, 0, 0), 10)
    | 3 => some ((20, 0, 0), 1)
    | 4 => some ((20, 0, 0), 2)
    | 5 => some ((20, 0, 0), 3)
    | _ => none
  | 1 => some ((21, 0, 0), I)
  | 2 => some ((23, 0, 0), I)
  | 3 => some ((24, 0, 0), I)
  | 4 => some ((25, 0, 0), I)
  | 5 => some ((27, 0, I), 0)
  | 6 => some ((27, 0, I), 1)
  | 7 => some ((27, 0, I), 2)
  | 8 => some ((27, 0, I), 3)
  | 9 => some ((27, 0, I), 5)
  | 10 => some ((28, 0, I / 24), I % 24)
  | 11 => some ((30, 0, I), 0)
  | 12 => some ((30, 0, I), 1)
  | 13 => some ((31, 0, I / 40), I % 40)
  | _ => none
def sl_own8 (K I : Nat) : Option (sl_R × Nat) := match K with
  | 0 => match I with
    | 0 => some ((40, 0, 0), 52)
    | 1 => some ((40, 0, 0), 45)
    | 2 => some ((40, 0, 0), 40)
    | 3 => some ((40, 0, 0), 30)
    | 4 => some ((40, 0, 0), 31)
    | 5 => some ((40, 0, 0), 32)
    | 6 => some ((40, 0, 0), 33)
    | 7 => some ((40, 0, 0), 38)
    | 8 => some ((40, 0, 0), 53)
    | 9 => some ((40, 0, 0), 54)
    | _ => none
  | 1 => some ((57, 0, 0), I)
  | 3 => some ((64, 0, 0), I)
  | 4 => some ((63, 0, 0), I)
  | 5 => some ((66, 0, 0), I)
  | 6 => some ((67, 0, 0), I)
  | 7 => some ((68, 0, 0), I)
  | 8 => some ((69, 0, 0), I)
  | 9 => some ((71, 0, 0), I)
  | 10 => some ((70, 0, 0), I)
  | 11 => some ((72, 0, 0), I)
  | 12 => some ((73, 0, 0), I)
  | 13 => some ((74, 0, 0), I)
  | 14 => some ((75, 0, 0), I)
  | 15 => some ((61, 0, 0), I)
  | 16 => some ((62, 0, 0), I)
  | 17 => some ((65, 0, 0), I)
  | 19 => some ((49, 0, 0), I)
  | 20 => some ((50, 0, 0), I)
  | _ => none
def sl_own (R K I : Nat) : Option (sl_R × Nat) := match R with
  | 1 => sl_own1 K I
  | 2 => sl_own2 K I
  | 3 => sl_own3 K I
  | 4 => sl_own4 K I
  | 5 => sl_own5 K I
  | 6 => sl_own6 K I
  | 7 => sl_own7 K I
  | 8 => sl_own8 K I
  | _ => none
def sl_ck1 (r : sl_R) : Bool := match sl_obj r.1 r.2.1 r.2.2 with
  | some (ci, sl) => decide (sl_arr r.1 r.2.1 r.2.2 = none) && (sl_rar r.1 r.2.1 r.2.2).isNone && (match vwCl[ci]? with | some q => decide (sl.length = q.2.2) | none => false) && sl.zipIdx.all (fun g => match g.1 with
    | .inl q => decide (sl_own q.1 q.2.1 q.2.2 = some (r, g.2))
    | .inr q => decide (q ∈ sl_refs))
  | none => match sl_arr r.1 r.2.1 r.2.2 with
    | some (ty, n, R, K, o) => (sl_rar r.1 r.2.1 r.2.2).isNone && decide (ty < 3) && (List.range n).all (fun j => decide (sl_own R K (o + j) = some (r, j)))
    | none => match sl_rar r.1 r.2.1 r.2.2 with
      | some (ty, n, g) => decide (3 ≤ ty ∧ ty < 8) && (List.range n).all (fun j => decide (g j ∈ sl_refs))
      | none => false
def sl_ck2 (r : sl_R) : Bool := (sl_obj r.1 r.2.1 r.2.2).isNone && decide (sl_arr r.1 r.2.1 r.2.2 = none) && (sl_rar r.1 r.2.1 r.2.2).isNone
def sl_ndp : List sl_R → Bool
  | [] => true
  | r :: l => l.all (fun q => decide (q ≠ r)) && sl_ndp l
set_option maxRecDepth 100000 in
theorem sl_ck1_ok : sl_refs.all sl_ck1 = true := by decide +kernel
theorem sl_ck2_ok : sl_rors.all sl_ck2 = true := by decide +kernel
theorem sl_ck3_ok : sl_refs.all (fun r => decide (r.1 < 80)) = true := by decide +kernel
set_option maxRecDepth 100000 in
theorem sl_ndp_ok : sl_ndp sl_refs = true := by decide +kernel
def sl_fl : List (Nat × Nat × Nat × String × Nat) := [(7, 9, 0, "SloshTankModel", 773), (9, 0, 0, "SloshTank$Emptying", 286), (9, 2, 4, "SloshTank$Reading", 312), (9, 4, 0, "SloshTank$Sheet", 332), (9, 5, 1, "SloshTank$Tank", 89), (9, 6, 0, "SloshTank$Tape", 266), (9, 7, 1, "SloshTank$Way", 121), (10, 8, 0, "SloshTank", 347), (11, 1, 1, "SloshTank$Liquid", 192), (11, 3, 0, "SloshTank$Rig", 136), (13, 9, 1, "SloshTankModel", 774), (15, 0, 1, "SloshTank$Emptying", 288), (15, 2, 0, "SloshTank$Reading", 304), (15, 4, 2, "SloshTank$Sheet", 337), (15, 5, 2, "SloshTank$Tank", 93), (15, 6, 1, "SloshTank$Tape", 267), (15, 7, 2, "SloshTank$Way", 125), (16, 1, 2, "SloshTank$Liquid", 194), (16, 9, 2, "SloshTankModel", 775), (17, 3, 2, "SloshTank$Rig", 142), (18, 0, 2, "SloshTank$Emptying", 290), (18, 7, 0, "SloshTank$Way", 117), (19, 1, 3, "SloshTank$Liquid", 196), (19, 2, 1, "SloshTank$Reading", 306), (19, 4, 1, "SloshTank$Sheet", 335), (19, 7, 0, "SloshTank$Tape", 118), (19, 9, 3, "SloshTankModel", 776), (21, 3, 3, "SloshTank$Rig", 145), (21, 8, 1, "SloshTank", 348), (22, 2, 2, "SloshTank$Reading", 308), (22, 9, 4, "SloshTankModel", 777), (23, 1, 4, "SloshTank$Liquid", 198), (24, 6, 2, "SloshTank$Tape", 269), (25, 4, 1, "SloshTank$Reading", 334), (25, 8, 2, "SloshTank", 349), (25, 9, 5, "SloshTankModel", 778), (26, 1, 5, "SloshTank$Liquid", 200), (27, 6, 3, "SloshTank$Tape", 270), (28, 8, 3, "SloshTank", 350), (28, 9, 6, "SloshTankModel", 779), (29, 1, 6, "SloshTank$Liquid", 202), (31, 9, 7, "SloshTankModel", 780), (32, 1, 7, "SloshTank$Liquid", 204), (34, 8, 5, "SloshTank", 352), (34, 9, 8, "SloshTankModel", 781), (35, 1, 10, "SloshTank$Liquid", 210), (36, 2, 3, "SloshTank$Reading", 310), (37, 4, 2, "SloshTank$Reading", 338), (37, 9, 9, "SloshTankModel", 782), (39, 1, 0, "SloshTank$Liquid", 191), (39, 3, 1, "SloshTank$Rig", 139), (40, 9, 10, "SloshTankModel", 783), (41, 8, 6, "SloshTank", 353), (43, 9, 11, "SloshTankModel", 784), (46, 3, 4, "SloshTank$Rig", 148), (46, 9, 12, "SloshTankModel", 785), (47, 8, 7, "SloshTank", 354), (49, 3, 6, "SloshTank$Rig", 154), (49, 9, 13, "SloshTankModel", 786), (53, 8, 9, "SloshTank", 356), (53, 9, 14, "SloshTankModel", 787), (54, 7, 1, "SloshTank$Tape", 122), (55, 1, 8, "SloshTank$Liquid", 206), (56, 9, 15, "SloshTankModel", 788), (58, 1, 9, "SloshTank$Liquid", 208), (58, 5, 0, "SloshTank$Rig", 86), (58, 7, 2, "SloshTank$Tape", 126), (59, 9, 16, "SloshTankModel", 789), (61, 1, 11, "SloshTank$Liquid", 212), (61, 5, 1, "SloshTank$Rig", 91), (62, 9, 17, "SloshTankModel", 790), (64, 1, 12, "SloshTank$Liquid", 213), (64, 5, 2, "SloshTank$Rig", 94), (65, 9, 18, "SloshTankModel", 791), (67, 1, 13, "SloshTank$Liquid", 214), (67, 3, 0, "SloshTank", 138), (67, 5, 3, "SloshTank$Rig", 96), (68, 9, 19, "SloshTankModel", 792), (70, 1, 14, "SloshTank$Liquid", 216), (71, 9, 20, "SloshTankModel", 793), (73, 1, 15, "SloshTank$Liquid", 218), (74, 9, 21, "SloshTankModel", 794), (76, 1, 16, "SloshTank$Liquid", 220), (77, 9, 22, "SloshTankModel", 795), (79, 5, 4, "SloshTank", 99), (80, 1, 17, "SloshTank$Liquid", 222), (80, 9, 23, "SloshTankModel", 796), (83, 3, 0, "SloshTank$Liquid", 137), (84, 9, 24, "SloshTankModel", 797), (87, 9, 25, "SloshTankModel", 798), (89, 5, 1, "SloshTank$Liquid", 90), (90, 9, 26, "SloshTankModel", 799), (93, 9, 27, "SloshTankModel", 800), (95, 1, 3, "SloshTank", 197), (96, 9, 28, "SloshTankModel", 801), (99, 9, 29, "SloshTankModel", 802), (100, 3, 1, "SloshTank$Liquid", 140), (102, 9, 30, "SloshTankModel", 803), (105, 9, 31, "SloshTankModel", 804), (107, 3, 4, "SloshTank$Liquid", 149), (108, 9, 32, "SloshTankModel", 805), (111, 9, 33, "SloshTankModel", 806), (113, 1, 5, "SloshTank", 201), (114, 9, 34, "SloshTankModel", 807), (116, 1, 9, "SloshTank", 209), (117, 9, 35, "SloshTankModel", 808), (119, 3, 7, "SloshTank", 157), (120, 9, 36, "SloshTankModel", 809), (123, 3, 8, "SloshTank", 161), (123, 9, 37, "SloshTankModel", 810), (126, 1, 8, "SloshTank", 207), (126, 9, 38, "SloshTankModel", 811), (127, 3, 8, "SloshTank$Liquid", 160), (129, 9, 39, "SloshTankModel", 812), (132, 9, 40, "SloshTankModel", 813), (134, 3, 5, "SloshTank$Liquid", 152), (135, 9, 41, "SloshTankModel", 814), (137, 3, 6, "SloshTank", 155), (138, 7, 0, "SloshTank$Liquid", 119), (138, 9, 42, "SloshTankModel", 815), (140, 3, 5, "SloshTank", 153), (141, 9, 43, "SloshTankModel", 816), (143, 7, 1, "SloshTank$Liquid", 123), (144, 9, 44, "SloshTankModel", 817), (146, 7, 2, "SloshTank$Liquid", 127), (147, 9, 45, "SloshTankModel", 818), (148, 6, 1, "SloshTank", 268), (149, 5, 0, "SloshTank$Liquid", 87), (150, 9, 46, "SloshTankModel", 819), (153, 9, 47, "SloshTankModel", 820), (154, 7, 0, "SloshTank", 120), (156, 9, 48, "SloshTankModel", 821), (159, 7, 1, "SloshTank", 124), (159, 9, 49, "SloshTankModel", 822), (162, 7, 2, "SloshTank", 128), (162, 9, 50, "SloshTankModel", 823), (163, 5, 4, "SloshTank$Liquid", 100), (165, 1, 10, "SloshTank", 211), (165, 9, 51, "SloshTankModel", 824), (168, 9, 52, "SloshTankModel", 825), (171, 1, 1, "SloshTank", 193), (172, 9, 53, "SloshTankModel", 826), (173, 5, 2, "SloshTank$Liquid", 95), (175, 9, 54, "SloshTankModel", 827), (176, 1, 2, "SloshTank", 195), (178, 9, 55, "SloshTankModel", 828), (179, 3, 2, "SloshTank$Liquid", 143), (180, 5, 0, "SloshTank", 88), (181, 9, 56, "SloshTankModel", 829), (182, 3, 3, "SloshTank$Liquid", 146), (183, 1, 4, "SloshTank", 199), (184, 9, 57, "SloshTankModel", 830), (185, 5, 3, "SloshTank$Liquid", 97), (187, 9, 58, "SloshTankModel", 831), (191, 3, 7, "SloshTank$Liquid", 158), (203, 3, 2, "SloshTank", 144), (206, 3, 3, "SloshTank", 147), (209, 1, 6, "SloshTank", 203), (212, 1, 7, "SloshTank", 205), (221, 3, 1, "SloshTank", 141), (224, 3, 4, "SloshTank", 150), (227, 1, 13, "SloshTank", 215), (230, 1, 14, "SloshTank", 217), (233, 1, 15, "SloshTank", 219), (236, 1, 16, "SloshTank", 221), (240, 8, 8, "SloshTank", 355), (249, 1, 17, "SloshTank", 223), (262, 4, 1, "SloshTank", 336), (273, 8, 10, "SloshTank", 357), (276, 0, 0, "SloshTank", 287), (279, 5, 3, "SloshTank", 98), (285, 0, 1, "SloshTank", 289), (292, 2, 5, "SloshTank", 314), (302, 8, 4, "SloshTank", 351), (315, 4, 0, "SloshTank", 333), (318, 4, 2, "SloshTank", 339), (330, 5, 1, "SloshTank", 92), (333, 2, 3, "SloshTank", 311), (343, 2, 0, "SloshTank", 305), (350, 2, 2, "SloshTank", 309), (354, 2, 4, "SloshTank", 313), (358, 2, 1, "SloshTank", 307)]
def sl_flP (q : Nat × Nat × Nat × String × Nat) : Bool := match vwCl[q.2.1]? with
  | some (_, T, n) => decide (q.2.2.1 < n) && decide (sl_good[q.2.2.2.2]? = some (Cond.fieldLink q.2.2.2.1 q.1 (T q.2.2.1).1 (T q.2.2.1).2.1 (T q.2.2.1).2.2.1))
  | none => false
set_option maxRecDepth 100000 in
theorem sl_fl_ok : sl_fl.all sl_flP = true := by decide +kernel
def sl_fchk (own : String) (idx a b : Nat) : Bool := sl_fl.any (fun q => decide (q.1 = idx) && (decide (q.2.1 = a) && (decide (q.2.2.1 = b) && decide (q.2.2.2.1 = own))))
theorem sl_fchk_ok {own : String} {idx a b : Nat} (h : sl_fchk own idx a b = true) : ∃ C T n, vwCl[a]? = some (C, T, n) ∧ b < n ∧ Cond.fieldLink own idx (T b).1 (T b).2.1 (T b).2.2.1 ∈ sl_good := by
  unfold sl_fchk at h
  obtain ⟨q, hq, h2⟩ := List.any_eq_true.mp h
  simp only [Bool.and_eq_true, decide_eq_true_eq] at h2
  obtain ⟨rfl, rfl, rfl, rfl⟩ := h2
  have h3 := List.all_eq_true.mp sl_fl_ok q hq
  unfold sl_flP at h3
  split at h3
  · rename_i C T n hv
    simp only [Bool.and_eq_true, decide_eq_true_eq] at h3
    exact ⟨C, T, n, hv, h3.1, List.mem_of_getElem? h3.2⟩
  · cases h3
set_option maxRecDepth 100000 in
theorem sl_iw0 : ∀ w, w ∈ wsX00 → w ∈ sl_good := by decide +kernel
set_option maxRecDepth 100000 in
theorem sl_iw2 : ∀ w, w ∈ wsX20 → w ∈ sl_good := by decide +kernel
set_option maxRecDepth 100000 in
theorem sl_iw3 : ∀ w, w ∈ wsX30 → w ∈ sl_good := by decide +kernel
set_option maxRecDepth 100000 in
theorem sl_iw4 : ∀ w, w ∈ wsX40 → w ∈ sl_good := by decide +kernel
set_option maxRecDepth 100000 in
theorem sl_iw5 : ∀ w, w ∈ wsX50 → w ∈ sl_good := by decide +kernel
set_option maxRecDepth 100000 in
theorem sl_iw6 : ∀ w, w ∈ wsX60 → w ∈ sl_good := by decide +kernel
set_option maxRecDepth 100000 in
theorem sl_iw7 : ∀ w, w ∈ wsX70 → w ∈ sl_good := by decide +kernel
set_option maxRecDepth 100000 in
theorem sl_iw8 : ∀ w, w ∈ wsX80 → w ∈ sl_good := by decide +kernel
set_option maxRecDepth 100000 in
theorem sl_iw9 : ∀ w, w ∈ wsX90 → w ∈ sl_good := by decide +kernel
set_option maxRecDepth 100000 in
theorem sl_iw10 : ∀ w, w ∈ wsX100 → w ∈ sl_good := by decide +kernel
theorem sl_cls {ci : Nat} {C : String} {T : u_T} {n : Nat} (h : vwCl[ci]? = some (C, T, n)) : (∀ w, w ∈ u_ws C T n → w ∈ sl_good) ∧ (∃ ty : Nat → FieldType, ∀ k, k < n → parseFieldDescriptor (T k).2.2.1 = some (ty k)) ∧ (∀ a, a < n → ∀ b, b < n → a ≠ b → (T a).2.1 ≠ (T b).2.1) := by
  match ci, h with
  | 0, h => cases h; exact ⟨sl_iw0, ⟨tyX0, tyX0_ok⟩, nmX0⟩
  | 1, h => cases h; exact ⟨sl_iw2, ⟨tyX2, tyX2_ok⟩, nmX2⟩
  | 2, h => cases h; exact ⟨sl_iw3, ⟨tyX3, tyX3_ok⟩, nmX3⟩
  | 3, h => cases h; exact ⟨sl_iw4, ⟨tyX4, tyX4_ok⟩, nmX4⟩
  | 4, h => cases h; exact ⟨sl_iw5, ⟨tyX5, tyX5_ok⟩, nmX5⟩
  | 5, h => cases h; exact ⟨sl_iw6, ⟨tyX6, tyX6_ok⟩, nmX6⟩
  | 6, h => cases h; exact ⟨sl_iw7, ⟨tyX7, tyX7_ok⟩, nmX7⟩
  | 7, h => cases h; exact ⟨sl_iw8, ⟨tyX8, tyX8_ok⟩, nmX8⟩
  | 8, h => cases h; exact ⟨sl_iw9, ⟨tyX9, tyX9_ok⟩, nmX9⟩
  | 9, h => cases h; exact ⟨sl_iw10, ⟨tyX10, tyX10_ok⟩, nmX10⟩
  | ci + 10, h => cases h
