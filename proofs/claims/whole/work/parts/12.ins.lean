section SLI
variable {xs : Nat → Int32} {N : Nat} {st : List sl_V} {σ : sl_S} {Q : Option sl_V → sl_S → Prop}
theorem g81_0 {x : Int32} {a1 a2 : Option sl_V} : sl_Go xs N 81 0 [some (.inl x), a1, a2] st σ Q ↔ sl_Go xs N 81 1 [some (.inl x), a1, a2] (.inl x :: st) σ Q := gk_iload rfl rfl
theorem g81_1 {x : Int32} {a0 a2 : Option sl_V} : sl_Go xs N 81 1 [a0, some (.inl x), a2] st σ Q ↔ sl_Go xs N 81 2 [a0, some (.inl x), a2] (.inl x :: st) σ Q := gk_iload rfl rfl
theorem g81_2 {L : sl_L} {x y : Int32} : sl_Go xs N 81 2 L (.inl y :: .inl x :: st) σ Q ↔ (x < y → sl_Go xs N 81 14 L st σ Q) ∧ (¬ x < y → sl_Go xs N 81 5 L st σ Q) := gk_ilt rfl
theorem g81_5 {x : Int32} {a1 a2 : Option sl_V} : sl_Go xs N 81 5 [some (.inl x), a1, a2] st σ Q ↔ sl_Go xs N 81 6 [some (.inl x), a1, a2] (.inl x :: st) σ Q := gk_iload rfl rfl
theorem g81_6 {x : Int32} {a0 a1 : Option sl_V} : sl_Go xs N 81 6 [a0, a1, some (.inl x)] st σ Q ↔ sl_Go xs N 81 7 [a0, a1, some (.inl x)] (.inl x :: st) σ Q := gk_iload rfl rfl
theorem g81_7 {L : sl_L} {x y : Int32} : sl_Go xs N 81 7 L (.inl y :: .inl x :: st) σ Q ↔ (y < x → sl_Go xs N 81 14 L st σ Q) ∧ (¬ y < x → sl_Go xs N 81 10 L st σ Q) := gk_igt rfl
theorem g81_10 {L : sl_L} : sl_Go xs N 81 10 L st σ Q ↔ sl_Go xs N 81 11 L (.inl 1 :: st) σ Q := gk_const rfl
theorem g81_11 {L : sl_L} : sl_Go xs N 81 11 L st σ Q ↔ sl_Go xs N 81 15 L st σ Q := gk_goto rfl
theorem g81_14 {L : sl_L} : sl_Go xs N 81 14 L st σ Q ↔ sl_Go xs N 81 15 L (.inl 0 :: st) σ Q := gk_const rfl
theorem g81_15 {L : sl_L} {x : Int32} : sl_Go xs N 81 15 L [.inl x] σ Q ↔ (x = 0 ∨ x = 1) ∧ Q (some (.inl x)) σ := gk_zret rfl
theorem g82_0 {x : Int32} : sl_Go xs N 82 0 [some (.inl x)] st σ Q ↔ sl_Go xs N 82 1 [some (.inl x)] (.inl x :: st) σ Q := gk_iload rfl rfl
theorem g82_1 {L : sl_L} {x : Int32} : sl_Go xs N 82 1 L (.inl x :: st) σ Q ↔ (x = 0 → sl_Go xs N 82 9 L st σ Q) ∧ (¬ x = 0 → sl_Go xs N 82 4 L st σ Q) := gk_zeq rfl
theorem g82_4 {x : Int32} : sl_Go xs N 82 4 [some (.inl x)] st σ Q ↔ sl_Go xs N 82 5 [some (.inl x)] (.inl x :: st) σ Q := gk_iload rfl rfl
theorem g82_5 {L : sl_L} : sl_Go xs N 82 5 L st σ Q ↔ sl_Go xs N 82 6 L (.inl 1 :: st) σ Q := gk_const rfl
theorem g82_6 {L : sl_L} {x y : Int32} : sl_Go xs N 82 6 L (.inl y :: .inl x :: st) σ Q ↔ (¬ x = y → sl_Go xs N 82 13 L st σ Q) ∧ (x = y → sl_Go xs N 82 9 L st σ Q) := gk_ine rfl
theorem g82_9 {L : sl_L} : sl_Go xs N 82 9 L st σ Q ↔ sl_Go xs N 82 10 L (.inl 1 :: st) σ Q := gk_const rfl
theorem g82_10 {L : sl_L} : sl_Go xs N 82 10 L st σ Q ↔ sl_Go xs N 82 14 L st σ Q := gk_goto rfl
theorem g82_13 {L : sl_L} : sl_Go xs N 82 13 L st σ Q ↔ sl_Go xs N 82 14 L (.inl 0 :: st) σ Q := gk_const rfl
theorem g82_14 {L : sl_L} {x : Int32} : sl_Go xs N 82 14 L [.inl x] σ Q ↔ (x = 0 ∨ x = 1) ∧ Q (some (.inl x)) σ := gk_zret rfl
theorem g83_0 {x : Int32} : sl_Go xs N 83 0 [some (.inl x)] st σ Q ↔ sl_Go xs N 83 1 [some (.inl x)] (.inl x :: st) σ Q := gk_iload rfl rfl
theorem g83_1 {L : sl_L} : sl_Go xs N 83 1 L st σ Q ↔ sl_Go xs N 83 2 L (.inl 0 :: st) σ Q := gk_const rfl
theorem g83_2 {L : sl_L} : sl_Go xs N 83 2 L st σ Q ↔ sl_Go xs N 83 3 L (.inl 3 :: st) σ Q := gk_const rfl
theorem g83_3 {L : sl_L} {x0 : Int32} {x1 : Int32} {x2 : Int32} : sl_Go xs N 83 3 L (.inl x2 :: .inl x1 :: .inl x0 :: st) σ Q ↔ sl_cw st ≤ 8 ∧ sl_Go xs N 81 0 [some (.inl x0), some (.inl x1), some (.inl x2)] [] σ (fun r τ => sl_Go xs N 83 6 L (r.toList ++ st) τ Q) := gk_call rfl (Nat.le_add_left 3 st.length) rfl rfl rfl rfl (Nat.le_of_ble_eq_true rfl)
theorem g83_6 {L : sl_L} {x : Int32} : sl_Go xs N 83 6 L [.inl x] σ Q ↔ (x = 0 ∨ x = 1) ∧ Q (some (.inl x)) σ := gk_zret rfl
theorem g84_0 {x : Int32} {a0 : Option sl_V} : sl_Go xs N 84 0 [a0, some (.inl x)] st σ Q ↔ sl_Go xs N 84 1 [a0, some (.inl x)] (.inl x :: st) σ Q := gk_iload rfl rfl
theorem g84_1 {L : sl_L} : sl_Go xs N 84 1 L st σ Q ↔ sl_Go xs N 84 2 L (.inl (-1) :: st) σ Q := gk_const rfl
theorem g84_2 {L : sl_L} {x y : Int32} : sl_Go xs N 84 2 L (.inl y :: .inl x :: st) σ Q ↔ (x = y → sl_Go xs N 84 16 L st σ Q) ∧ (¬ x = y → sl_Go xs N 84 5 L st σ Q) := gk_ieq rfl
theorem g84_5 {x : sl_R} {a1 : Option sl_V} : sl_Go xs N 84 5 [some (.inr (.inr x)), a1] st σ Q ↔ sl_Go xs N 84 6 [some (.inr (.inr x)), a1] (.inr (.inr x) :: st) σ Q := gk_aload rfl rfl
theorem g84_6 {L : sl_L} {i t : Nat} : sl_Go xs N 84 6 L (.inr (.inr (0, i, t)) :: st) σ Q ↔ sl_Go xs N 84 9 L (.inr (.inr (11, 0, 0)) :: st) σ Q := gk_get (g := .inr (11, 0, 0)) rfl rfl rfl
theorem g84_9 {x : Int32} {a0 : Option sl_V} : sl_Go xs N 84 9 [a0, some (.inl x)] st σ Q ↔ sl_Go xs N 84 10 [a0, some (.inl x)] (.inl x :: st) σ Q := gk_iload rfl rfl
theorem g84_10 {L : sl_L} {x0 : Int32} {i t : Nat} : sl_Go xs N 84 10 L (.inl x0 :: .inr (.inr (11, i, t)) :: st) σ Q ↔ sl_cw st ≤ 8 ∧ sl_Go xs N 25 0 [some (.inr (.inr (11, i, t))), some (.inl x0)] [] σ (fun r τ => sl_Go xs N 84 13 L (r.toList ++ st) τ Q) := gk_call rfl (Nat.le_add_left 2 st.length) rfl rfl rfl rfl (Nat.le_of_ble_eq_true rfl)
theorem g84_13 {L : sl_L} {x : Int32} : sl_Go xs N 84 13 L (.inl x :: st) σ Q ↔ (x = 0 → sl_Go xs N 84 20 L st σ Q) ∧ (¬ x = 0 → sl_Go xs N 84 16 L st σ Q) := gk_zeq rfl
theorem g84_16 {L : sl_L} : sl_Go xs N 84 16 L st σ Q ↔ sl_Go xs N 84 17 L (.inl 1 :: st) σ Q := gk_const rfl
theorem g84_17 {L : sl_L} : sl_Go xs N 84 17 L st σ Q ↔ sl_Go xs N 84 21 L st σ Q := gk_goto rfl
theorem g84_20 {L : sl_L} : sl_Go xs N 84 20 L st σ Q ↔ sl_Go xs N 84 21 L (.inl 0 :: st) σ Q := gk_const rfl
theorem g84_21 {L : sl_L} {x : Int32} : sl_Go xs N 84 21 L [.inl x] σ Q ↔ (x = 0 ∨ x = 1) ∧ Q (some (.inl x)) σ := gk_zret rfl
theorem g85_0 {x : sl_R} {a1 : Option sl_V} : sl_Go xs N 85 0 [some (.inr (.inr x)), a1] st σ Q ↔ sl_Go xs N 85 1 [some (.inr (.inr x)), a1] (.inr (.inr x) :: st) σ Q := gk_aload rfl rfl
theorem g85_1 {L : sl_L} {i t : Nat} : sl_Go xs N 85 1 L (.inr (.inr (0, i, t)) :: st) σ Q ↔ sl_Go xs N 85 4 L (.inr (.inr (1, 2, 0)) :: st) σ Q := gk_get (g := .inr (1, 2, 0)) rfl rfl rfl
theorem g85_4 {x : sl_R} {a1 : Option sl_V} : sl_Go xs N 85 4 [some (.inr (.inr x)), a1] st σ Q ↔ sl_Go xs N 85 5 [some (.inr (.inr x)), a1] (.inr (.inr x) :: st) σ Q := gk_aload rfl rfl
theorem g85_5 {L : sl_L} {i t : Nat} : sl_Go xs N 85 5 L (.inr (.inr (0, i, t)) :: st) σ Q ↔ sl_Go xs N 85 8 L (.inr (.inr (1, 1, 0)) :: st) σ Q := gk_get (g := .inr (1, 1, 0)) rfl rfl rfl
theorem g85_8 {L : sl_L} {x0 : sl_R} {i t : Nat} : sl_Go xs N 85 8 L (.inr (.inr x0) :: .inr (.inr (1, i, t)) :: st) σ Q ↔ sl_cw st ≤ 8 ∧ sl_Go xs N 10 0 [some (.inr (.inr (1, i, t))), some (.inr (.inr x0)), none] [] σ (fun r τ => sl_Go xs N 85 11 L (r.toList ++ st) τ Q) := gk_call rfl (Nat.le_add_left 2 st.length) rfl rfl rfl rfl (Nat.le_of_ble_eq_true rfl)
theorem g85_11 {x : Int32} {a0 : Option sl_V} : sl_Go xs N 85 11 [a0, some (.inl x)] st σ Q ↔ sl_Go xs N 85 12 [a0, some (.inl x)] (.inl x :: st) σ Q := gk_iload rfl rfl
theorem g85_12 {L : sl_L} : sl_Go xs N 85 12 L st σ Q ↔ sl_Go xs N 85 13 L (.inl (-1) :: st) σ Q := gk_const rfl
theorem g85_13 {L : sl_L} {x y : Int32} : sl_Go xs N 85 13 L (.inl y :: .inl x :: st) σ Q ↔ (x = y → sl_Go xs N 85 24 L st σ Q) ∧ (¬ x = y → sl_Go xs N 85 16 L st σ Q) := gk_ieq rfl
theorem g85_16 {x : sl_R} {a1 : Option sl_V} : sl_Go xs N 85 16 [some (.inr (.inr x)), a1] st σ Q ↔ sl_Go xs N 85 17 [some (.inr (.inr x)), a1] (.inr (.inr x) :: st) σ Q := gk_aload rfl rfl
theorem g85_17 {L : sl_L} {i t : Nat} : sl_Go xs N 85 17 L (.inr (.inr (0, i, t)) :: st) σ Q ↔ sl_Go xs N 85 20 L (.inr (.inr (1, 2, 0)) :: st) σ Q := gk_get (g := .inr (1, 2, 0)) rfl rfl rfl
theorem g85_20 {x : Int32} {a0 : Option sl_V} : sl_Go xs N 85 20 [a0, some (.inl x)] st σ Q ↔ sl_Go xs N 85 21 [a0, some (.inl x)] (.inl x :: st) σ Q := gk_iload rfl rfl
theorem g85_21 {L : sl_L} {x0 : Int32} {i t : Nat} : sl_Go xs N 85 21 L (.inl x0 :: .inr (.inr (1, i, t)) :: st) σ Q ↔ sl_cw st ≤ 8 ∧ sl_Go xs N 13 0 [some (.inr (.inr (1, i, t))), some (.inl x0)] [] σ (fun r τ => sl_Go xs N 85 24 L (r.toList ++ st) τ Q) := gk_call rfl (Nat.le_add_left 2 st.length) rfl rfl rfl rfl (Nat.le_of_ble_eq_true rfl)
theorem g85_24 {L : sl_L} : sl_Go xs N 85 24 L [] σ Q ↔ Q none σ := gk_vret rfl
theorem g86_0 {L : sl_L} : sl_Go xs N 86 0 L st σ Q ↔ sl_Go xs N 86 1 L (.inl 0 :: st) σ Q := gk_const rfl
theorem g86_1n {x : Int32} {a0 a2 : Option sl_V} : sl_Go xs N 86 1 [a0, none, a2] (.inl x :: st) σ Q ↔ sl_Go xs N 86 2 [a0, none, some (.inl x)] st σ Q := gk_istore rfl ⟨Nat.le_of_ble_eq_true rfl, rfl⟩ rfl
theorem g86_1i {x : Int32} {z : Int32} {a0 a2 : Option sl_V} : sl_Go xs N 86 1 [a0, some (.inl z), a2] (.inl x :: st) σ Q ↔ sl_Go xs N 86 2 [a0, some (.inl z), some (.inl x)] st σ Q := gk_istore rfl ⟨Nat.le_of_ble_eq_true rfl, rfl⟩ rfl
theorem g86_1r {x : Int32} {z : sl_R} {a0 a2 : Option sl_V} : sl_Go xs N 86 1 [a0, some (.inr (.inr z)), a2] (.inl x :: st) σ Q ↔ sl_Go xs N 86 2 [a0, some (.inr (.inr z)), some (.inl x)] st σ Q := gk_istore rfl ⟨Nat.le_of_ble_eq_true rfl, rfl⟩ rfl
theorem g86_2 {x : Int32} {a0 a1 : Option sl_V} : sl_Go xs N 86 2 [a0, a1, some (.inl x)] st σ Q ↔ sl_Go xs N 86 3 [a0, a1, some (.inl x)] (.inl x :: st) σ Q := gk_iload rfl rfl
theorem g86_3 {x : sl_R} {a1 a2 : Option sl_V} : sl_Go xs N 86 3 [some (.inr (.inr x)), a1, a2] st σ Q ↔ sl_Go xs N 86 4 [some (.inr (.inr x)), a1, a2] (.inr (.inr x) :: st) σ Q := gk_aload rfl rfl
theorem g86_4 {L : sl_L} {i t : Nat} : sl_Go xs N 86 4 L (.inr (.inr (30, i, t)) :: st) σ Q ↔ sl_Go xs N 86 7 L (.inl (σ 7 12 t) :: st) σ Q := gk_get (g := .inl (7, 12, t)) rfl rfl rfl
theorem g86_7 {L : sl_L} {x y : Int32} : sl_Go xs N 86 7 L (.inl y :: .inl x :: st) σ Q ↔ (y ≤ x → sl_Go xs N 86 31 L st σ Q) ∧ (¬ y ≤ x → sl_Go xs N 86 10 L st σ Q) := gk_ige rfl
theorem g86_10 {x : sl_R} {a0 a2 : Option sl_V} : sl_Go xs N 86 10 [a0, some (.inr (.inr x)), a2] st σ Q ↔ sl_Go xs N 86 11 [a0, some (.inr (.inr x)), a2] (.inr (.inr x) :: st) σ Q := gk_aload rfl rfl
theorem g86_11 {x : sl_R} {a1 a2 : Option sl_V} : sl_Go xs N 86 11 [some (.inr (.inr x)), a1, a2] st σ Q ↔ sl_Go xs N 86 12 [some (.inr (.inr x)), a1, a2] (.inr (.inr x) :: st) σ Q := gk_aload rfl rfl
theorem g86_12 {L : sl_L} {i t : Nat} : sl_Go xs N 86 12 L (.inr (.inr (30, i, t)) :: st) σ Q ↔ sl_Go xs N 86 15 L (.inr (.inr (31, 0, t)) :: st) σ Q := gk_get (g := .inr (31, 0, t)) rfl rfl rfl
theorem g86_15 {x : Int32} {a0 a1 : Option sl_V} : sl_Go xs N 86 15 [a0, a1, some (.inl x)] st σ Q ↔ sl_Go xs N 86 16 [a0, a1, some (.inl x)] (.inl x :: st) σ Q := gk_iload rfl rfl
theorem g86_16 {L : sl_L} {j : Int32} {r : sl_R} : sl_Go xs N 86 16 L (.inl j :: .inr (.inr r) :: st) σ Q ↔ (0 ≤ j.toInt ∧ j.toInt < sl_ilen N r) ∧ sl_Go xs N 86 17 L (.inl (sl_rd xs σ r j.toNatClampNeg) :: st) σ Q := gk_iald rfl
theorem g86_17 {L : sl_L} {x0 : Int32} {i t : Nat} : sl_Go xs N 86 17 L (.inl x0 :: .inr (.inr (13, i, t)) :: st) σ Q ↔ sl_cw st ≤ 8 ∧ sl_Go xs N 34 0 [some (.inr (.inr (13, i, t))), some (.inl x0)] [] σ (fun r τ => sl_Go xs N 86 20 L (r.toList ++ st) τ Q) := gk_call rfl (Nat.le_add_left 2 st.length) rfl rfl rfl rfl (Nat.le_of_ble_eq_true rfl)
theorem g86_20 {L : sl_L} {x : Int32} : sl_Go xs N 86 20 L (.inl x :: st) σ Q ↔ (¬ x = 0 → sl_Go xs N 86 25 L st σ Q) ∧ (x = 0 → sl_Go xs N 86 23 L st σ Q) := gk_zne rfl
theorem g86_23 {L : sl_L} : sl_Go xs N 86 23 L st σ Q ↔ sl_Go xs N 86 24 L (.inl 0 :: st) σ Q := gk_const rfl
theorem g86_24 {L : sl_L} {x : Int32} : sl_Go xs N 86 24 L [.inl x] σ Q ↔ (x = 0 ∨ x = 1) ∧ Q (some (.inl x)) σ := gk_zret rfl
theorem g86_25n {x : Int32} {a0 : Option sl_V} : sl_Go xs N 86 25 [a0, none, some (.inl x)] st σ Q ↔ sl_Go xs N 86 28 [a0, none, some (.inl (x + 1))] st σ Q := gk_iinc rfl rfl rfl rfl
theorem g86_25i {x : Int32} {z : Int32} {a0 : Option sl_V} : sl_Go xs N 86 25 [a0, some (.inl z), some (.inl x)] st σ Q ↔ sl_Go xs N 86 28 [a0, some (.inl z), some (.inl (x + 1))] st σ Q := gk_iinc rfl rfl rfl rfl
theorem g86_25r {x : Int32} {z : sl_R} {a0 : Option sl_V} : sl_Go xs N 86 25 [a0, some (.inr (.inr z)), some (.inl x)] st σ Q ↔ sl_Go xs N 86 28 [a0, some (.inr (.inr z)), some (.inl (x + 1))] st σ Q := gk_iinc rfl rfl rfl rfl
theorem g86_28 {L : sl_L} : sl_Go xs N 86 28 L st σ Q ↔ sl_Go xs N 86 2 L st σ Q := gk_goto rfl
theorem g86_31 {L : sl_L} : sl_Go xs N 86 31 L st σ Q ↔ sl_Go xs N 86 32 L (.inl 1 :: st) σ Q := gk_const rfl
theorem g86_32 {L : sl_L} {x : Int32} : sl_Go xs N 86 32 L [.inl x] σ Q ↔ (x = 0 ∨ x = 1) ∧ Q (some (.inl x)) σ := gk_zret rfl
theorem g87_0 {x : sl_R} {a0 a2 a3 a4 a5 a6 a7 a8 : Option sl_V} : sl_Go xs N 87 0 [a0, some (.inr (.inr x)), a2, a3, a4, a5, a6, a7, a8] st σ Q ↔ sl_Go xs N 87 1 [a0, some (.inr (.inr x)), a2, a3, a4, a5, a6, a7, a8] (.inr (.inr x) :: st) σ Q := gk_aload rfl rfl
theorem g87_1 {L : sl_L} {i t : Nat} : sl_Go xs N 87 1 L (.inr (.inr (13, i, t)) :: st) σ Q ↔ sl_Go xs N 87 4 L (.inl (σ 5 5 t) :: st) σ Q := gk_get (g := .inl (5, 5, t)) rfl rfl rfl
theorem g87_4n {x : Int32} {a0 a1 a2 a3 a5 a6 a7 a8 : Option sl_V} : sl_Go xs N 87 4 [a0, a1, a2, a3, none, a5, a6, a7, a8] (.inl x :: st) σ Q ↔ sl_Go xs N 87 6 [a0, a1, a2, a3, none, some (.inl x), a6, a7, a8] st σ Q := gk_istore rfl ⟨Nat.le_of_ble_eq_true rfl, rfl⟩ rfl
theorem g87_4i {x : Int32} {z : Int32} {a0 a1 a2 a3 a5 a6 a7 a8 : Option sl_V} : sl_Go xs N 87 4 [a0, a1, a2, a3, some (.inl z), a5, a6, a7, a8] (.inl x :: st) σ Q ↔ sl_Go xs N 87 6 [a0, a1, a2, a3, some (.inl z), some (.inl x), a6, a7, a8] st σ Q := gk_istore rfl ⟨Nat.le_of_ble_eq_true rfl, rfl⟩ rfl
theorem g87_4r {x : Int32} {z : sl_R} {a0 a1 a2 a3 a5 a6 a7 a8 : Option sl_V} : sl_Go xs N 87 4 [a0, a1, a2, a3, some (.inr (.inr z)), a5, a6, a7, a8] (.inl x :: st) σ Q ↔ sl_Go xs N 87 6 [a0, a1, a2, a3, some (.inr (.inr z)), some (.inl x), a6, a7, a8] st σ Q := gk_istore rfl ⟨Nat.le_of_ble_eq_true rfl, rfl⟩ rfl
theorem g87_6 {x : Int32} {a0 a1 a2 a3 a4 a6 a7 a8 : Option sl_V} : sl_Go xs N 87 6 [a0, a1, a2, a3, a4, some (.inl x), a6, a7, a8] st σ Q ↔ sl_Go xs N 87 8 [a0, a1, a2, a3, a4, some (.inl x), a6, a7, a8] (.inl x :: st) σ Q := gk_iload rfl rfl
theorem g87_8 {x : sl_R} {a0 a1 a3 a4 a5 a6 a7 a8 : Option sl_V} : sl_Go xs N 87 8 [a0, a1, some (.inr (.inr x)), a3, a4, a5, a6, a7, a8] st σ Q ↔ sl_Go xs N 87 9 [a0, a1, some (.inr (.inr x)), a3, a4, a5, a6, a7, a8] (.inr (.inr x) :: st) σ Q := gk_aload rfl rfl
theorem g87_9 {L : sl_L} : sl_Go xs N 87 9 L st σ Q ↔ sl_Go xs N 87 10 L (.inl (-1) :: st) σ Q := gk_const rfl
theorem g87_10 {L : sl_L} {x0 : sl_R} {x1 : Int32} : sl_Go xs N 87 10 L (.inl x1 :: .inr (.inr x0) :: st) σ Q ↔ sl_cw st ≤ 8 ∧ sl_Go xs N 88 0 [some (.inr (.inr x0)), some (.inl x1), none, none] [] σ (fun r τ => sl_Go xs N 87 13 L (r.toList ++ st) τ Q) := gk_call rfl (Nat.le_add_left 2 st.length) rfl rfl rfl rfl (Nat.le_of_ble_eq_true rfl)
theorem g87_13 {L : sl_L} : sl_Go xs N 87 13 L st σ Q ↔ sl_Go xs N 87 14 L (.inl (-1) :: st) σ Q := gk_const rfl
theorem g87_14 {L : sl_L} {x y : Int32} : sl_Go xs N 87 14 L (.inl y :: .inl x :: st) σ Q ↔ sl_Go xs N 87 15 L (.inl (x ^^^ y) :: st) σ Q := gk_bin (b := 13) rfl
theorem g87_15 {L : sl_L} {x y : Int32} : sl_Go xs N 87 15 L (.inl y :: .inl x :: st) σ Q ↔ sl_Go xs N 87 16 L (.inl (x &&& y) :: st) σ Q := gk_bin (b := 11) rfl
theorem g87_16n {x : Int32} {a0 a1 a2 a3 a4 a6 a7 a8 : Option sl_V} : sl_Go xs N 87 16 [a0, a1, a2, a3, a4, none, a6, a7, a8] (.inl x :: st) σ Q ↔ sl_Go xs N 87 18 [a0, a1, a2, a3, a4, none, some (.inl x), a7, a8] st σ Q := gk_istore rfl ⟨Nat.le_of_ble_eq_true rfl, rfl⟩ rfl
theorem g87_16i {x : Int32} {z : Int32} {a0 a1 a2 a3 a4 a6 a7 a8 : Option sl_V} : sl_Go xs N 87 16 [a0, a1, a2, a3, a4, some (.inl z), a6, a7, a8] (.inl x :: st) σ Q ↔ sl_Go xs N 87 18 [a0, a1, a2, a3, a4, some (.inl z), some (.inl x), a7, a8] st σ Q := gk_istore rfl ⟨Nat.le_of_ble_eq_true rfl, rfl⟩ rfl
theorem g87_16r {x : Int32} {z : sl_R} {a0 a1 a2 a3 a4 a6 a7 a8 : Option sl_V} : sl_Go xs N 87 16 [a0, a1, a2, a3, a4, some (.inr (.inr z)), a6, a7, a8] (.inl x :: st) σ Q ↔ sl_Go xs N 87 18 [a0, a1, a2, a3, a4, some (.inr (.inr z)), some (.inl x), a7, a8] st σ Q := gk_istore rfl ⟨Nat.le_of_ble_eq_true rfl, rfl⟩ rfl
theorem g87_18 {L : sl_L} : sl_Go xs N 87 18 L st σ Q ↔ sl_Go xs N 87 19 L (.inl (-1) :: st) σ Q := gk_const rfl
theorem g87_19n {x : Int32} {a0 a1 a2 a3 a4 a5 a7 a8 : Option sl_V} : sl_Go xs N 87 19 [a0, a1, a2, a3, a4, a5, none, a7, a8] (.inl x :: st) σ Q ↔ sl_Go xs N 87 21 [a0, a1, a2, a3, a4, a5, none, some (.inl x), a8] st σ Q := gk_istore rfl ⟨Nat.le_of_ble_eq_true rfl, rfl⟩ rfl
theorem g87_19i {x : Int32} {z : Int32} {a0 a1 a2 a3 a4 a5 a7 a8 : Option sl_V} : sl_Go xs N 87 19 [a0, a1, a2, a3, a4, a5, some (.inl z), a7, a8] (.inl x :: st) σ Q ↔ sl_Go xs N 87 21 [a0, a1, a2, a3, a4, a5, some (.inl z), some (.inl x), a8] st σ Q := gk_istore rfl ⟨Nat.le_of_ble_eq_true rfl, rfl⟩ rfl
theorem g87_19r {x : Int32} {z : sl_R} {a0 a1 a2 a3 a4 a5 a7 a8 : Option sl_V} : sl_Go xs N 87 19 [a0, a1, a2, a3, a4, a5, some (.inr (.inr z)), a7, a8] (.inl x :: st) σ Q ↔ sl_Go xs N 87 21 [a0, a1, a2, a3, a4, a5, some (.inr (.inr z)), some (.inl x), a8] st σ Q := gk_istore rfl ⟨Nat.le_of_ble_eq_true rfl, rfl⟩ rfl
theorem g87_21 {L : sl_L} : sl_Go xs N 87 21 L st σ Q ↔ sl_Go xs N 87 22 L (.inl 0 :: st) σ Q := gk_const rfl
theorem g87_22n {x : Int32} {a0 a1 a2 a3 a4 a5 a6 a8 : Option sl_V} : sl_Go xs N 87 22 [a0, a1, a2, a3, a4, a5, a6, none, a8] (.inl x :: st) σ Q ↔ sl_Go xs N 87 24 [a0, a1, a2, a3, a4, a5, a6, none, some (.inl x)] st σ Q := gk_istore rfl ⟨Nat.le_of_ble_eq_true rfl, rfl⟩ rfl
theorem g87_22i {x : Int32} {z : Int32} {a0 a1 a2 a3 a4 a5 a6 a8 : Option sl_V} : sl_Go xs N 87 22 [a0, a1, a2, a3, a4, a5, a6, some (.inl z), a8] (.inl x :: st) σ Q ↔ sl_Go xs N 87 24 [a0, a1, a2, a3, a4, a5, a6, some (.inl z), some (.inl x)] st σ Q := gk_istore rfl ⟨Nat.le_of_ble_eq_true rfl, rfl⟩ rfl
theorem g87_22r {x : Int32} {z : sl_R} {a0 a1 a2 a3 a4 a5 a6 a8 : Option sl_V} : sl_Go xs N 87 22 [a0, a1, a2, a3, a4, a5, a6, some (.inr (.inr z)), a8] (.inl x :: st) σ Q ↔ sl_Go xs N 87 24 [a0, a1, a2, a3, a4, a5, a6, some (.inr (.inr z)), some (.inl x)] st σ Q := gk_istore rfl ⟨Nat.le_of_ble_eq_true rfl, rfl⟩ rfl
theorem g87_24 {x : Int32} {a0 a1 a2 a3 a4 a5 a6 a7 : Option sl_V} : sl_Go xs N 87 24 [a0, a1, a2, a3, a4, a5, a6, a7, some (.inl x)] st σ Q ↔ sl_Go xs N 87 26 [a0, a1, a2, a3, a4, a5, a6, a7, some (.inl x)] (.inl x :: st) σ Q := gk_iload rfl rfl
theorem g87_26 {L : sl_L} : sl_Go xs N 87 26 L st σ Q ↔ sl_Go xs N 87 27 L (.inl 1 :: st) σ Q := gk_const rfl
theorem g87_27 {x : sl_R} {a0 a1 a3 a4 a5 a6 a7 a8 : Option sl_V} : sl_Go xs N 87 27 [a0, a1, some (.inr (.inr x)), a3, a4, a5, a6, a7, a8] st σ Q ↔ sl_Go xs N 87 28 [a0, a1, some (.inr (.inr x)), a3, a4, a5, a6, a7, a8] (.inr (.inr x) :: st) σ Q := gk_aload rfl rfl
theorem g87_28 {L : sl_L} {i t : Nat} : sl_Go xs N 87 28 L (.inr (.inr (30, i, t)) :: st) σ Q ↔ sl_Go xs N 87 31 L (.inl (σ 7 12 t) :: st) σ Q := gk_get (g := .inl (7, 12, t)) rfl rfl rfl
theorem g87_31 {L : sl_L} {x y : Int32} : sl_Go xs N 87 31 L (.inl y :: .inl x :: st) σ Q ↔ sl_Go xs N 87 32 L (.inl (x <<< (y &&& 31)) :: st) σ Q := gk_bin (b := 14) rfl
theorem g87_32 {L : sl_L} {x y : Int32} : sl_Go xs N 87 32 L (.inl y :: .inl x :: st) σ Q ↔ (y ≤ x → sl_Go xs N 87 142 L st σ Q) ∧ (¬ y ≤ x → sl_Go xs N 87 35 L st σ Q) := gk_ige rfl
theorem g87_35 {x : Int32} {a0 a1 a2 a3 a4 a5 a6 a7 : Option sl_V} : sl_Go xs N 87 35 [a0, a1, a2, a3, a4, a5, a6, a7, some (.inl x)] st σ Q ↔ sl_Go xs N 87 37 [a0, a1, a2, a3, a4, a5, a6, a7, some (.inl x)] (.inl x :: st) σ Q := gk_iload rfl rfl
theorem g87_37 {L : sl_L} {x0 : Int32} : sl_Go xs N 87 37 L (.inl x0 :: st) σ Q ↔ sl_cw st ≤ 8 ∧ sl_Go xs N 158 0 [some (.inl x0)] [] σ (fun r τ => sl_Go xs N 87 40 L (r.toList ++ st) τ Q) := gk_call rfl (Nat.le_add_left 1 st.length) rfl rfl rfl rfl (Nat.le_of_ble_eq_true rfl)
theorem g87_40 {x : Int32} {a0 a1 a2 a3 a5 a6 a7 a8 : Option sl_V} : sl_Go xs N 87 40 [a0, a1, a2, a3, some (.inl x), a5, a6, a7, a8] st σ Q ↔ sl_Go xs N 87 42 [a0, a1, a2, a3, some (.inl x), a5, a6, a7, a8] (.inl x :: st) σ Q := gk_iload rfl rfl
theorem g87_42 {L : sl_L} {x y : Int32} : sl_Go xs N 87 42 L (.inl y :: .inl x :: st) σ Q ↔ (x ≤ y → sl_Go xs N 87 48 L st σ Q) ∧ (¬ x ≤ y → sl_Go xs N 87 45 L st σ Q) := gk_ile rfl
theorem g87_45 {L : sl_L} : sl_Go xs N 87 45 L st σ Q ↔ sl_Go xs N 87 136 L st σ Q := gk_goto rfl
theorem g87_48 {x : sl_R} {a0 a2 a3 a4 a5 a6 a7 a8 : Option sl_V} : sl_Go xs N 87 48 [a0, some (.inr (.inr x)), a2, a3, a4, a5, a6, a7, a8] st σ Q ↔ sl_Go xs N 87 49 [a0, some (.inr (.inr x)), a2, a3, a4, a5, a6, a7, a8] (.inr (.inr x) :: st) σ Q := gk_aload rfl rfl
theorem g87_49 {x : Int32} {a0 a1 a2 a3 a4 a5 a7 a8 : Option sl_V} : sl_Go xs N 87 49 [a0, a1, a2, a3, a4, a5, some (.inl x), a7, a8] st σ Q ↔ sl_Go xs N 87 51 [a0, a1, a2, a3, a4, a5, some (.inl x), a7, a8] (.inl x :: st) σ Q := gk_iload rfl rfl
theorem g87_51 {x : sl_R} {a0 a1 a3 a4 a5 a6 a7 a8 : Option sl_V} : sl_Go xs N 87 51 [a0, a1, some (.inr (.inr x)), a3, a4, a5, a6, a7, a8] st σ Q ↔ sl_Go xs N 87 52 [a0, a1, some (.inr (.inr x)), a3, a4, a5, a6, a7, a8] (.inr (.inr x) :: st) σ Q := gk_aload rfl rfl
theorem g87_52 {x : Int32} {a0 a1 a2 a3 a4 a5 a6 a7 : Option sl_V} : sl_Go xs N 87 52 [a0, a1, a2, a3, a4, a5, a6, a7, some (.inl x)] st σ Q ↔ sl_Go xs N 87 54 [a0, a1, a2, a3, a4, a5, a6, a7, some (.inl x)] (.inl x :: st) σ Q := gk_iload rfl rfl
theorem g87_54 {L : sl_L} {x0 : sl_R} {x1 : Int32} : sl_Go xs N 87 54 L (.inl x1 :: .inr (.inr x0) :: st) σ Q ↔ sl_cw st ≤ 8 ∧ sl_Go xs N 88 0 [some (.inr (.inr x0)), some (.inl x1), none, none] [] σ (fun r τ => sl_Go xs N 87 57 L (r.toList ++ st) τ Q) := gk_call rfl (Nat.le_add_left 2 st.length) rfl rfl rfl rfl (Nat.le_of_ble_eq_true rfl)
theorem g87_57 {L : sl_L} {x y : Int32} : sl_Go xs N 87 57 L (.inl y :: .inl x :: st) σ Q ↔ sl_Go xs N 87 58 L (.inl (x ||| y) :: st) σ Q := gk_bin (b := 12) rfl
theorem g87_58 {L : sl_L} {x : Int32} {i t : Nat} : sl_Go xs N 87 58 L (.inl x :: .inr (.inr (13, i, t)) :: st) σ Q ↔ sl_Go xs N 87 61 L st (sl_up σ 5 5 t x) Q := gk_put0 (q := (5, 5, t)) rfl rfl rfl
theorem g87_61 {x : sl_R} {a1 a2 a3 a4 a5 a6 a7 a8 : Option sl_V} : sl_Go xs N 87 61 [some (.inr (.inr x)), a1, a2, a3, a4, a5, a6, a7, a8] st σ Q ↔ sl_Go xs N 87 62 [some (.inr (.inr x)), a1, a2, a3, a4, a5, a6, a7, a8] (.inr (.inr x) :: st) σ Q := gk_aload rfl rfl
theorem g87_62 {x : Int32} {a0 a1 a2 a4 a5 a6 a7 a8 : Option sl_V} : sl_Go xs N 87 62 [a0, a1, a2, some (.inl x), a4, a5, a6, a7, a8] st σ Q ↔ sl_Go xs N 87 63 [a0, a1, a2, some (.inl x), a4, a5, a6, a7, a8] (.inl x :: st) σ Q := gk_iload rfl rfl
theorem g87_63 {L : sl_L} {x0 : Int32} {i t : Nat} : sl_Go xs N 87 63 L (.inl x0 :: .inr (.inr (0, i, t)) :: st) σ Q ↔ sl_cw st ≤ 8 ∧ sl_Go xs N 85 0 [some (.inr (.inr (0, i, t))), some (.inl x0)] [] σ (fun r τ => sl_Go xs N 87 66 L (r.toList ++ st) τ Q) := gk_call rfl (Nat.le_add_left 2 st.length) rfl rfl rfl rfl (Nat.le_of_ble_eq_true rfl)
theorem g87_66 {x : sl_R} {a1 a2 a3 a4 a5 a6 a7 a8 : Option sl_V} : sl_Go xs N 87 66 [some (.inr (.inr x)), a1, a2, a3, a4, a5, a6, a7, a8] st σ Q ↔ sl_Go xs N 87 67 [some (.inr (.inr x)), a1, a2, a3, a4, a5, a6, a7, a8] (.inr (.inr x) :: st) σ Q := gk_aload rfl rfl
theorem g87_67 {L : sl_L} {i t : Nat} : sl_Go xs N 87 67 L (.inr (.inr (0, i, t)) :: st) σ Q ↔ sl_Go xs N 87 70 L (.inr (.inr (1, 2, 0)) :: st) σ Q := gk_get (g := .inr (1, 2, 0)) rfl rfl rfl
theorem g87_70 {L : sl_L} : sl_Go xs N 87 70 L st σ Q ↔ sl_Go xs N 87 72 L (.inl 60 :: st) σ Q := gk_const rfl
theorem g87_72 {L : sl_L} {x0 : Int32} {i t : Nat} : sl_Go xs N 87 72 L (.inl x0 :: .inr (.inr (1, i, t)) :: st) σ Q ↔ sl_cw st ≤ 8 ∧ sl_Go xs N 14 0 [some (.inr (.inr (1, i, t))), some (.inl x0), none] [] σ (fun r τ => sl_Go xs N 87 75 L (r.toList ++ st) τ Q) := gk_call rfl (Nat.le_add_left 2 st.length) rfl rfl rfl rfl (Nat.le_of_ble_eq_true rfl)
theorem g87_75 {x : Int32} {a0 a1 a2 a3 a4 a5 a6 a8 : Option sl_V} : sl_Go xs N 87 75 [a0, a1, a2, a3, a4, a5, a6, some (.inl x), a8] st σ Q ↔ sl_Go xs N 87 77 [a0, a1, a2, a3, a4, a5, a6, some (.inl x), a8] (.inl x :: st) σ Q := gk_iload rfl rfl
theorem g87_77 {L : sl_L} {x : Int32} : sl_Go xs N 87 77 L (.inl x :: st) σ Q ↔ (x < 0 → sl_Go xs N 87 121 L st σ Q) ∧ (¬ x < 0 → sl_Go xs N 87 80 L st σ Q) := gk_zlt rfl
theorem g87_80 {x : sl_R} {a1 a2 a3 a4 a5 a6 a7 a8 : Option sl_V} : sl_Go xs N 87 80 [some (.inr (.inr x)), a1, a2, a3, a4, a5, a6, a7, a8] st σ Q ↔ sl_Go xs N 87 81 [some (.inr (.inr x)), a1, a2, a3, a4, a5, a6, a7, a8] (.inr (.inr x) :: st) σ Q := gk_aload rfl rfl
theorem g87_81 {L : sl_L} {i t : Nat} : sl_Go xs N 87 81 L (.inr (.inr (0, i, t)) :: st) σ Q ↔ sl_Go xs N 87 84 L (.inr (.inr (1, 2, 0)) :: st) σ Q := gk_get (g := .inr (1, 2, 0)) rfl rfl rfl
theorem g87_84 {L : sl_L} {i t : Nat} : sl_Go xs N 87 84 L (.inr (.inr (1, i, t)) :: st) σ Q ↔ sl_Go xs N 87 87 L (.inl (σ i 8 2) :: st) σ Q := gk_get (g := .inl (i, 8, 2)) rfl rfl rfl
theorem g87_87 {x : sl_R} {a1 a2 a3 a4 a5 a6 a7 a8 : Option sl_V} : sl_Go xs N 87 87 [some (.inr (.inr x)), a1, a2, a3, a4, a5, a6, a7, a8] st σ Q ↔ sl_Go xs N 87 88 [some (.inr (.inr x)), a1, a2, a3, a4, a5, a6, a7, a8] (.inr (.inr x) :: st) σ Q := gk_aload rfl rfl
theorem g87_88 {L : sl_L} {i t : Nat} : sl_Go xs N 87 88 L (.inr (.inr (0, i, t)) :: st) σ Q ↔ sl_Go xs N 87 91 L (.inl (σ 7 0 2) :: st) σ Q := gk_get (g := .inl (7, 0, 2)) rfl rfl rfl
theorem g87_91 {L : sl_L} {x y : Int32} : sl_Go xs N 87 91 L (.inl y :: .inl x :: st) σ Q ↔ (x < y → sl_Go xs N 87 121 L st σ Q) ∧ (¬ x < y → sl_Go xs N 87 94 L st σ Q) := gk_ilt rfl
theorem g87_94 {x : sl_R} {a1 a2 a3 a4 a5 a6 a7 a8 : Option sl_V} : sl_Go xs N 87 94 [some (.inr (.inr x)), a1, a2, a3, a4, a5, a6, a7, a8] st σ Q ↔ sl_Go xs N 87 95 [some (.inr (.inr x)), a1, a2, a3, a4, a5, a6, a7, a8] (.inr (.inr x) :: st) σ Q := gk_aload rfl rfl
theorem g87_95 {L : sl_L} {i t : Nat} : sl_Go xs N 87 95 L (.inr (.inr (0, i, t)) :: st) σ Q ↔ sl_Go xs N 87 98 L (.inr (.inr (1, 2, 0)) :: st) σ Q := gk_get (g := .inr (1, 2, 0)) rfl rfl rfl
theorem g87_98 {L : sl_L} {i t : Nat} : sl_Go xs N 87 98 L (.inr (.inr (1, i, t)) :: st) σ Q ↔ sl_Go xs N 87 101 L (.inl (σ i 8 2) :: st) σ Q := gk_get (g := .inl (i, 8, 2)) rfl rfl rfl
theorem g87_101 {x : sl_R} {a1 a2 a3 a4 a5 a6 a7 a8 : Option sl_V} : sl_Go xs N 87 101 [some (.inr (.inr x)), a1, a2, a3, a4, a5, a6, a7, a8] st σ Q ↔ sl_Go xs N 87 102 [some (.inr (.inr x)), a1, a2, a3, a4, a5, a6, a7, a8] (.inr (.inr x) :: st) σ Q := gk_aload rfl rfl
theorem g87_102 {L : sl_L} {i t : Nat} : sl_Go xs N 87 102 L (.inr (.inr (0, i, t)) :: st) σ Q ↔ sl_Go xs N 87 105 L (.inl (σ 7 0 2) :: st) σ Q := gk_get (g := .inl (7, 0, 2)) rfl rfl rfl
theorem g87_105 {L : sl_L} {x y : Int32} : sl_Go xs N 87 105 L (.inl y :: .inl x :: st) σ Q ↔ (¬ x = y → sl_Go xs N 87 136 L st σ Q) ∧ (x = y → sl_Go xs N 87 108 L st σ Q) := gk_ine rfl
theorem g87_108 {x : Int32} {a0 a1 a2 a3 a4 a5 a6 a7 : Option sl_V} : sl_Go xs N 87 108 [a0, a1, a2, a3, a4, a5, a6, a7, some (.inl x)] st σ Q ↔ sl_Go xs N 87 110 [a0, a1, a2, a3, a4, a5, a6, a7, some (.inl x)] (.inl x :: st) σ Q := gk_iload rfl rfl
theorem g87_110 {L : sl_L} {x0 : Int32} : sl_Go xs N 87 110 L (.inl x0 :: st) σ Q ↔ sl_cw st ≤ 8 ∧ sl_Go xs N 158 0 [some (.inl x0)] [] σ (fun r τ => sl_Go xs N 87 113 L (r.toList ++ st) τ Q) := gk_call rfl (Nat.le_add_left 1 st.length) rfl rfl rfl rfl (Nat.le_of_ble_eq_true rfl)
theorem g87_113 {x : Int32} {a0 a1 a2 a3 a4 a5 a6 a8 : Option sl_V} : sl_Go xs N 87 113 [a0, a1, a2, a3, a4, a5, a6, some (.inl x), a8] st σ Q ↔ sl_Go xs N 87 115 [a0, a1, a2, a3, a4, a5, a6, some (.inl x), a8] (.inl x :: st) σ Q := gk_iload rfl rfl
theorem g87_115 {L : sl_L} {x0 : Int32} : sl_Go xs N 87 115 L (.inl x0 :: st) σ Q ↔ sl_cw st ≤ 8 ∧ sl_Go xs N 158 0 [some (.inl x0)] [] σ (fun r τ => sl_Go xs N 87 118 L (r.toList ++ st) τ Q) := gk_call rfl (Nat.le_add_left 1 st.length) rfl rfl rfl rfl (Nat.le_of_ble_eq_true rfl)
theorem g87_118 {L : sl_L} {x y : Int32} : sl_Go xs N 87 118 L (.inl y :: .inl x :: st) σ Q ↔ (y ≤ x → sl_Go xs N 87 136 L st σ Q) ∧ (¬ y ≤ x → sl_Go xs N 87 121 L st σ Q) := gk_ige rfl
theorem g87_121 {x : Int32} {a0 a1 a2 a3 a4 a5 a6 a7 : Option sl_V} : sl_Go xs N 87 121 [a0, a1, a2, a3, a4, a5, a6, a7, some (.inl x)] st σ Q ↔ sl_Go xs N 87 123 [a0, a1, a2, a3, a4, a5, a6, a7, some (.inl x)] (.inl x :: st) σ Q := gk_iload rfl rfl
theorem g87_123n {x : Int32} {a0 a1 a2 a3 a4 a5 a7 a8 : Option sl_V} : sl_Go xs N 87 123 [a0, a1, a2, a3, a4, a5, none, a7, a8] (.inl x :: st) σ Q ↔ sl_Go xs N 87 125 [a0, a1, a2, a3, a4, a5, none, some (.inl x), a8] st σ Q := gk_istore rfl ⟨Nat.le_of_ble_eq_true rfl, rfl⟩ rfl
theorem g87_123i {x : Int32} {z : Int32} {a0 a1 a2 a3 a4 a5 a7 a8 : Option sl_V} : sl_Go xs N 87 123 [a0, a1, a2, a3, a4, a5, some (.inl z), a7, a8] (.inl x :: st) σ Q ↔ sl_Go xs N 87 125 [a0, a1, a2, a3, a4, a5, some (.inl z), some (.inl x), a8] st σ Q := gk_istore rfl ⟨Nat.le_of_ble_eq_true rfl, rfl⟩ rfl
theorem g87_123r {x : Int32} {z : sl_R} {a0 a1 a2 a3 a4 a5 a7 a8 : Option sl_V} : sl_Go xs N 87 123 [a0, a1, a2, a3, a4, a5, some (.inr (.inr z)), a7, a8] (.inl x :: st) σ Q ↔ sl_Go xs N 87 125 [a0, a1, a2, a3, a4, a5, some (.inr (.inr z)), some (.inl x), a8] st σ Q := gk_istore rfl ⟨Nat.le_of_ble_eq_true rfl, rfl⟩ rfl
theorem g87_125 {x : sl_R} {a1 a2 a3 a4 a5 a6 a7 a8 : Option sl_V} : sl_Go xs N 87 125 [some (.inr (.inr x)), a1, a2, a3, a4, a5, a6, a7, a8] st σ Q ↔ sl_Go xs N 87 126 [some (.inr (.inr x)), a1, a2, a3, a4, a5, a6, a7, a8] (.inr (.inr x) :: st) σ Q := gk_aload rfl rfl
theorem g87_126 {x : sl_R} {a1 a2 a3 a4 a5 a6 a7 a8 : Option sl_V} : sl_Go xs N 87 126 [some (.inr (.inr x)), a1, a2, a3, a4, a5, a6, a7, a8] st σ Q ↔ sl_Go xs N 87 127 [some (.inr (.inr x)), a1, a2, a3, a4, a5, a6, a7, a8] (.inr (.inr x) :: st) σ Q := gk_aload rfl rfl
theorem g87_127 {L : sl_L} {i t : Nat} : sl_Go xs N 87 127 L (.inr (.inr (0, i, t)) :: st) σ Q ↔ sl_Go xs N 87 130 L (.inr (.inr (1, 2, 0)) :: st) σ Q := gk_get (g := .inr (1, 2, 0)) rfl rfl rfl
theorem g87_130 {L : sl_L} {i t : Nat} : sl_Go xs N 87 130 L (.inr (.inr (1, i, t)) :: st) σ Q ↔ sl_Go xs N 87 133 L (.inl (σ i 8 2) :: st) σ Q := gk_get (g := .inl (i, 8, 2)) rfl rfl rfl
theorem g87_133 {L : sl_L} {x : Int32} {i t : Nat} : sl_Go xs N 87 133 L (.inl x :: .inr (.inr (0, i, t)) :: st) σ Q ↔ sl_Go xs N 87 136 L st (sl_up σ 7 0 2 x) Q := gk_put0 (q := (7, 0, 2)) rfl rfl rfl
theorem g87_136n {x : Int32} {a0 a1 a2 a3 a4 a5 a6 : Option sl_V} : sl_Go xs N 87 136 [a0, a1, a2, a3, a4, a5, a6, none, some (.inl x)] st σ Q ↔ sl_Go xs N 87 139 [a0, a1, a2, a3, a4, a5, a6, none, some (.inl (x + 1))] st σ Q := gk_iinc rfl rfl rfl rfl
theorem g87_136i {x : Int32} {z : Int32} {a0 a1 a2 a3 a4 a5 a6 : Option sl_V} : sl_Go xs N 87 136 [a0, a1, a2, a3, a4, a5, a6, some (.inl z), some (.inl x)] st σ Q ↔ sl_Go xs N 87 139 [a0, a1, a2, a3, a4, a5, a6, some (.inl z), some (.inl (x + 1))] st σ Q := gk_iinc rfl rfl rfl rfl
theorem g87_136r {x : Int32} {z : sl_R} {a0 a1 a2 a3 a4 a5 a6 : Option sl_V} : sl_Go xs N 87 136 [a0, a1, a2, a3, a4, a5, a6, some (.inr (.inr z)), some (.inl x)] st σ Q ↔ sl_Go xs N 87 139 [a0, a1, a2, a3, a4, a5, a6, some (.inr (.inr z)), some (.inl (x + 1))] st σ Q := gk_iinc rfl rfl rfl rfl
theorem g87_139 {L : sl_L} : sl_Go xs N 87 139 L st σ Q ↔ sl_Go xs N 87 24 L st σ Q := gk_goto rfl
theorem g87_142 {x : sl_R} {a0 a2 a3 a4 a5 a6 a7 a8 : Option sl_V} : sl_Go xs N 87 142 [a0, some (.inr (.inr x)), a2, a3, a4, a5, a6, a7, a8] st σ Q ↔ sl_Go xs N 87 143 [a0, some (.inr (.inr x)), a2, a3, a4, a5, a6, a7, a8] (.inr (.inr x) :: st) σ Q := gk_aload rfl rfl
theorem g87_143 {x : Int32} {a0 a1 a2 a3 a4 a6 a7 a8 : Option sl_V} : sl_Go xs N 87 143 [a0, a1, a2, a3, a4, some (.inl x), a6, a7, a8] st σ Q ↔ sl_Go xs N 87 145 [a0, a1, a2, a3, a4, some (.inl x), a6, a7, a8] (.inl x :: st) σ Q := gk_iload rfl rfl
theorem g87_145 {L : sl_L} {x : Int32} {i t : Nat} : sl_Go xs N 87 145 L (.inl x :: .inr (.inr (13, i, t)) :: st) σ Q ↔ sl_Go xs N 87 148 L st (sl_up σ 5 5 t x) Q := gk_put0 (q := (5, 5, t)) rfl rfl rfl
theorem g87_148 {x : Int32} {a0 a1 a2 a3 a4 a5 a6 a8 : Option sl_V} : sl_Go xs N 87 148 [a0, a1, a2, a3, a4, a5, a6, some (.inl x), a8] st σ Q ↔ sl_Go xs N 87 150 [a0, a1, a2, a3, a4, a5, a6, some (.inl x), a8] (.inl x :: st) σ Q := gk_iload rfl rfl
theorem g87_150 {L : sl_L} {x : Int32} : sl_Go xs N 87 150 L [.inl x] σ Q ↔ Q (some (.inl x)) σ := gk_iret rfl
theorem g88_0 {L : sl_L} : sl_Go xs N 88 0 L st σ Q ↔ sl_Go xs N 88 1 L (.inl 0 :: st) σ Q := gk_const rfl
theorem g88_1n {x : Int32} {a0 a2 a3 : Option sl_V} : sl_Go xs N 88 1 [a0, none, a2, a3] (.inl x :: st) σ Q ↔ sl_Go xs N 88 2 [a0, none, some (.inl x), a3] st σ Q := gk_istore rfl ⟨Nat.le_of_ble_eq_true rfl, rfl⟩ rfl
theorem g88_1i {x : Int32} {z : Int32} {a0 a2 a3 : Option sl_V} : sl_Go xs N 88 1 [a0, some (.inl z), a2, a3] (.inl x :: st) σ Q ↔ sl_Go xs N 88 2 [a0, some (.inl z), some (.inl x), a3] st σ Q := gk_istore rfl ⟨Nat.le_of_ble_eq_true rfl, rfl⟩ rfl
theorem g88_1r {x : Int32} {z : sl_R} {a0 a2 a3 : Option sl_V} : sl_Go xs N 88 1 [a0, some (.inr (.inr z)), a2, a3] (.inl x :: st) σ Q ↔ sl_Go xs N 88 2 [a0, some (.inr (.inr z)), some (.inl x), a3] st σ Q := gk_istore rfl ⟨Nat.le_of_ble_eq_true rfl, rfl⟩ rfl
theorem g88_2 {L : sl_L} : sl_Go xs N 88 2 L st σ Q ↔ sl_Go xs N 88 3 L (.inl 0 :: st) σ Q := gk_const rfl
theorem g88_3n {x : Int32} {a0 a1 a3 : Option sl_V} : sl_Go xs N 88 3 [a0, a1, none, a3] (.inl x :: st) σ Q ↔ sl_Go xs N 88 4 [a0, a1, none, some (.inl x)] st σ Q := gk_istore rfl ⟨Nat.le_of_ble_eq_true rfl, rfl⟩ rfl
theorem g88_3i {x : Int32} {z : Int32} {a0 a1 a3 : Option sl_V} : sl_Go xs N 88 3 [a0, a1, some (.inl z), a3] (.inl x :: st) σ Q ↔ sl_Go xs N 88 4 [a0, a1, some (.inl z), some (.inl x)] st σ Q := gk_istore rfl ⟨Nat.le_of_ble_eq_true rfl, rfl⟩ rfl
theorem g88_3r {x : Int32} {z : sl_R} {a0 a1 a3 : Option sl_V} : sl_Go xs N 88 3 [a0, a1, some (.inr (.inr z)), a3] (.inl x :: st) σ Q ↔ sl_Go xs N 88 4 [a0, a1, some (.inr (.inr z)), some (.inl x)] st σ Q := gk_istore rfl ⟨Nat.le_of_ble_eq_true rfl, rfl⟩ rfl
theorem g88_4 {x : Int32} {a0 a1 a2 : Option sl_V} : sl_Go xs N 88 4 [a0, a1, a2, some (.inl x)] st σ Q ↔ sl_Go xs N 88 5 [a0, a1, a2, some (.inl x)] (.inl x :: st) σ Q := gk_iload rfl rfl
theorem g88_5 {x : sl_R} {a1 a2 a3 : Option sl_V} : sl_Go xs N 88 5 [some (.inr (.inr x)), a1, a2, a3] st σ Q ↔ sl_Go xs N 88 6 [some (.inr (.inr x)), a1, a2, a3] (.inr (.inr x) :: st) σ Q := gk_aload rfl rfl
theorem g88_6 {L : sl_L} {i t : Nat} : sl_Go xs N 88 6 L (.inr (.inr (30, i, t)) :: st) σ Q ↔ sl_Go xs N 88 9 L (.inl (σ 7 12 t) :: st) σ Q := gk_get (g := .inl (7, 12, t)) rfl rfl rfl
theorem g88_9 {L : sl_L} {x y : Int32} : sl_Go xs N 88 9 L (.inl y :: .inl x :: st) σ Q ↔ (y ≤ x → sl_Go xs N 88 37 L st σ Q) ∧ (¬ y ≤ x → sl_Go xs N 88 12 L st σ Q) := gk_ige rfl
theorem g88_12 {x : Int32} {a0 a2 a3 : Option sl_V} : sl_Go xs N 88 12 [a0, some (.inl x), a2, a3] st σ Q ↔ sl_Go xs N 88 13 [a0, some (.inl x), a2, a3] (.inl x :: st) σ Q := gk_iload rfl rfl
theorem g88_13 {x : Int32} {a0 a1 a2 : Option sl_V} : sl_Go xs N 88 13 [a0, a1, a2, some (.inl x)] st σ Q ↔ sl_Go xs N 88 14 [a0, a1, a2, some (.inl x)] (.inl x :: st) σ Q := gk_iload rfl rfl
theorem g88_14 {L : sl_L} {x y : Int32} : sl_Go xs N 88 14 L (.inl y :: .inl x :: st) σ Q ↔ sl_Go xs N 88 15 L (.inl (x >>> (y &&& 31)) :: st) σ Q := gk_bin (b := 15) rfl
theorem g88_15 {L : sl_L} : sl_Go xs N 88 15 L st σ Q ↔ sl_Go xs N 88 16 L (.inl 1 :: st) σ Q := gk_const rfl
theorem g88_16 {L : sl_L} {x y : Int32} : sl_Go xs N 88 16 L (.inl y :: .inl x :: st) σ Q ↔ sl_Go xs N 88 17 L (.inl (x &&& y) :: st) σ Q := gk_bin (b := 11) rfl
theorem g88_17 {L : sl_L} {x : Int32} : sl_Go xs N 88 17 L (.inl x :: st) σ Q ↔ (x = 0 → sl_Go xs N 88 31 L st σ Q) ∧ (¬ x = 0 → sl_Go xs N 88 20 L st σ Q) := gk_zeq rfl
theorem g88_20 {x : Int32} {a0 a1 a3 : Option sl_V} : sl_Go xs N 88 20 [a0, a1, some (.inl x), a3] st σ Q ↔ sl_Go xs N 88 21 [a0, a1, some (.inl x), a3] (.inl x :: st) σ Q := gk_iload rfl rfl
theorem g88_21 {L : sl_L} : sl_Go xs N 88 21 L st σ Q ↔ sl_Go xs N 88 22 L (.inl 1 :: st) σ Q := gk_const rfl
theorem g88_22 {x : sl_R} {a1 a2 a3 : Option sl_V} : sl_Go xs N 88 22 [some (.inr (.inr x)), a1, a2, a3] st σ Q ↔ sl_Go xs N 88 23 [some (.inr (.inr x)), a1, a2, a3] (.inr (.inr x) :: st) σ Q := gk_aload rfl rfl
theorem g88_23 {L : sl_L} {i t : Nat} : sl_Go xs N 88 23 L (.inr (.inr (30, i, t)) :: st) σ Q ↔ sl_Go xs N 88 26 L (.inr (.inr (31, 0, t)) :: st) σ Q := gk_get (g := .inr (31, 0, t)) rfl rfl rfl
theorem g88_26 {x : Int32} {a0 a1 a2 : Option sl_V} : sl_Go xs N 88 26 [a0, a1, a2, some (.inl x)] st σ Q ↔ sl_Go xs N 88 27 [a0, a1, a2, some (.inl x)] (.inl x :: st) σ Q := gk_iload rfl rfl
theorem g88_27 {L : sl_L} {j : Int32} {r : sl_R} : sl_Go xs N 88 27 L (.inl j :: .inr (.inr r) :: st) σ Q ↔ (0 ≤ j.toInt ∧ j.toInt < sl_ilen N r) ∧ sl_Go xs N 88 28 L (.inl (sl_rd xs σ r j.toNatClampNeg) :: st) σ Q := gk_iald rfl
theorem g88_28 {L : sl_L} {x y : Int32} : sl_Go xs N 88 28 L (.inl y :: .inl x :: st) σ Q ↔ sl_Go xs N 88 29 L (.inl (x <<< (y &&& 31)) :: st) σ Q := gk_bin (b := 14) rfl
theorem g88_29 {L : sl_L} {x y : Int32} : sl_Go xs N 88 29 L (.inl y :: .inl x :: st) σ Q ↔ sl_Go xs N 88 30 L (.inl (x ||| y) :: st) σ Q := gk_bin (b := 12) rfl
theorem g88_30n {x : Int32} {a0 a2 a3 : Option sl_V} : sl_Go xs N 88 30 [a0, none, a2, a3] (.inl x :: st) σ Q ↔ sl_Go xs N 88 31 [a0, none, some (.inl x), a3] st σ Q := gk_istore rfl ⟨Nat.le_of_ble_eq_true rfl, rfl⟩ rfl
theorem g88_30i {x : Int32} {z : Int32} {a0 a2 a3 : Option sl_V} : sl_Go xs N 88 30 [a0, some (.inl z), a2, a3] (.inl x :: st) σ Q ↔ sl_Go xs N 88 31 [a0, some (.inl z), some (.inl x), a3] st σ Q := gk_istore rfl ⟨Nat.le_of_ble_eq_true rfl, rfl⟩ rfl
theorem g88_30r {x : Int32} {z : sl_R} {a0 a2 a3 : Option sl_V} : sl_Go xs N 88 30 [a0, some (.inr (.inr z)), a2, a3] (.inl x :: st) σ Q ↔ sl_Go xs N 88 31 [a0, some (.inr (.inr z)), some (.inl x), a3] st σ Q := gk_istore rfl ⟨Nat.le_of_ble_eq_true rfl, rfl⟩ rfl
theorem g88_31n {x : Int32} {a0 a1 : Option sl_V} : sl_Go xs N 88 31 [a0, a1, none, some (.inl x)] st σ Q ↔ sl_Go xs N 88 34 [a0, a1, none, some (.inl (x + 1))] st σ Q := gk_iinc rfl rfl rfl rfl
theorem g88_31i {x : Int32} {z : Int32} {a0 a1 : Option sl_V} : sl_Go xs N 88 31 [a0, a1, some (.inl z), some (.inl x)] st σ Q ↔ sl_Go xs N 88 34 [a0, a1, some (.inl z), some (.inl (x + 1))] st σ Q := gk_iinc rfl rfl rfl rfl
theorem g88_31r {x : Int32} {z : sl_R} {a0 a1 : Option sl_V} : sl_Go xs N 88 31 [a0, a1, some (.inr (.inr z)), some (.inl x)] st σ Q ↔ sl_Go xs N 88 34 [a0, a1, some (.inr (.inr z)), some (.inl (x + 1))] st σ Q := gk_iinc rfl rfl rfl rfl
theorem g88_34 {L : sl_L} : sl_Go xs N 88 34 L st σ Q ↔ sl_Go xs N 88 4 L st σ Q := gk_goto rfl
theorem g88_37 {x : Int32} {a0 a1 a3 : Option sl_V} : sl_Go xs N 88 37 [a0, a1, some (.inl x), a3] st σ Q ↔ sl_Go xs N 88 38 [a0, a1, some (.inl x), a3] (.inl x :: st) σ Q := gk_iload rfl rfl
theorem g88_38 {L : sl_L} {x : Int32} : sl_Go xs N 88 38 L [.inl x] σ Q ↔ Q (some (.inl x)) σ := gk_iret rfl
theorem g89_0 {L : sl_L} : sl_Go xs N 89 0 L st σ Q ↔ sl_Go xs N 89 1 L (.inl 0 :: st) σ Q := gk_const rfl
theorem g89_1n {x : Int32} {a0 a1 a2 a4 a5 : Option sl_V} : sl_Go xs N 89 1 [a0, a1, a2, none, a4, a5] (.inl x :: st) σ Q ↔ sl_Go xs N 89 3 [a0, a1, a2, none, some (.inl x), a5] st σ Q := gk_istore rfl ⟨Nat.le_of_ble_eq_true rfl, rfl⟩ rfl
theorem g89_1i {x : Int32} {z : Int32} {a0 a1 a2 a4 a5 : Option sl_V} : sl_Go xs N 89 1 [a0, a1, a2, some (.inl z), a4, a5] (.inl x :: st) σ Q ↔ sl_Go xs N 89 3 [a0, a1, a2, some (.inl z), some (.inl x), a5] st σ Q := gk_istore rfl ⟨Nat.le_of_ble_eq_true rfl, rfl⟩ rfl
theorem g89_1r {x : Int32} {z : sl_R} {a0 a1 a2 a4 a5 : Option sl_V} : sl_Go xs N 89 1 [a0, a1, a2, some (.inr (.inr z)), a4, a5] (.inl x :: st) σ Q ↔ sl_Go xs N 89 3 [a0, a1, a2, some (.inr (.inr z)), some (.inl x), a5] st σ Q := gk_istore rfl ⟨Nat.le_of_ble_eq_true rfl, rfl⟩ rfl
theorem g89_3 {x : Int32} {a0 a1 a2 a3 a5 : Option sl_V} : sl_Go xs N 89 3 [a0, a1, a2, a3, some (.inl x), a5] st σ Q ↔ sl_Go xs N 89 5 [a0, a1, a2, a3, some (.inl x), a5] (.inl x :: st) σ Q := gk_iload rfl rfl
theorem g89_5 {x : sl_R} {a1 a2 a3 a4 a5 : Option sl_V} : sl_Go xs N 89 5 [some (.inr (.inr x)), a1, a2, a3, a4, a5] st σ Q ↔ sl_Go xs N 89 6 [some (.inr (.inr x)), a1, a2, a3, a4, a5] (.inr (.inr x) :: st) σ Q := gk_aload rfl rfl
theorem g89_6 {L : sl_L} {i t : Nat} : sl_Go xs N 89 6 L (.inr (.inr (0, i, t)) :: st) σ Q ↔ sl_Go xs N 89 9 L (.inl (σ 7 0 1) :: st) σ Q := gk_get (g := .inl (7, 0, 1)) rfl rfl rfl
theorem g89_9 {L : sl_L} {x y : Int32} : sl_Go xs N 89 9 L (.inl y :: .inl x :: st) σ Q ↔ (y ≤ x → sl_Go xs N 89 57 L st σ Q) ∧ (¬ y ≤ x → sl_Go xs N 89 12 L st σ Q) := gk_ige rfl
theorem g89_12 {x : sl_R} {a1 a2 a3 a4 a5 : Option sl_V} : sl_Go xs N 89 12 [some (.inr (.inr x)), a1, a2, a3, a4, a5] st σ Q ↔ sl_Go xs N 89 13 [some (.inr (.inr x)), a1, a2, a3, a4, a5] (.inr (.inr x) :: st) σ Q := gk_aload rfl rfl
theorem g89_13 {L : sl_L} {i t : Nat} : sl_Go xs N 89 13 L (.inr (.inr (0, i, t)) :: st) σ Q ↔ sl_Go xs N 89 16 L (.inr (.inr (26, 0, 0)) :: st) σ Q := gk_get (g := .inr (26, 0, 0)) rfl rfl rfl
theorem g89_16 {x : Int32} {a0 a1 a2 a3 a5 : Option sl_V} : sl_Go xs N 89 16 [a0, a1, a2, a3, some (.inl x), a5] st σ Q ↔ sl_Go xs N 89 18 [a0, a1, a2, a3, some (.inl x), a5] (.inl x :: st) σ Q := gk_iload rfl rfl
theorem g89_18 {L : sl_L} {j : Int32} {r : sl_R} : sl_Go xs N 89 18 L (.inl j :: .inr (.inr r) :: st) σ Q ↔ (0 ≤ j.toInt ∧ j.toInt < sl_rlen r) ∧ sl_Go xs N 89 19 L (.inr (.inr (sl_rg r j.toNatClampNeg)) :: st) σ Q := gk_aald rfl
theorem g89_19n {x : sl_R} {a0 a1 a2 a3 a5 : Option sl_V} : sl_Go xs N 89 19 [a0, a1, a2, a3, none, a5] (.inr (.inr x) :: st) σ Q ↔ sl_Go xs N 89 21 [a0, a1, a2, a3, none, some (.inr (.inr x))] st σ Q := gk_astore rfl ⟨Nat.le_of_ble_eq_true rfl, rfl⟩ rfl
theorem g89_19i {x : sl_R} {z : Int32} {a0 a1 a2 a3 a5 : Option sl_V} : sl_Go xs N 89 19 [a0, a1, a2, a3, some (.inl z), a5] (.inr (.inr x) :: st) σ Q ↔ sl_Go xs N 89 21 [a0, a1, a2, a3, some (.inl z), some (.inr (.inr x))] st σ Q := gk_astore rfl ⟨Nat.le_of_ble_eq_true rfl, rfl⟩ rfl
theorem g89_19r {x : sl_R} {z : sl_R} {a0 a1 a2 a3 a5 : Option sl_V} : sl_Go xs N 89 19 [a0, a1, a2, a3, some (.inr (.inr z)), a5] (.inr (.inr x) :: st) σ Q ↔ sl_Go xs N 89 21 [a0, a1, a2, a3, some (.inr (.inr z)), some (.inr (.inr x))] st σ Q := gk_astore rfl ⟨Nat.le_of_ble_eq_true rfl, rfl⟩ rfl
theorem g89_21 {x : sl_R} {a0 a1 a2 a3 a4 : Option sl_V} : sl_Go xs N 89 21 [a0, a1, a2, a3, a4, some (.inr (.inr x))] st σ Q ↔ sl_Go xs N 89 23 [a0, a1, a2, a3, a4, some (.inr (.inr x))] (.inr (.inr x) :: st) σ Q := gk_aload rfl rfl
theorem g89_23 {L : sl_L} {i t : Nat} : sl_Go xs N 89 23 L (.inr (.inr (27, i, t)) :: st) σ Q ↔ sl_Go xs N 89 26 L (.inl (σ 7 5 t) :: st) σ Q := gk_get (g := .inl (7, 5, t)) rfl rfl rfl
theorem g89_26 {x : Int32} {a0 a2 a3 a4 a5 : Option sl_V} : sl_Go xs N 89 26 [a0, some (.inl x), a2, a3, a4, a5] st σ Q ↔ sl_Go xs N 89 27 [a0, some (.inl x), a2, a3, a4, a5] (.inl x :: st) σ Q := gk_iload rfl rfl
theorem g89_27 {L : sl_L} {x y : Int32} : sl_Go xs N 89 27 L (.inl y :: .inl x :: st) σ Q ↔ (¬ x = y → sl_Go xs N 89 51 L st σ Q) ∧ (x = y → sl_Go xs N 89 30 L st σ Q) := gk_ine rfl
theorem g89_30 {x : sl_R} {a0 a1 a2 a3 a4 : Option sl_V} : sl_Go xs N 89 30 [a0, a1, a2, a3, a4, some (.inr (.inr x))] st σ Q ↔ sl_Go xs N 89 32 [a0, a1, a2, a3, a4, some (.inr (.inr x))] (.inr (.inr x) :: st) σ Q := gk_aload rfl rfl
theorem g89_32 {L : sl_L} {i t : Nat} : sl_Go xs N 89 32 L (.inr (.inr (27, i, t)) :: st) σ Q ↔ sl_Go xs N 89 35 L (.inl (σ 7 9 t) :: st) σ Q := gk_get (g := .inl (7, 9, t)) rfl rfl rfl
theorem g89_35 {L : sl_L} {x : Int32} : sl_Go xs N 89 35 L (.inl x :: st) σ Q ↔ (¬ x = 0 → sl_Go xs N 89 51 L st σ Q) ∧ (x = 0 → sl_Go xs N 89 38 L st σ Q) := gk_zne rfl
theorem g89_38 {x : sl_R} {a1 a2 a3 a4 a5 : Option sl_V} : sl_Go xs N 89 38 [some (.inr (.inr x)), a1, a2, a3, a4, a5] st σ Q ↔ sl_Go xs N 89 39 [some (.inr (.inr x)), a1, a2, a3, a4, a5] (.inr (.inr x) :: st) σ Q := gk_aload rfl rfl
theorem g89_39 {x : sl_R} {a0 a1 a2 a3 a4 : Option sl_V} : sl_Go xs N 89 39 [a0, a1, a2, a3, a4, some (.inr (.inr x))] st σ Q ↔ sl_Go xs N 89 41 [a0, a1, a2, a3, a4, some (.inr (.inr x))] (.inr (.inr x) :: st) σ Q := gk_aload rfl rfl
theorem g89_41 {x : Int32} {a0 a1 a3 a4 a5 : Option sl_V} : sl_Go xs N 89 41 [a0, a1, some (.inl x), a3, a4, a5] st σ Q ↔ sl_Go xs N 89 42 [a0, a1, some (.inl x), a3, a4, a5] (.inl x :: st) σ Q := gk_iload rfl rfl
theorem g89_42 {x : Int32} {a0 a1 a2 a4 a5 : Option sl_V} : sl_Go xs N 89 42 [a0, a1, a2, some (.inl x), a4, a5] st σ Q ↔ sl_Go xs N 89 43 [a0, a1, a2, some (.inl x), a4, a5] (.inl x :: st) σ Q := gk_iload rfl rfl
theorem g89_43 {L : sl_L} {x0 : sl_R} {x1 : Int32} {x2 : Int32} {i t : Nat} : sl_Go xs N 89 43 L (.inl x2 :: .inl x1 :: .inr (.inr x0) :: .inr (.inr (0, i, t)) :: st) σ Q ↔ sl_cw st ≤ 8 ∧ sl_Go xs N 90 0 [some (.inr (.inr (0, i, t))), some (.inr (.inr x0)), some (.inl x1), some (.inl x2), none, none, none] [] σ (fun r τ => sl_Go xs N 89 46 L (r.toList ++ st) τ Q) := gk_call rfl (Nat.le_add_left 4 st.length) rfl rfl rfl rfl (Nat.le_of_ble_eq_true rfl)
theorem g89_46 {L : sl_L} {x : Int32} : sl_Go xs N 89 46 L (.inl x :: st) σ Q ↔ (¬ x = 0 → sl_Go xs N 89 51 L st σ Q) ∧ (x = 0 → sl_Go xs N 89 49 L st σ Q) := gk_zne rfl
theorem g89_49 {L : sl_L} : sl_Go xs N 89 49 L st σ Q ↔ sl_Go xs N 89 50 L (.inl 0 :: st) σ Q := gk_const rfl
theorem g89_50 {L : sl_L} {x : Int32} : sl_Go xs N 89 50 L [.inl x] σ Q ↔ (x = 0 ∨ x = 1) ∧ Q (some (.inl x)) σ := gk_zret rfl
theorem g89_51n {x : Int32} {a0 a1 a2 a5 : Option sl_V} : sl_Go xs N 89 51 [a0, a1, a2, none, some (.inl x), a5] st σ Q ↔ sl_Go xs N 89 54 [a0, a1, a2, none, some (.inl (x + 1)), a5] st σ Q := gk_iinc rfl rfl rfl rfl
theorem g89_51i {x : Int32} {z : Int32} {a0 a1 a2 a5 : Option sl_V} : sl_Go xs N 89 51 [a0, a1, a2, some (.inl z), some (.inl x), a5] st σ Q ↔ sl_Go xs N 89 54 [a0, a1, a2, some (.inl z), some (.inl (x + 1)), a5] st σ Q := gk_iinc rfl rfl rfl rfl
theorem g89_51r {x : Int32} {z : sl_R} {a0 a1 a2 a5 : Option sl_V} : sl_Go xs N 89 51 [a0, a1, a2, some (.inr (.inr z)), some (.inl x), a5] st σ Q ↔ sl_Go xs N 89 54 [a0, a1, a2, some (.inr (.inr z)), some (.inl (x + 1)), a5] st σ Q := gk_iinc rfl rfl rfl rfl
theorem g89_54 {L : sl_L} : sl_Go xs N 89 54 L st σ Q ↔ sl_Go xs N 89 3 L st σ Q := gk_goto rfl
theorem g89_57 {L : sl_L} : sl_Go xs N 89 57 L st σ Q ↔ sl_Go xs N 89 58 L (.inl 1 :: st) σ Q := gk_const rfl
theorem g89_58 {L : sl_L} {x : Int32} : sl_Go xs N 89 58 L [.inl x] σ Q ↔ (x = 0 ∨ x = 1) ∧ Q (some (.inl x)) σ := gk_zret rfl
theorem g90_0 {x : sl_R} {a1 a2 a3 a4 a5 a6 : Option sl_V} : sl_Go xs N 90 0 [some (.inr (.inr x)), a1, a2, a3, a4, a5, a6] st σ Q ↔ sl_Go xs N 90 1 [some (.inr (.inr x)), a1, a2, a3, a4, a5, a6] (.inr (.inr x) :: st) σ Q := gk_aload rfl rfl
theorem g90_1 {x : sl_R} {a0 a2 a3 a4 a5 a6 : Option sl_V} : sl_Go xs N 90 1 [a0, some (.inr (.inr x)), a2, a3, a4, a5, a6] st σ Q ↔ sl_Go xs N 90 2 [a0, some (.inr (.inr x)), a2, a3, a4, a5, a6] (.inr (.inr x) :: st) σ Q := gk_aload rfl rfl
theorem g90_2 {L : sl_L} {i t : Nat} : sl_Go xs N 90 2 L (.inr (.inr (27, i, t)) :: st) σ Q ↔ sl_Go xs N 90 5 L (.inl (σ 7 7 t) :: st) σ Q := gk_get (g := .inl (7, 7, t)) rfl rfl rfl
theorem g90_5 {L : sl_L} {x0 : Int32} {i t : Nat} : sl_Go xs N 90 5 L (.inl x0 :: .inr (.inr (0, i, t)) :: st) σ Q ↔ sl_cw st ≤ 8 ∧ sl_Go xs N 85 0 [some (.inr (.inr (0, i, t))), some (.inl x0)] [] σ (fun r τ => sl_Go xs N 90 8 L (r.toList ++ st) τ Q) := gk_call rfl (Nat.le_add_left 2 st.length) rfl rfl rfl rfl (Nat.le_of_ble_eq_true rfl)
theorem g90_8 {x : sl_R} {a1 a2 a3 a4 a5 a6 : Option sl_V} : sl_Go xs N 90 8 [some (.inr (.inr x)), a1, a2, a3, a4, a5, a6] st σ Q ↔ sl_Go xs N 90 9 [some (.inr (.inr x)), a1, a2, a3, a4, a5, a6] (.inr (.inr x) :: st) σ Q := gk_aload rfl rfl
theorem g90_9 {L : sl_L} {i t : Nat} : sl_Go xs N 90 9 L (.inr (.inr (0, i, t)) :: st) σ Q ↔ sl_Go xs N 90 12 L (.inr (.inr (1, 2, 0)) :: st) σ Q := gk_get (g := .inr (1, 2, 0)) rfl rfl rfl
theorem g90_12 {x : sl_R} {a0 a2 a3 a4 a5 a6 : Option sl_V} : sl_Go xs N 90 12 [a0, some (.inr (.inr x)), a2, a3, a4, a5, a6] st σ Q ↔ sl_Go xs N 90 13 [a0, some (.inr (.inr x)), a2, a3, a4, a5, a6] (.inr (.inr x) :: st) σ Q := gk_aload rfl rfl
theorem g90_13 {L : sl_L} {i t : Nat} : sl_Go xs N 90 13 L (.inr (.inr (27, i, t)) :: st) σ Q ↔ sl_Go xs N 90 16 L (.inl (σ 7 5 t) :: st) σ Q := gk_get (g := .inl (7, 5, t)) rfl rfl rfl
theorem g90_16 {x : Int32} {a0 a1 a3 a4 a5 a6 : Option sl_V} : sl_Go xs N 90 16 [a0, a1, some (.inl x), a3, a4, a5, a6] st σ Q ↔ sl_Go xs N 90 17 [a0, a1, some (.inl x), a3, a4, a5, a6] (.inl x :: st) σ Q := gk_iload rfl rfl
theorem g90_17 {L : sl_L} {x0 : Int32} {x1 : Int32} {i t : Nat} : sl_Go xs N 90 17 L (.inl x1 :: .inl x0 :: .inr (.inr (1, i, t)) :: st) σ Q ↔ sl_cw st ≤ 8 ∧ sl_Go xs N 12 0 [some (.inr (.inr (1, i, t))), some (.inl x0), some (.inl x1), none, none] [] σ (fun r τ => sl_Go xs N 90 20 L (r.toList ++ st) τ Q) := gk_call rfl (Nat.le_add_left 3 st.length) rfl rfl rfl rfl (Nat.le_of_ble_eq_true rfl)
theorem g90_20 {L : sl_L} : sl_Go xs N 90 20 L st σ Q ↔ sl_Go xs N 90 21 L (.inl 0 :: st) σ Q := gk_const rfl
theorem g90_21n {x : Int32} {a0 a1 a2 a4 a5 a6 : Option sl_V} : sl_Go xs N 90 21 [a0, a1, a2, none, a4, a5, a6] (.inl x :: st) σ Q ↔ sl_Go xs N 90 23 [a0, a1, a2, none, some (.inl x), a5, a6] st σ Q := gk_istore rfl ⟨Nat.le_of_ble_eq_true rfl, rfl⟩ rfl
theorem g90_21i {x : Int32} {z : Int32} {a0 a1 a2 a4 a5 a6 : Option sl_V} : sl_Go xs N 90 21 [a0, a1, a2, some (.inl z), a4, a5, a6] (.inl x :: st) σ Q ↔ sl_Go xs N 90 23 [a0, a1, a2, some (.inl z), some (.inl x), a5, a6] st σ Q := gk_istore rfl ⟨Nat.le_of_ble_eq_true rfl, rfl⟩ rfl
theorem g90_21r {x : Int32} {z : sl_R} {a0 a1 a2 a4 a5 a6 : Option sl_V} : sl_Go xs N 90 21 [a0, a1, a2, some (.inr (.inr z)), a4, a5, a6] (.inl x :: st) σ Q ↔ sl_Go xs N 90 23 [a0, a1, a2, some (.inr (.inr z)), some (.inl x), a5, a6] st σ Q := gk_istore rfl ⟨Nat.le_of_ble_eq_true rfl, rfl⟩ rfl
theorem g90_23 {x : Int32} {a0 a1 a2 a3 a5 a6 : Option sl_V} : sl_Go xs N 90 23 [a0, a1, a2, a3, some (.inl x), a5, a6] st σ Q ↔ sl_Go xs N 90 25 [a0, a1, a2, a3, some (.inl x), a5, a6] (.inl x :: st) σ Q := gk_iload rfl rfl
theorem g90_25 {x : sl_R} {a0 a2 a3 a4 a5 a6 : Option sl_V} : sl_Go xs N 90 25 [a0, some (.inr (.inr x)), a2, a3, a4, a5, a6] st σ Q ↔ sl_Go xs N 90 26 [a0, some (.inr (.inr x)), a2, a3, a4, a5, a6] (.inr (.inr x) :: st) σ Q := gk_aload rfl rfl
theorem g90_26 {L : sl_L} {i t : Nat} : sl_Go xs N 90 26 L (.inr (.inr (27, i, t)) :: st) σ Q ↔ sl_Go xs N 90 29 L (.inl (σ 7 8 t) :: st) σ Q := gk_get (g := .inl (7, 8, t)) rfl rfl rfl
theorem g90_29 {L : sl_L} {x y : Int32} : sl_Go xs N 90 29 L (.inl y :: .inl x :: st) σ Q ↔ (y ≤ x → sl_Go xs N 90 96 L st σ Q) ∧ (¬ y ≤ x → sl_Go xs N 90 32 L st σ Q) := gk_ige rfl
theorem g90_32 {x : sl_R} {a1 a2 a3 a4 a5 a6 : Option sl_V} : sl_Go xs N 90 32 [some (.inr (.inr x)), a1, a2, a3, a4, a5, a6] st σ Q ↔ sl_Go xs N 90 33 [some (.inr (.inr x)), a1, a2, a3, a4, a5, a6] (.inr (.inr x) :: st) σ Q := gk_aload rfl rfl
theorem g90_33 {L : sl_L} {i t : Nat} : sl_Go xs N 90 33 L (.inr (.inr (0, i, t)) :: st) σ Q ↔ sl_Go xs N 90 36 L (.inr (.inr (1, 2, 0)) :: st) σ Q := gk_get (g := .inr (1, 2, 0)) rfl rfl rfl
theorem g90_36 {L : sl_L} {i t : Nat} : sl_Go xs N 90 36 L (.inr (.inr (1, i, t)) :: st) σ Q ↔ sl_cw st ≤ 8 ∧ sl_Go xs N 15 0 [some (.inr (.inr (1, i, t))), none] [] σ (fun r τ => sl_Go xs N 90 39 L (r.toList ++ st) τ Q) := gk_call rfl (Nat.le_add_left 1 st.length) rfl rfl rfl rfl (Nat.le_of_ble_eq_true rfl)
theorem g90_39 {x : sl_R} {a0 a2 a3 a4 a5 a6 : Option sl_V} : sl_Go xs N 90 39 [a0, some (.inr (.inr x)), a2, a3, a4, a5, a6] st σ Q ↔ sl_Go xs N 90 40 [a0, some (.inr (.inr x)), a2, a3, a4, a5, a6] (.inr (.inr x) :: st) σ Q := gk_aload rfl rfl
theorem g90_40 {L : sl_L} {i t : Nat} : sl_Go xs N 90 40 L (.inr (.inr (27, i, t)) :: st) σ Q ↔ sl_Go xs N 90 43 L (.inr (.inr (28, 0, t)) :: st) σ Q := gk_get (g := .inr (28, 0, t)) rfl rfl rfl
theorem g90_43 {x : Int32} {a0 a1 a2 a3 a5 a6 : Option sl_V} : sl_Go xs N 90 43 [a0, a1, a2, a3, some (.inl x), a5, a6] st σ Q ↔ sl_Go xs N 90 45 [a0, a1, a2, a3, some (.inl x), a5, a6] (.inl x :: st) σ Q := gk_iload rfl rfl
theorem g90_45 {L : sl_L} {j : Int32} {r : sl_R} : sl_Go xs N 90 45 L (.inl j :: .inr (.inr r) :: st) σ Q ↔ (0 ≤ j.toInt ∧ j.toInt < sl_ilen N r) ∧ sl_Go xs N 90 46 L (.inl (sl_rd xs σ r j.toNatClampNeg) :: st) σ Q := gk_iald rfl
theorem g90_46 {L : sl_L} {x : Int32} : sl_Go xs N 90 46 L (.inl x :: st) σ Q ↔ sl_Go xs N 90 47 L (.inr (.inl x.toInt64) :: st) σ Q := gk_i2l rfl
theorem g90_47n {x : Int64} {a0 a1 a2 a3 a5 a6 : Option sl_V} : sl_Go xs N 90 47 [a0, a1, a2, a3, none, a5, a6] (.inr (.inl x) :: st) σ Q ↔ sl_Go xs N 90 49 [a0, a1, a2, a3, none, some (.inr (.inl x)), none] st σ Q := gk_lstore rfl ⟨Nat.le_of_ble_eq_true rfl, rfl⟩ rfl
theorem g90_47i {x : Int64} {z : Int32} {a0 a1 a2 a3 a5 a6 : Option sl_V} : sl_Go xs N 90 47 [a0, a1, a2, a3, some (.inl z), a5, a6] (.inr (.inl x) :: st) σ Q ↔ sl_Go xs N 90 49 [a0, a1, a2, a3, some (.inl z), some (.inr (.inl x)), none] st σ Q := gk_lstore rfl ⟨Nat.le_of_ble_eq_true rfl, rfl⟩ rfl
theorem g90_47r {x : Int64} {z : sl_R} {a0 a1 a2 a3 a5 a6 : Option sl_V} : sl_Go xs N 90 47 [a0, a1, a2, a3, some (.inr (.inr z)), a5, a6] (.inr (.inl x) :: st) σ Q ↔ sl_Go xs N 90 49 [a0, a1, a2, a3, some (.inr (.inr z)), some (.inr (.inl x)), none] st σ Q := gk_lstore rfl ⟨Nat.le_of_ble_eq_true rfl, rfl⟩ rfl
theorem g90_49 {x : Int64} {a0 a1 a2 a3 a4 a6 : Option sl_V} : sl_Go xs N 90 49 [a0, a1, a2, a3, a4, some (.inr (.inl x)), a6] st σ Q ↔ sl_Go xs N 90 51 [a0, a1, a2, a3, a4, some (.inr (.inl x)), a6] (.inr (.inl x) :: st) σ Q := gk_lload rfl rfl
theorem g90_51 {L : sl_L} : sl_Go xs N 90 51 L st σ Q ↔ sl_Go xs N 90 54 L (.inr (.inl (-1)) :: st) σ Q := gk_lconst (b := 2) rfl
theorem g90_54 {L : sl_L} {x y : Int64} : sl_Go xs N 90 54 L (.inr (.inl y) :: .inr (.inl x) :: st) σ Q ↔ sl_Go xs N 90 55 L (.inl (lg_cmp x y) :: st) σ Q := gk_lcmp rfl
theorem g90_55 {L : sl_L} {x : Int32} : sl_Go xs N 90 55 L (.inl x :: st) σ Q ↔ (x = 0 → sl_Go xs N 90 90 L st σ Q) ∧ (¬ x = 0 → sl_Go xs N 90 58 L st σ Q) := gk_zeq rfl
theorem g90_58 {x : Int64} {a0 a1 a2 a3 a4 a6 : Option sl_V} : sl_Go xs N 90 58 [a0, a1, a2, a3, a4, some (.inr (.inl x)), a6] st σ Q ↔ sl_Go xs N 90 60 [a0, a1, a2, a3, a4, some (.inr (.inl x)), a6] (.inr (.inl x) :: st) σ Q := gk_lload rfl rfl
theorem g90_60 {x : sl_R} {a1 a2 a3 a4 a5 a6 : Option sl_V} : sl_Go xs N 90 60 [some (.inr (.inr x)), a1, a2, a3, a4, a5, a6] st σ Q ↔ sl_Go xs N 90 61 [some (.inr (.inr x)), a1, a2, a3, a4, a5, a6] (.inr (.inr x) :: st) σ Q := gk_aload rfl rfl
theorem g90_61 {L : sl_L} {i t : Nat} : sl_Go xs N 90 61 L (.inr (.inr (0, i, t)) :: st) σ Q ↔ sl_Go xs N 90 64 L (.inr (.inr (1, 2, 0)) :: st) σ Q := gk_get (g := .inr (1, 2, 0)) rfl rfl rfl
theorem g90_64 {L : sl_L} {i t : Nat} : sl_Go xs N 90 64 L (.inr (.inr (1, i, t)) :: st) σ Q ↔ sl_Go xs N 90 67 L (.inr (.inr (2, i, 0)) :: st) σ Q := gk_get (g := .inr (2, i, 0)) rfl rfl rfl
theorem g90_67 {x : sl_R} {a0 a2 a3 a4 a5 a6 : Option sl_V} : sl_Go xs N 90 67 [a0, some (.inr (.inr x)), a2, a3, a4, a5, a6] st σ Q ↔ sl_Go xs N 90 68 [a0, some (.inr (.inr x)), a2, a3, a4, a5, a6] (.inr (.inr x) :: st) σ Q := gk_aload rfl rfl
theorem g90_68 {L : sl_L} {i t : Nat} : sl_Go xs N 90 68 L (.inr (.inr (27, i, t)) :: st) σ Q ↔ sl_Go xs N 90 71 L (.inl (σ 7 5 t) :: st) σ Q := gk_get (g := .inl (7, 5, t)) rfl rfl rfl
theorem g90_71 {L : sl_L} {j : Int32} {r : sl_R} : sl_Go xs N 90 71 L (.inl j :: .inr (.inr r) :: st) σ Q ↔ (0 ≤ j.toInt ∧ j.toInt < sl_rlen r) ∧ sl_Go xs N 90 72 L (.inr (.inr (sl_rg r j.toNatClampNeg)) :: st) σ Q := gk_aald rfl
theorem g90_72 {x : sl_R} {a0 a2 a3 a4 a5 a6 : Option sl_V} : sl_Go xs N 90 72 [a0, some (.inr (.inr x)), a2, a3, a4, a5, a6] st σ Q ↔ sl_Go xs N 90 73 [a0, some (.inr (.inr x)), a2, a3, a4, a5, a6] (.inr (.inr x) :: st) σ Q := gk_aload rfl rfl
theorem g90_73 {L : sl_L} {i t : Nat} : sl_Go xs N 90 73 L (.inr (.inr (27, i, t)) :: st) σ Q ↔ sl_Go xs N 90 76 L (.inl (σ 7 6 t) :: st) σ Q := gk_get (g := .inl (7, 6, t)) rfl rfl rfl
theorem g90_76 {L : sl_L} {j : Int32} {r : sl_R} : sl_Go xs N 90 76 L (.inl j :: .inr (.inr r) :: st) σ Q ↔ (0 ≤ j.toInt ∧ j.toInt < sl_ilen N r) ∧ sl_Go xs N 90 77 L (.inl (sl_rd xs σ r j.toNatClampNeg) :: st) σ Q := gk_iald rfl
theorem g90_77 {L : sl_L} {x : Int32} : sl_Go xs N 90 77 L (.inl x :: st) σ Q ↔ sl_Go xs N 90 78 L (.inr (.inl x.toInt64) :: st) σ Q := gk_i2l rfl
theorem g90_78 {L : sl_L} {x y : Int64} : sl_Go xs N 90 78 L (.inr (.inl y) :: .inr (.inl x) :: st) σ Q ↔ sl_Go xs N 90 79 L (.inr (.inl (x - y)) :: st) σ Q := gk_lin (b := 1) rfl
theorem g90_79 {L : sl_L} {x : Int64} : sl_Go xs N 90 79 L (.inr (.inl x) :: st) σ Q ↔ sl_cw st ≤ 8 ∧ sl_Go xs N 90 82 L (.inr (.inl (if 0 < x then x else -x)) :: st) σ Q := gk_labs rfl
theorem g90_82 {x : Int32} {a0 a1 a2 a4 a5 a6 : Option sl_V} : sl_Go xs N 90 82 [a0, a1, a2, some (.inl x), a4, a5, a6] st σ Q ↔ sl_Go xs N 90 83 [a0, a1, a2, some (.inl x), a4, a5, a6] (.inl x :: st) σ Q := gk_iload rfl rfl
theorem g90_83 {L : sl_L} {x : Int32} : sl_Go xs N 90 83 L (.inl x :: st) σ Q ↔ sl_Go xs N 90 84 L (.inr (.inl x.toInt64) :: st) σ Q := gk_i2l rfl
theorem g90_84 {L : sl_L} {x y : Int64} : sl_Go xs N 90 84 L (.inr (.inl y) :: .inr (.inl x) :: st) σ Q ↔ sl_Go xs N 90 85 L (.inl (lg_cmp x y) :: st) σ Q := gk_lcmp rfl
theorem g90_85 {L : sl_L} {x : Int32} : sl_Go xs N 90 85 L (.inl x :: st) σ Q ↔ (x ≤ 0 → sl_Go xs N 90 90 L st σ Q) ∧ (¬ x ≤ 0 → sl_Go xs N 90 88 L st σ Q) := gk_zle rfl
theorem g90_88 {L : sl_L} : sl_Go xs N 90 88 L st σ Q ↔ sl_Go xs N 90 89 L (.inl 0 :: st) σ Q := gk_const rfl
theorem g90_89 {L : sl_L} {x : Int32} : sl_Go xs N 90 89 L [.inl x] σ Q ↔ (x = 0 ∨ x = 1) ∧ Q (some (.inl x)) σ := gk_zret rfl
theorem g90_90n {x : Int32} {a0 a1 a2 a5 a6 : Option sl_V} : sl_Go xs N 90 90 [a0, a1, a2, none, some (.inl x), a5, a6] st σ Q ↔ sl_Go xs N 90 93 [a0, a1, a2, none, some (.inl (x + 1)), a5, a6] st σ Q := gk_iinc rfl rfl rfl rfl
theorem g90_90i {x : Int32} {z : Int32} {a0 a1 a2 a5 a6 : Option sl_V} : sl_Go xs N 90 90 [a0, a1, a2, some (.inl z), some (.inl x), a5, a6] st σ Q ↔ sl_Go xs N 90 93 [a0, a1, a2, some (.inl z), some (.inl (x + 1)), a5, a6] st σ Q := gk_iinc rfl rfl rfl rfl
theorem g90_90r {x : Int32} {z : sl_R} {a0 a1 a2 a5 a6 : Option sl_V} : sl_Go xs N 90 90 [a0, a1, a2, some (.inr (.inr z)), some (.inl x), a5, a6] st σ Q ↔ sl_Go xs N 90 93 [a0, a1, a2, some (.inr (.inr z)), some (.inl (x + 1)), a5, a6] st σ Q := gk_iinc rfl rfl rfl rfl
theorem g90_93 {L : sl_L} : sl_Go xs N 90 93 L st σ Q ↔ sl_Go xs N 90 23 L st σ Q := gk_goto rfl
theorem g90_96 {L : sl_L} : sl_Go xs N 90 96 L st σ Q ↔ sl_Go xs N 90 97 L (.inl 1 :: st) σ Q := gk_const rfl
theorem g90_97 {L : sl_L} {x : Int32} : sl_Go xs N 90 97 L [.inl x] σ Q ↔ (x = 0 ∨ x = 1) ∧ Q (some (.inl x)) σ := gk_zret rfl
theorem g91_0 {x : Int32} {a0 a2 a3 : Option sl_V} : sl_Go xs N 91 0 [a0, some (.inl x), a2, a3] st σ Q ↔ sl_Go xs N 91 1 [a0, some (.inl x), a2, a3] (.inl x :: st) σ Q := gk_iload rfl rfl
theorem g91_1 {x : Int32} {a0 a1 a3 : Option sl_V} : sl_Go xs N 91 1 [a0, a1, some (.inl x), a3] st σ Q ↔ sl_Go xs N 91 2 [a0, a1, some (.inl x), a3] (.inl x :: st) σ Q := gk_iload rfl rfl
theorem g91_2 {L : sl_L} {x y : Int32} : sl_Go xs N 91 2 L (.inl y :: .inl x :: st) σ Q ↔ (x < y → sl_Go xs N 91 14 L st σ Q) ∧ (¬ x < y → sl_Go xs N 91 5 L st σ Q) := gk_ilt rfl
theorem g91_5 {x : Int32} {a0 a2 a3 : Option sl_V} : sl_Go xs N 91 5 [a0, some (.inl x), a2, a3] st σ Q ↔ sl_Go xs N 91 6 [a0, some (.inl x), a2, a3] (.inl x :: st) σ Q := gk_iload rfl rfl
theorem g91_6 {x : Int32} {a0 a1 a2 : Option sl_V} : sl_Go xs N 91 6 [a0, a1, a2, some (.inl x)] st σ Q ↔ sl_Go xs N 91 7 [a0, a1, a2, some (.inl x)] (.inl x :: st) σ Q := gk_iload rfl rfl
theorem g91_7 {L : sl_L} {x y : Int32} : sl_Go xs N 91 7 L (.inl y :: .inl x :: st) σ Q ↔ (y < x → sl_Go xs N 91 14 L st σ Q) ∧ (¬ y < x → sl_Go xs N 91 10 L st σ Q) := gk_igt rfl
theorem g91_10 {L : sl_L} : sl_Go xs N 91 10 L st σ Q ↔ sl_Go xs N 91 11 L (.inl 1 :: st) σ Q := gk_const rfl
theorem g91_11 {L : sl_L} : sl_Go xs N 91 11 L st σ Q ↔ sl_Go xs N 91 15 L st σ Q := gk_goto rfl
theorem g91_14 {L : sl_L} : sl_Go xs N 91 14 L st σ Q ↔ sl_Go xs N 91 15 L (.inl 0 :: st) σ Q := gk_const rfl
theorem g91_15 {L : sl_L} {x : Int32} : sl_Go xs N 91 15 L [.inl x] σ Q ↔ (x = 0 ∨ x = 1) ∧ Q (some (.inl x)) σ := gk_zret rfl
theorem g92_0 {x : Int32} {a0 : Option sl_V} : sl_Go xs N 92 0 [a0, some (.inl x)] st σ Q ↔ sl_Go xs N 92 1 [a0, some (.inl x)] (.inl x :: st) σ Q := gk_iload rfl rfl
theorem g92_1 {L : sl_L} {x : Int32} : sl_Go xs N 92 1 L (.inl x :: st) σ Q ↔ (0 ≤ x → sl_Go xs N 92 9 L st σ Q) ∧ (¬ 0 ≤ x → sl_Go xs N 92 4 L st σ Q) := gk_zge rfl
theorem g92_4 {x : Int32} {a0 : Option sl_V} : sl_Go xs N 92 4 [a0, some (.inl x)] st σ Q ↔ sl_Go xs N 92 5 [a0, some (.inl x)] (.inl x :: st) σ Q := gk_iload rfl rfl
theorem g92_5 {L : sl_L} {x : Int32} : sl_Go xs N 92 5 L (.inl x :: st) σ Q ↔ sl_Go xs N 92 6 L (.inl (-x) :: st) σ Q := gk_ineg rfl
theorem g92_6 {L : sl_L} : sl_Go xs N 92 6 L st σ Q ↔ sl_Go xs N 92 10 L st σ Q := gk_goto rfl
theorem g92_9 {x : Int32} {a0 : Option sl_V} : sl_Go xs N 92 9 [a0, some (.inl x)] st σ Q ↔ sl_Go xs N 92 10 [a0, some (.inl x)] (.inl x :: st) σ Q := gk_iload rfl rfl
theorem g92_10 {L : sl_L} {x : Int32} : sl_Go xs N 92 10 L [.inl x] σ Q ↔ Q (some (.inl x)) σ := gk_iret rfl
theorem g93_0 {x : sl_R} {a1 : Option sl_V} : sl_Go xs N 93 0 [some (.inr (.inr x)), a1] st σ Q ↔ sl_Go xs N 93 1 [some (.inr (.inr x)), a1] (.inr (.inr x) :: st) σ Q := gk_aload rfl rfl
theorem g93_1 {x : Int32} {a0 : Option sl_V} : sl_Go xs N 93 1 [a0, some (.inl x)] st σ Q ↔ sl_Go xs N 93 2 [a0, some (.inl x)] (.inl x :: st) σ Q := gk_iload rfl rfl
theorem g93_2 {L : sl_L} : sl_Go xs N 93 2 L st σ Q ↔ sl_Go xs N 93 3 L (.inl 0 :: st) σ Q := gk_const rfl
theorem g93_3 {x : sl_R} {a1 : Option sl_V} : sl_Go xs N 93 3 [some (.inr (.inr x)), a1] st σ Q ↔ sl_Go xs N 93 4 [some (.inr (.inr x)), a1] (.inr (.inr x) :: st) σ Q := gk_aload rfl rfl
theorem g93_4 {L : sl_L} {i t : Nat} : sl_Go xs N 93 4 L (.inr (.inr (40, i, t)) :: st) σ Q ↔ sl_Go xs N 93 7 L (.inl (σ 6 0 0) :: st) σ Q := gk_get (g := .inl (6, 0, 0)) rfl rfl rfl
theorem g93_7 {L : sl_L} : sl_Go xs N 93 7 L st σ Q ↔ sl_Go xs N 93 8 L (.inl 1 :: st) σ Q := gk_const rfl
theorem g93_8 {L : sl_L} {x y : Int32} : sl_Go xs N 93 8 L (.inl y :: .inl x :: st) σ Q ↔ sl_Go xs N 93 9 L (.inl (x - y) :: st) σ Q := gk_bin (b := 9) rfl
theorem g93_9 {L : sl_L} {x0 : Int32} {x1 : Int32} {x2 : Int32} {i t : Nat} : sl_Go xs N 93 9 L (.inl x2 :: .inl x1 :: .inl x0 :: .inr (.inr (40, i, t)) :: st) σ Q ↔ sl_cw st ≤ 8 ∧ sl_Go xs N 91 0 [some (.inr (.inr (40, i, t))), some (.inl x0), some (.inl x1), some (.inl x2)] [] σ (fun r τ => sl_Go xs N 93 12 L (r.toList ++ st) τ Q) := gk_call rfl (Nat.le_add_left 4 st.length) rfl rfl rfl rfl (Nat.le_of_ble_eq_true rfl)
theorem g93_12 {L : sl_L} {x : Int32} : sl_Go xs N 93 12 L [.inl x] σ Q ↔ (x = 0 ∨ x = 1) ∧ Q (some (.inl x)) σ := gk_zret rfl
theorem g94_0 {x : Int32} {a0 : Option sl_V} : sl_Go xs N 94 0 [a0, some (.inl x)] st σ Q ↔ sl_Go xs N 94 1 [a0, some (.inl x)] (.inl x :: st) σ Q := gk_iload rfl rfl
theorem g94_1 {L : sl_L} : sl_Go xs N 94 1 L st σ Q ↔ sl_Go xs N 94 2 L (.inl 4 :: st) σ Q := gk_const rfl
theorem g94_2 {L : sl_L} {x y : Int32} : sl_Go xs N 94 2 L (.inl y :: .inl x :: st) σ Q ↔ (y ≤ x → sl_Go xs N 94 9 L st σ Q) ∧ (¬ y ≤ x → sl_Go xs N 94 5 L st σ Q) := gk_ige rfl
theorem g94_5 {L : sl_L} : sl_Go xs N 94 5 L st σ Q ↔ sl_Go xs N 94 6 L (.inl 1 :: st) σ Q := gk_const rfl
theorem g94_6 {L : sl_L} : sl_Go xs N 94 6 L st σ Q ↔ sl_Go xs N 94 10 L st σ Q := gk_goto rfl
theorem g94_9 {L : sl_L} : sl_Go xs N 94 9 L st σ Q ↔ sl_Go xs N 94 10 L (.inl 0 :: st) σ Q := gk_const rfl
theorem g94_10 {L : sl_L} {x : Int32} : sl_Go xs N 94 10 L [.inl x] σ Q ↔ (x = 0 ∨ x = 1) ∧ Q (some (.inl x)) σ := gk_zret rfl
theorem g95_0 {x : Int32} {a0 a2 : Option sl_V} : sl_Go xs N 95 0 [a0, some (.inl x), a2] st σ Q ↔ sl_Go xs N 95 1 [a0, some (.inl x), a2] (.inl x :: st) σ Q := gk_iload rfl rfl
theorem g95_1 {L : sl_L} : sl_Go xs N 95 1 L st σ Q ↔ sl_Go xs N 95 2 L (.inl 2 :: st) σ Q := gk_const rfl
theorem g95_2 {L : sl_L} {x y : Int32} : sl_Go xs N 95 2 L (.inl y :: .inl x :: st) σ Q ↔ (x = y → sl_Go xs N 95 10 L st σ Q) ∧ (¬ x = y → sl_Go xs N 95 5 L st σ Q) := gk_ieq rfl
theorem g95_5 {x : Int32} {a0 a2 : Option sl_V} : sl_Go xs N 95 5 [a0, some (.inl x), a2] st σ Q ↔ sl_Go xs N 95 6 [a0, some (.inl x), a2] (.inl x :: st) σ Q := gk_iload rfl rfl
theorem g95_6 {L : sl_L} : sl_Go xs N 95 6 L st σ Q ↔ sl_Go xs N 95 7 L (.inl 4 :: st) σ Q := gk_const rfl
theorem g95_7 {L : sl_L} {x y : Int32} : sl_Go xs N 95 7 L (.inl y :: .inl x :: st) σ Q ↔ (¬ x = y → sl_Go xs N 95 16 L st σ Q) ∧ (x = y → sl_Go xs N 95 10 L st σ Q) := gk_ine rfl
theorem g95_10 {x : Int32} {a0 a1 : Option sl_V} : sl_Go xs N 95 10 [a0, a1, some (.inl x)] st σ Q ↔ sl_Go xs N 95 11 [a0, a1, some (.inl x)] (.inl x :: st) σ Q := gk_iload rfl rfl
theorem g95_11 {L : sl_L} : sl_Go xs N 95 11 L st σ Q ↔ sl_Go xs N 95 12 L (.inl 2 :: st) σ Q := gk_const rfl
theorem g95_12 {L : sl_L} {x y : Int32} : sl_Go xs N 95 12 L (.inl y :: .inl x :: st) σ Q ↔ ¬ y = 0 ∧ sl_Go xs N 95 13 L (.inl (x / y) :: st) σ Q := gk_idiv rfl
theorem g95_13 {L : sl_L} : sl_Go xs N 95 13 L st σ Q ↔ sl_Go xs N 95 28 L st σ Q := gk_goto rfl
theorem g95_16 {x : Int32} {a0 a2 : Option sl_V} : sl_Go xs N 95 16 [a0, some (.inl x), a2] st σ Q ↔ sl_Go xs N 95 17 [a0, some (.inl x), a2] (.inl x :: st) σ Q := gk_iload rfl rfl
theorem g95_17 {L : sl_L} : sl_Go xs N 95 17 L st σ Q ↔ sl_Go xs N 95 18 L (.inl 5 :: st) σ Q := gk_const rfl
theorem g95_18 {L : sl_L} {x y : Int32} : sl_Go xs N 95 18 L (.inl y :: .inl x :: st) σ Q ↔ (¬ x = y → sl_Go xs N 95 27 L st σ Q) ∧ (x = y → sl_Go xs N 95 21 L st σ Q) := gk_ine rfl
theorem g95_21 {L : sl_L} : sl_Go xs N 95 21 L st σ Q ↔ sl_Go xs N 95 22 L (.inl 2 :: st) σ Q := gk_const rfl
theorem g95_22 {x : Int32} {a0 a1 : Option sl_V} : sl_Go xs N 95 22 [a0, a1, some (.inl x)] st σ Q ↔ sl_Go xs N 95 23 [a0, a1, some (.inl x)] (.inl x :: st) σ Q := gk_iload rfl rfl
theorem g95_23 {L : sl_L} {x y : Int32} : sl_Go xs N 95 23 L (.inl y :: .inl x :: st) σ Q ↔ sl_Go xs N 95 24 L (.inl (x * y) :: st) σ Q := gk_bin (b := 10) rfl
theorem g95_24 {L : sl_L} : sl_Go xs N 95 24 L st σ Q ↔ sl_Go xs N 95 28 L st σ Q := gk_goto rfl
theorem g95_27 {x : Int32} {a0 a1 : Option sl_V} : sl_Go xs N 95 27 [a0, a1, some (.inl x)] st σ Q ↔ sl_Go xs N 95 28 [a0, a1, some (.inl x)] (.inl x :: st) σ Q := gk_iload rfl rfl
theorem g95_28 {L : sl_L} {x : Int32} : sl_Go xs N 95 28 L [.inl x] σ Q ↔ Q (some (.inl x)) σ := gk_iret rfl
theorem g96_0 {x : sl_R} {a1 : Option sl_V} : sl_Go xs N 96 0 [some (.inr (.inr x)), a1] st σ Q ↔ sl_Go xs N 96 1 [some (.inr (.inr x)), a1] (.inr (.inr x) :: st) σ Q := gk_aload rfl rfl
theorem g96_1 {L : sl_L} {i t : Nat} : sl_Go xs N 96 1 L (.inr (.inr (40, i, t)) :: st) σ Q ↔ sl_Go xs N 96 4 L (.inr (.inr (42, 0, 0)) :: st) σ Q := gk_get (g := .inr (42, 0, 0)) rfl rfl rfl
theorem g96_4 {x : Int32} {a0 : Option sl_V} : sl_Go xs N 96 4 [a0, some (.inl x)] st σ Q ↔ sl_Go xs N 96 5 [a0, some (.inl x)] (.inl x :: st) σ Q := gk_iload rfl rfl
theorem g96_5 {L : sl_L} {j : Int32} {r : sl_R} : sl_Go xs N 96 5 L (.inl j :: .inr (.inr r) :: st) σ Q ↔ (0 ≤ j.toInt ∧ j.toInt < sl_ilen N r) ∧ sl_Go xs N 96 6 L (.inl (sl_rd xs σ r j.toNatClampNeg) :: st) σ Q := gk_iald rfl
theorem g96_6 {x : sl_R} {a1 : Option sl_V} : sl_Go xs N 96 6 [some (.inr (.inr x)), a1] st σ Q ↔ sl_Go xs N 96 7 [some (.inr (.inr x)), a1] (.inr (.inr x) :: st) σ Q := gk_aload rfl rfl
theorem g96_7 {L : sl_L} {i t : Nat} : sl_Go xs N 96 7 L (.inr (.inr (40, i, t)) :: st) σ Q ↔ sl_Go xs N 96 10 L (.inr (.inr (43, 0, 0)) :: st) σ Q := gk_get (g := .inr (43, 0, 0)) rfl rfl rfl
theorem g96_10 {x : Int32} {a0 : Option sl_V} : sl_Go xs N 96 10 [a0, some (.inl x)] st σ Q ↔ sl_Go xs N 96 11 [a0, some (.inl x)] (.inl x :: st) σ Q := gk_iload rfl rfl
theorem g96_11 {L : sl_L} {j : Int32} {r : sl_R} : sl_Go xs N 96 11 L (.inl j :: .inr (.inr r) :: st) σ Q ↔ (0 ≤ j.toInt ∧ j.toInt < sl_ilen N r) ∧ sl_Go xs N 96 12 L (.inl (sl_rd xs σ r j.toNatClampNeg) :: st) σ Q := gk_iald rfl
theorem g96_12 {L : sl_L} {x y : Int32} : sl_Go xs N 96 12 L (.inl y :: .inl x :: st) σ Q ↔ sl_Go xs N 96 13 L (.inl (x * y) :: st) σ Q := gk_bin (b := 10) rfl
theorem g96_13 {L : sl_L} {x : Int32} : sl_Go xs N 96 13 L [.inl x] σ Q ↔ Q (some (.inl x)) σ := gk_iret rfl
theorem g97_0 {L : sl_L} : sl_Go xs N 97 0 L st σ Q ↔ sl_Go xs N 97 1 L (.inl 0 :: st) σ Q := gk_const rfl
theorem g97_1n {x : Int32} {a0 a2 a3 : Option sl_V} : sl_Go xs N 97 1 [a0, none, a2, a3] (.inl x :: st) σ Q ↔ sl_Go xs N 97 2 [a0, none, some (.inl x), a3] st σ Q := gk_istore rfl ⟨Nat.le_of_ble_eq_true rfl, rfl⟩ rfl
theorem g97_1i {x : Int32} {z : Int32} {a0 a2 a3 : Option sl_V} : sl_Go xs N 97 1 [a0, some (.inl z), a2, a3] (.inl x :: st) σ Q ↔ sl_Go xs N 97 2 [a0, some (.inl z), some (.inl x), a3] st σ Q := gk_istore rfl ⟨Nat.le_of_ble_eq_true rfl, rfl⟩ rfl
theorem g97_1r {x : Int32} {z : sl_R} {a0 a2 a3 : Option sl_V} : sl_Go xs N 97 1 [a0, some (.inr (.inr z)), a2, a3] (.inl x :: st) σ Q ↔ sl_Go xs N 97 2 [a0, some (.inr (.inr z)), some (.inl x), a3] st σ Q := gk_istore rfl ⟨Nat.le_of_ble_eq_true rfl, rfl⟩ rfl
theorem g97_2 {L : sl_L} : sl_Go xs N 97 2 L st σ Q ↔ sl_Go xs N 97 3 L (.inl 0 :: st) σ Q := gk_const rfl
theorem g97_3n {x : Int32} {a0 a1 a3 : Option sl_V} : sl_Go xs N 97 3 [a0, a1, none, a3] (.inl x :: st) σ Q ↔ sl_Go xs N 97 4 [a0, a1, none, some (.inl x)] st σ Q := gk_istore rfl ⟨Nat.le_of_ble_eq_true rfl, rfl⟩ rfl
theorem g97_3i {x : Int32} {z : Int32} {a0 a1 a3 : Option sl_V} : sl_Go xs N 97 3 [a0, a1, some (.inl z), a3] (.inl x :: st) σ Q ↔ sl_Go xs N 97 4 [a0, a1, some (.inl z), some (.inl x)] st σ Q := gk_istore rfl ⟨Nat.le_of_ble_eq_true rfl, rfl⟩ rfl
theorem g97_3r {x : Int32} {z : sl_R} {a0 a1 a3 : Option sl_V} : sl_Go xs N 97 3 [a0, a1, some (.inr (.inr z)), a3] (.inl x :: st) σ Q ↔ sl_Go xs N 97 4 [a0, a1, some (.inr (.inr z)), some (.inl x)] st σ Q := gk_istore rfl ⟨Nat.le_of_ble_eq_true rfl, rfl⟩ rfl
theorem g97_4 {x : Int32} {a0 a1 a2 : Option sl_V} : sl_Go xs N 97 4 [a0, a1, a2, some (.inl x)] st σ Q ↔ sl_Go xs N 97 5 [a0, a1, a2, some (.inl x)] (.inl x :: st) σ Q := gk_iload rfl rfl
theorem g97_5 {x : sl_R} {a1 a2 a3 : Option sl_V} : sl_Go xs N 97 5 [some (.inr (.inr x)), a1, a2, a3] st σ Q ↔ sl_Go xs N 97 6 [some (.inr (.inr x)), a1, a2, a3] (.inr (.inr x) :: st) σ Q := gk_aload rfl rfl
theorem g97_6 {L : sl_L} {i t : Nat} : sl_Go xs N 97 6 L (.inr (.inr (40, i, t)) :: st) σ Q ↔ sl_Go xs N 97 9 L (.inr (.inr (42, 0, 0)) :: st) σ Q := gk_get (g := .inr (42, 0, 0)) rfl rfl rfl
theorem g97_9 {x : Int32} {a0 a2 a3 : Option sl_V} : sl_Go xs N 97 9 [a0, some (.inl x), a2, a3] st σ Q ↔ sl_Go xs N 97 10 [a0, some (.inl x), a2, a3] (.inl x :: st) σ Q := gk_iload rfl rfl
theorem g97_10 {L : sl_L} {j : Int32} {r : sl_R} : sl_Go xs N 97 10 L (.inl j :: .inr (.inr r) :: st) σ Q ↔ (0 ≤ j.toInt ∧ j.toInt < sl_ilen N r) ∧ sl_Go xs N 97 11 L (.inl (sl_rd xs σ r j.toNatClampNeg) :: st) σ Q := gk_iald rfl
theorem g97_11 {L : sl_L} {x y : Int32} : sl_Go xs N 97 11 L (.inl y :: .inl x :: st) σ Q ↔ (y ≤ x → sl_Go xs N 97 34 L st σ Q) ∧ (¬ y ≤ x → sl_Go xs N 97 14 L st σ Q) := gk_ige rfl
theorem g97_14 {x : Int32} {a0 a1 a3 : Option sl_V} : sl_Go xs N 97 14 [a0, a1, some (.inl x), a3] st σ Q ↔ sl_Go xs N 97 15 [a0, a1, some (.inl x), a3] (.inl x :: st) σ Q := gk_iload rfl rfl
theorem g97_15 {x : sl_R} {a1 a2 a3 : Option sl_V} : sl_Go xs N 97 15 [some (.inr (.inr x)), a1, a2, a3] st σ Q ↔ sl_Go xs N 97 16 [some (.inr (.inr x)), a1, a2, a3] (.inr (.inr x) :: st) σ Q := gk_aload rfl rfl
theorem g97_16 {L : sl_L} {i t : Nat} : sl_Go xs N 97 16 L (.inr (.inr (40, i, t)) :: st) σ Q ↔ sl_Go xs N 97 19 L (.inr (.inr (47, 0, 0)) :: st) σ Q := gk_get (g := .inr (47, 0, 0)) rfl rfl rfl
theorem g97_19 {L : sl_L} : sl_Go xs N 97 19 L st σ Q ↔ sl_Go xs N 97 21 L (.inl 12 :: st) σ Q := gk_const rfl
theorem g97_21 {x : Int32} {a0 a2 a3 : Option sl_V} : sl_Go xs N 97 21 [a0, some (.inl x), a2, a3] st σ Q ↔ sl_Go xs N 97 22 [a0, some (.inl x), a2, a3] (.inl x :: st) σ Q := gk_iload rfl rfl
theorem g97_22 {L : sl_L} {x y : Int32} : sl_Go xs N 97 22 L (.inl y :: .inl x :: st) σ Q ↔ sl_Go xs N 97 23 L (.inl (x * y) :: st) σ Q := gk_bin (b := 10) rfl
theorem g97_23 {x : Int32} {a0 a1 a2 : Option sl_V} : sl_Go xs N 97 23 [a0, a1, a2, some (.inl x)] st σ Q ↔ sl_Go xs N 97 24 [a0, a1, a2, some (.inl x)] (.inl x :: st) σ Q := gk_iload rfl rfl
theorem g97_24 {L : sl_L} {x y : Int32} : sl_Go xs N 97 24 L (.inl y :: .inl x :: st) σ Q ↔ sl_Go xs N 97 25 L (.inl (x + y) :: st) σ Q := gk_bin (b := 8) rfl
theorem g97_25 {L : sl_L} {j : Int32} {r : sl_R} : sl_Go xs N 97 25 L (.inl j :: .inr (.inr r) :: st) σ Q ↔ (0 ≤ j.toInt ∧ j.toInt < sl_ilen N r) ∧ sl_Go xs N 97 26 L (.inl (sl_rd xs σ r j.toNatClampNeg) :: st) σ Q := gk_iald rfl
theorem g97_26 {L : sl_L} {x y : Int32} : sl_Go xs N 97 26 L (.inl y :: .inl x :: st) σ Q ↔ sl_Go xs N 97 27 L (.inl (x + y) :: st) σ Q := gk_bin (b := 8) rfl
theorem g97_27n {x : Int32} {a0 a2 a3 : Option sl_V} : sl_Go xs N 97 27 [a0, none, a2, a3] (.inl x :: st) σ Q ↔ sl_Go xs N 97 28 [a0, none, some (.inl x), a3] st σ Q := gk_istore rfl ⟨Nat.le_of_ble_eq_true rfl, rfl⟩ rfl
theorem g97_27i {x : Int32} {z : Int32} {a0 a2 a3 : Option sl_V} : sl_Go xs N 97 27 [a0, some (.inl z), a2, a3] (.inl x :: st) σ Q ↔ sl_Go xs N 97 28 [a0, some (.inl z), some (.inl x), a3] st σ Q := gk_istore rfl ⟨Nat.le_of_ble_eq_true rfl, rfl⟩ rfl
theorem g97_27r {x : Int32} {z : sl_R} {a0 a2 a3 : Option sl_V} : sl_Go xs N 97 27 [a0, some (.inr (.inr z)), a2, a3] (.inl x :: st) σ Q ↔ sl_Go xs N 97 28 [a0, some (.inr (.inr z)), some (.inl x), a3] st σ Q := gk_istore rfl ⟨Nat.le_of_ble_eq_true rfl, rfl⟩ rfl
theorem g97_28n {x : Int32} {a0 a1 : Option sl_V} : sl_Go xs N 97 28 [a0, a1, none, some (.inl x)] st σ Q ↔ sl_Go xs N 97 31 [a0, a1, none, some (.inl (x + 1))] st σ Q := gk_iinc rfl rfl rfl rfl
theorem g97_28i {x : Int32} {z : Int32} {a0 a1 : Option sl_V} : sl_Go xs N 97 28 [a0, a1, some (.inl z), some (.inl x)] st σ Q ↔ sl_Go xs N 97 31 [a0, a1, some (.inl z), some (.inl (x + 1))] st σ Q := gk_iinc rfl rfl rfl rfl
theorem g97_28r {x : Int32} {z : sl_R} {a0 a1 : Option sl_V} : sl_Go xs N 97 28 [a0, a1, some (.inr (.inr z)), some (.inl x)] st σ Q ↔ sl_Go xs N 97 31 [a0, a1, some (.inr (.inr z)), some (.inl (x + 1))] st σ Q := gk_iinc rfl rfl rfl rfl
theorem g97_31 {L : sl_L} : sl_Go xs N 97 31 L st σ Q ↔ sl_Go xs N 97 4 L st σ Q := gk_goto rfl
theorem g97_34 {x : Int32} {a0 a1 a3 : Option sl_V} : sl_Go xs N 97 34 [a0, a1, some (.inl x), a3] st σ Q ↔ sl_Go xs N 97 35 [a0, a1, some (.inl x), a3] (.inl x :: st) σ Q := gk_iload rfl rfl
theorem g97_35 {L : sl_L} {x : Int32} : sl_Go xs N 97 35 L [.inl x] σ Q ↔ Q (some (.inl x)) σ := gk_iret rfl
theorem g98_0 {L : sl_L} : sl_Go xs N 98 0 L st σ Q ↔ sl_Go xs N 98 1 L (.inl 0 :: st) σ Q := gk_const rfl
theorem g98_1n {x : Int32} {a0 a1 a3 : Option sl_V} : sl_Go xs N 98 1 [a0, a1, none, a3] (.inl x :: st) σ Q ↔ sl_Go xs N 98 2 [a0, a1, none, some (.inl x)] st σ Q := gk_istore rfl ⟨Nat.le_of_ble_eq_true rfl, rfl⟩ rfl
theorem g98_1i {x : Int32} {z : Int32} {a0 a1 a3 : Option sl_V} : sl_Go xs N 98 1 [a0, a1, some (.inl z), a3] (.inl x :: st) σ Q ↔ sl_Go xs N 98 2 [a0, a1, some (.inl z), some (.inl x)] st σ Q := gk_istore rfl ⟨Nat.le_of_ble_eq_true rfl, rfl⟩ rfl
theorem g98_1r {x : Int32} {z : sl_R} {a0 a1 a3 : Option sl_V} : sl_Go xs N 98 1 [a0, a1, some (.inr (.inr z)), a3] (.inl x :: st) σ Q ↔ sl_Go xs N 98 2 [a0, a1, some (.inr (.inr z)), some (.inl x)] st σ Q := gk_istore rfl ⟨Nat.le_of_ble_eq_true rfl, rfl⟩ rfl
theorem g98_2 {x : Int32} {a0 a1 a2 : Option sl_V} : sl_Go xs N 98 2 [a0, a1, a2, some (.inl x)] st σ Q ↔ sl_Go xs N 98 3 [a0, a1, a2, some (.inl x)] (.inl x :: st) σ Q := gk_iload rfl rfl
theorem g98_3 {x : sl_R} {a1 a2 a3 : Option sl_V} : sl_Go xs N 98 3 [some (.inr (.inr x)), a1, a2, a3] st σ Q ↔ sl_Go xs N 98 4 [some (.inr (.inr x)), a1, a2, a3] (.inr (.inr x) :: st) σ Q := gk_aload rfl rfl
theorem g98_4 {L : sl_L} {i t : Nat} : sl_Go xs N 98 4 L (.inr (.inr (40, i, t)) :: st) σ Q ↔ sl_Go xs N 98 7 L (.inr (.inr (42, 0, 0)) :: st) σ Q := gk_get (g := .inr (42, 0, 0)) rfl rfl rfl
theorem g98_7 {x : Int32} {a0 a2 a3 : Option sl_V} : sl_Go xs N 98 7 [a0, some (.inl x), a2, a3] st σ Q ↔ sl_Go xs N 98 8 [a0, some (.inl x), a2, a3] (.inl x :: st) σ Q := gk_iload rfl rfl
theorem g98_8 {L : sl_L} {j : Int32} {r : sl_R} : sl_Go xs N 98 8 L (.inl j :: .inr (.inr r) :: st) σ Q ↔ (0 ≤ j.toInt ∧ j.toInt < sl_ilen N r) ∧ sl_Go xs N 98 9 L (.inl (sl_rd xs σ r j.toNatClampNeg) :: st) σ Q := gk_iald rfl
theorem g98_9 {L : sl_L} {x y : Int32} : sl_Go xs N 98 9 L (.inl y :: .inl x :: st) σ Q ↔ (y ≤ x → sl_Go xs N 98 67 L st σ Q) ∧ (¬ y ≤ x → sl_Go xs N 98 12 L st σ Q) := gk_ige rfl
theorem g98_12 {x : sl_R} {a1 a2 a3 : Option sl_V} : sl_Go xs N 98 12 [some (.inr (.inr x)), a1, a2, a3] st σ Q ↔ sl_Go xs N 98 13 [some (.inr (.inr x)), a1, a2, a3] (.inr (.inr x) :: st) σ Q := gk_aload rfl rfl
theorem g98_13 {L : sl_L} {i t : Nat} : sl_Go xs N 98 13 L (.inr (.inr (40, i, t)) :: st) σ Q ↔ sl_Go xs N 98 16 L (.inr (.inr (47, 0, 0)) :: st) σ Q := gk_get (g := .inr (47, 0, 0)) rfl rfl rfl
theorem g98_16 {L : sl_L} : sl_Go xs N 98 16 L st σ Q ↔ sl_Go xs N 98 18 L (.inl 12 :: st) σ Q := gk_const rfl
theorem g98_18 {x : Int32} {a0 a2 a3 : Option sl_V} : sl_Go xs N 98 18 [a0, some (.inl x), a2, a3] st σ Q ↔ sl_Go xs N 98 19 [a0, some (.inl x), a2, a3] (.inl x :: st) σ Q := gk_iload rfl rfl
theorem g98_19 {L : sl_L} {x y : Int32} : sl_Go xs N 98 19 L (.inl y :: .inl x :: st) σ Q ↔ sl_Go xs N 98 20 L (.inl (x * y) :: st) σ Q := gk_bin (b := 10) rfl
theorem g98_20 {x : Int32} {a0 a1 a2 : Option sl_V} : sl_Go xs N 98 20 [a0, a1, a2, some (.inl x)] st σ Q ↔ sl_Go xs N 98 21 [a0, a1, a2, some (.inl x)] (.inl x :: st) σ Q := gk_iload rfl rfl
theorem g98_21 {L : sl_L} {x y : Int32} : sl_Go xs N 98 21 L (.inl y :: .inl x :: st) σ Q ↔ sl_Go xs N 98 22 L (.inl (x + y) :: st) σ Q := gk_bin (b := 8) rfl
theorem g98_22 {x : Int32} {a0 a1 a3 : Option sl_V} : sl_Go xs N 98 22 [a0, a1, some (.inl x), a3] st σ Q ↔ sl_Go xs N 98 23 [a0, a1, some (.inl x), a3] (.inl x :: st) σ Q := gk_iload rfl rfl
theorem g98_23 {x : sl_R} {a1 a2 a3 : Option sl_V} : sl_Go xs N 98 23 [some (.inr (.inr x)), a1, a2, a3] st σ Q ↔ sl_Go xs N 98 24 [some (.inr (.inr x)), a1, a2, a3] (.inr (.inr x) :: st) σ Q := gk_aload rfl rfl
theorem g98_24 {L : sl_L} {i t : Nat} : sl_Go xs N 98 24 L (.inr (.inr (40, i, t)) :: st) σ Q ↔ sl_Go xs N 98 27 L (.inr (.inr (42, 0, 0)) :: st) σ Q := gk_get (g := .inr (42, 0, 0)) rfl rfl rfl
theorem g98_27 {x : Int32} {a0 a2 a3 : Option sl_V} : sl_Go xs N 98 27 [a0, some (.inl x), a2, a3] st σ Q ↔ sl_Go xs N 98 28 [a0, some (.inl x), a2, a3] (.inl x :: st) σ Q := gk_iload rfl rfl
theorem g98_28 {L : sl_L} {j : Int32} {r : sl_R} : sl_Go xs N 98 28 L (.inl j :: .inr (.inr r) :: st) σ Q ↔ (0 ≤ j.toInt ∧ j.toInt < sl_ilen N r) ∧ sl_Go xs N 98 29 L (.inl (sl_rd xs σ r j.toNatClampNeg) :: st) σ Q := gk_iald rfl
theorem g98_29 {L : sl_L} {x y : Int32} : sl_Go xs N 98 29 L (.inl y :: .inl x :: st) σ Q ↔ ¬ y = 0 ∧ sl_Go xs N 98 30 L (.inl (x / y) :: st) σ Q := gk_idiv rfl
theorem g98_30 {x : Int32} {a0 a1 a2 : Option sl_V} : sl_Go xs N 98 30 [a0, a1, a2, some (.inl x)] st σ Q ↔ sl_Go xs N 98 31 [a0, a1, a2, some (.inl x)] (.inl x :: st) σ Q := gk_iload rfl rfl
theorem g98_31 {x : Int32} {a0 a1 a3 : Option sl_V} : sl_Go xs N 98 31 [a0, a1, some (.inl x), a3] st σ Q ↔ sl_Go xs N 98 32 [a0, a1, some (.inl x), a3] (.inl x :: st) σ Q := gk_iload rfl rfl
theorem g98_32 {x : sl_R} {a1 a2 a3 : Option sl_V} : sl_Go xs N 98 32 [some (.inr (.inr x)), a1, a2, a3] st σ Q ↔ sl_Go xs N 98 33 [some (.inr (.inr x)), a1, a2, a3] (.inr (.inr x) :: st) σ Q := gk_aload rfl rfl
theorem g98_33 {L : sl_L} {i t : Nat} : sl_Go xs N 98 33 L (.inr (.inr (40, i, t)) :: st) σ Q ↔ sl_Go xs N 98 36 L (.inr (.inr (42, 0, 0)) :: st) σ Q := gk_get (g := .inr (42, 0, 0)) rfl rfl rfl
theorem g98_36 {x : Int32} {a0 a2 a3 : Option sl_V} : sl_Go xs N 98 36 [a0, some (.inl x), a2, a3] st σ Q ↔ sl_Go xs N 98 37 [a0, some (.inl x), a2, a3] (.inl x :: st) σ Q := gk_iload rfl rfl
theorem g98_37 {L : sl_L} {j : Int32} {r : sl_R} : sl_Go xs N 98 37 L (.inl j :: .inr (.inr r) :: st) σ Q ↔ (0 ≤ j.toInt ∧ j.toInt < sl_ilen N r) ∧ sl_Go xs N 98 38 L (.inl (sl_rd xs σ r j.toNatClampNeg) :: st) σ Q := gk_iald rfl
theorem g98_38 {L : sl_L} {x y : Int32} : sl_Go xs N 98 38 L (.inl y :: .inl x :: st) σ Q ↔ ¬ y = 0 ∧ sl_Go xs N 98 39 L (.inl (x - x / y * y) :: st) σ Q := gk_irem rfl
theorem g98_39 {L : sl_L} {x y : Int32} : sl_Go xs N 98 39 L (.inl y :: .inl x :: st) σ Q ↔ (y ≤ x → sl_Go xs N 98 46 L st σ Q) ∧ (¬ y ≤ x → sl_Go xs N 98 42 L st σ Q) := gk_ige rfl
theorem g98_42 {L : sl_L} : sl_Go xs N 98 42 L st σ Q ↔ sl_Go xs N 98 43 L (.inl 1 :: st) σ Q := gk_const rfl
theorem g98_43 {L : sl_L} : sl_Go xs N 98 43 L st σ Q ↔ sl_Go xs N 98 47 L st σ Q := gk_goto rfl
theorem g98_46 {L : sl_L} : sl_Go xs N 98 46 L st σ Q ↔ sl_Go xs N 98 47 L (.inl 0 :: st) σ Q := gk_const rfl
theorem g98_47 {L : sl_L} {x y : Int32} : sl_Go xs N 98 47 L (.inl y :: .inl x :: st) σ Q ↔ sl_Go xs N 98 48 L (.inl (x + y) :: st) σ Q := gk_bin (b := 8) rfl
theorem g98_48 {L : sl_L} {j x : Int32} {r : sl_R} : sl_Go xs N 98 48 L (.inl x :: .inl j :: .inr (.inr r) :: st) σ Q ↔ (0 ≤ j.toInt ∧ j.toInt < sl_wlen r 0) ∧ sl_Go xs N 98 49 L st (sl_wr σ r j.toNatClampNeg x) Q := gk_iast rfl
theorem g98_49 {x : sl_R} {a1 a2 a3 : Option sl_V} : sl_Go xs N 98 49 [some (.inr (.inr x)), a1, a2, a3] st σ Q ↔ sl_Go xs N 98 50 [some (.inr (.inr x)), a1, a2, a3] (.inr (.inr x) :: st) σ Q := gk_aload rfl rfl
theorem g98_50 {L : sl_L} {i t : Nat} : sl_Go xs N 98 50 L (.inr (.inr (40, i, t)) :: st) σ Q ↔ sl_Go xs N 98 53 L (.inr (.inr (48, 0, 0)) :: st) σ Q := gk_get (g := .inr (48, 0, 0)) rfl rfl rfl
theorem g98_53 {L : sl_L} : sl_Go xs N 98 53 L st σ Q ↔ sl_Go xs N 98 55 L (.inl 12 :: st) σ Q := gk_const rfl
theorem g98_55 {x : Int32} {a0 a2 a3 : Option sl_V} : sl_Go xs N 98 55 [a0, some (.inl x), a2, a3] st σ Q ↔ sl_Go xs N 98 56 [a0, some (.inl x), a2, a3] (.inl x :: st) σ Q := gk_iload rfl rfl
theorem g98_56 {L : sl_L} {x y : Int32} : sl_Go xs N 98 56 L (.inl y :: .inl x :: st) σ Q ↔ sl_Go xs N 98 57 L (.inl (x * y) :: st) σ Q := gk_bin (b := 10) rfl
theorem g98_57 {x : Int32} {a0 a1 a2 : Option sl_V} : sl_Go xs N 98 57 [a0, a1, a2, some (.inl x)] st σ Q ↔ sl_Go xs N 98 58 [a0, a1, a2, some (.inl x)] (.inl x :: st) σ Q := gk_iload rfl rfl
theorem g98_58 {L : sl_L} {x y : Int32} : sl_Go xs N 98 58 L (.inl y :: .inl x :: st) σ Q ↔ sl_Go xs N 98 59 L (.inl (x + y) :: st) σ Q := gk_bin (b := 8) rfl
theorem g98_59 {L : sl_L} : sl_Go xs N 98 59 L st σ Q ↔ sl_Go xs N 98 60 L (.inl 0 :: st) σ Q := gk_const rfl
theorem g98_60 {L : sl_L} {j x : Int32} {r : sl_R} : sl_Go xs N 98 60 L (.inl x :: .inl j :: .inr (.inr r) :: st) σ Q ↔ (0 ≤ j.toInt ∧ j.toInt < sl_wlen r 0) ∧ sl_Go xs N 98 61 L st (sl_wr σ r j.toNatClampNeg x) Q := gk_iast rfl
theorem g98_61n {x : Int32} {a0 a1 : Option sl_V} : sl_Go xs N 98 61 [a0, a1, none, some (.inl x)] st σ Q ↔ sl_Go xs N 98 64 [a0, a1, none, some (.inl (x + 1))] st σ Q := gk_iinc rfl rfl rfl rfl
theorem g98_61i {x : Int32} {z : Int32} {a0 a1 : Option sl_V} : sl_Go xs N 98 61 [a0, a1, some (.inl z), some (.inl x)] st σ Q ↔ sl_Go xs N 98 64 [a0, a1, some (.inl z), some (.inl (x + 1))] st σ Q := gk_iinc rfl rfl rfl rfl
theorem g98_61r {x : Int32} {z : sl_R} {a0 a1 : Option sl_V} : sl_Go xs N 98 61 [a0, a1, some (.inr (.inr z)), some (.inl x)] st σ Q ↔ sl_Go xs N 98 64 [a0, a1, some (.inr (.inr z)), some (.inl (x + 1))] st σ Q := gk_iinc rfl rfl rfl rfl
theorem g98_64 {L : sl_L} : sl_Go xs N 98 64 L st σ Q ↔ sl_Go xs N 98 2 L st σ Q := gk_goto rfl
theorem g98_67 {L : sl_L} : sl_Go xs N 98 67 L [] σ Q ↔ Q none σ := gk_vret rfl
theorem g99_0 {x : sl_R} {a1 a2 a3 a4 : Option sl_V} : sl_Go xs N 99 0 [some (.inr (.inr x)), a1, a2, a3, a4] st σ Q ↔ sl_Go xs N 99 1 [some (.inr (.inr x)), a1, a2, a3, a4] (.inr (.inr x) :: st) σ Q := gk_aload rfl rfl
theorem g99_1 {x : Int32} {a0 a2 a3 a4 : Option sl_V} : sl_Go xs N 99 1 [a0, some (.inl x), a2, a3, a4] st σ Q ↔ sl_Go xs N 99 2 [a0, some (.inl x), a2, a3, a4] (.inl x :: st) σ Q := gk_iload rfl rfl
theorem g99_2 {L : sl_L} : sl_Go xs N 99 2 L st σ Q ↔ sl_Go xs N 99 3 L (.inl 0 :: st) σ Q := gk_const rfl
theorem g99_3 {L : sl_L} : sl_Go xs N 99 3 L st σ Q ↔ sl_Go xs N 99 4 L (.inl 5 :: st) σ Q := gk_const rfl
theorem g99_4 {L : sl_L} {x0 : Int32} {x1 : Int32} {x2 : Int32} {i t : Nat} : sl_Go xs N 99 4 L (.inl x2 :: .inl x1 :: .inl x0 :: .inr (.inr (40, i, t)) :: st) σ Q ↔ sl_cw st ≤ 8 ∧ sl_Go xs N 91 0 [some (.inr (.inr (40, i, t))), some (.inl x0), some (.inl x1), some (.inl x2)] [] σ (fun r τ => sl_Go xs N 99 7 L (r.toList ++ st) τ Q) := gk_call rfl (Nat.le_add_left 4 st.length) rfl rfl rfl rfl (Nat.le_of_ble_eq_true rfl)
theorem g99_7 {L : sl_L} {x : Int32} : sl_Go xs N 99 7 L (.inl x :: st) σ Q ↔ (x = 0 → sl_Go xs N 99 45 L st σ Q) ∧ (¬ x = 0 → sl_Go xs N 99 10 L st σ Q) := gk_zeq rfl
theorem g99_10 {x : sl_R} {a1 a2 a3 a4 : Option sl_V} : sl_Go xs N 99 10 [some (.inr (.inr x)), a1, a2, a3, a4] st σ Q ↔ sl_Go xs N 99 11 [some (.inr (.inr x)), a1, a2, a3, a4] (.inr (.inr x) :: st) σ Q := gk_aload rfl rfl
theorem g99_11 {x : Int32} {a0 a1 a3 a4 : Option sl_V} : sl_Go xs N 99 11 [a0, a1, some (.inl x), a3, a4] st σ Q ↔ sl_Go xs N 99 12 [a0, a1, some (.inl x), a3, a4] (.inl x :: st) σ Q := gk_iload rfl rfl
theorem g99_12 {L : sl_L} : sl_Go xs N 99 12 L st σ Q ↔ sl_Go xs N 99 13 L (.inl 2 :: st) σ Q := gk_const rfl
theorem g99_13 {L : sl_L} : sl_Go xs N 99 13 L st σ Q ↔ sl_Go xs N 99 15 L (.inl 12 :: st) σ Q := gk_const rfl
theorem g99_15 {L : sl_L} {x0 : Int32} {x1 : Int32} {x2 : Int32} {i t : Nat} : sl_Go xs N 99 15 L (.inl x2 :: .inl x1 :: .inl x0 :: .inr (.inr (40, i, t)) :: st) σ Q ↔ sl_cw st ≤ 8 ∧ sl_Go xs N 91 0 [some (.inr (.inr (40, i, t))), some (.inl x0), some (.inl x1), some (.inl x2)] [] σ (fun r τ => sl_Go xs N 99 18 L (r.toList ++ st) τ Q) := gk_call rfl (Nat.le_add_left 4 st.length) rfl rfl rfl rfl (Nat.le_of_ble_eq_true rfl)
theorem g99_18 {L : sl_L} {x : Int32} : sl_Go xs N 99 18 L (.inl x :: st) σ Q ↔ (x = 0 → sl_Go xs N 99 45 L st σ Q) ∧ (¬ x = 0 → sl_Go xs N 99 21 L st σ Q) := gk_zeq rfl
theorem g99_21 {x : sl_R} {a1 a2 a3 a4 : Option sl_V} : sl_Go xs N 99 21 [some (.inr (.inr x)), a1, a2, a3, a4] st σ Q ↔ sl_Go xs N 99 22 [some (.inr (.inr x)), a1, a2, a3, a4] (.inr (.inr x) :: st) σ Q := gk_aload rfl rfl
theorem g99_22 {x : Int32} {a0 a1 a2 a4 : Option sl_V} : sl_Go xs N 99 22 [a0, a1, a2, some (.inl x), a4] st σ Q ↔ sl_Go xs N 99 23 [a0, a1, a2, some (.inl x), a4] (.inl x :: st) σ Q := gk_iload rfl rfl
theorem g99_23 {L : sl_L} : sl_Go xs N 99 23 L st σ Q ↔ sl_Go xs N 99 24 L (.inl 1 :: st) σ Q := gk_const rfl
theorem g99_24 {L : sl_L} : sl_Go xs N 99 24 L st σ Q ↔ sl_Go xs N 99 26 L (.inl 99 :: st) σ Q := gk_const rfl
theorem g99_26 {L : sl_L} {x0 : Int32} {x1 : Int32} {x2 : Int32} {i t : Nat} : sl_Go xs N 99 26 L (.inl x2 :: .inl x1 :: .inl x0 :: .inr (.inr (40, i, t)) :: st) σ Q ↔ sl_cw st ≤ 8 ∧ sl_Go xs N 91 0 [some (.inr (.inr (40, i, t))), some (.inl x0), some (.inl x1), some (.inl x2)] [] σ (fun r τ => sl_Go xs N 99 29 L (r.toList ++ st) τ Q) := gk_call rfl (Nat.le_add_left 4 st.length) rfl rfl rfl rfl (Nat.le_of_ble_eq_true rfl)
theorem g99_29 {L : sl_L} {x : Int32} : sl_Go xs N 99 29 L (.inl x :: st) σ Q ↔ (x = 0 → sl_Go xs N 99 45 L st σ Q) ∧ (¬ x = 0 → sl_Go xs N 99 32 L st σ Q) := gk_zeq rfl
theorem g99_32 {x : sl_R} {a1 a2 a3 a4 : Option sl_V} : sl_Go xs N 99 32 [some (.inr (.inr x)), a1, a2, a3, a4] st σ Q ↔ sl_Go xs N 99 33 [some (.inr (.inr x)), a1, a2, a3, a4] (.inr (.inr x) :: st) σ Q := gk_aload rfl rfl
theorem g99_33 {x : Int32} {a0 a1 a2 a3 : Option sl_V} : sl_Go xs N 99 33 [a0, a1, a2, a3, some (.inl x)] st σ Q ↔ sl_Go xs N 99 35 [a0, a1, a2, a3, some (.inl x)] (.inl x :: st) σ Q := gk_iload rfl rfl
theorem g99_35 {L : sl_L} : sl_Go xs N 99 35 L st σ Q ↔ sl_Go xs N 99 37 L (.inl (-50) :: st) σ Q := gk_const rfl
theorem g99_37 {L : sl_L} : sl_Go xs N 99 37 L st σ Q ↔ sl_Go xs N 99 39 L (.inl 50 :: st) σ Q := gk_const rfl
theorem g99_39 {L : sl_L} {x0 : Int32} {x1 : Int32} {x2 : Int32} {i t : Nat} : sl_Go xs N 99 39 L (.inl x2 :: .inl x1 :: .inl x0 :: .inr (.inr (40, i, t)) :: st) σ Q ↔ sl_cw st ≤ 8 ∧ sl_Go xs N 91 0 [some (.inr (.inr (40, i, t))), some (.inl x0), some (.inl x1), some (.inl x2)] [] σ (fun r τ => sl_Go xs N 99 42 L (r.toList ++ st) τ Q) := gk_call rfl (Nat.le_add_left 4 st.length) rfl rfl rfl rfl (Nat.le_of_ble_eq_true rfl)
theorem g99_42 {L : sl_L} {x : Int32} : sl_Go xs N 99 42 L (.inl x :: st) σ Q ↔ (¬ x = 0 → sl_Go xs N 99 48 L st σ Q) ∧ (x = 0 → sl_Go xs N 99 45 L st σ Q) := gk_zne rfl
theorem g99_45 {L : sl_L} : sl_Go xs N 99 45 L st σ Q ↔ sl_Go xs N 99 47 L (.inl (-2) :: st) σ Q := gk_const rfl
theorem g99_47 {L : sl_L} {x : Int32} : sl_Go xs N 99 47 L [.inl x] σ Q ↔ Q (some (.inl x)) σ := gk_iret rfl
theorem g99_48 {x : sl_R} {a1 a2 a3 a4 : Option sl_V} : sl_Go xs N 99 48 [some (.inr (.inr x)), a1, a2, a3, a4] st σ Q ↔ sl_Go xs N 99 49 [some (.inr (.inr x)), a1, a2, a3, a4] (.inr (.inr x) :: st) σ Q := gk_aload rfl rfl
theorem g99_49 {L : sl_L} {i t : Nat} : sl_Go xs N 99 49 L (.inr (.inr (40, i, t)) :: st) σ Q ↔ sl_Go xs N 99 52 L (.inl (σ 6 0 0) :: st) σ Q := gk_get (g := .inl (6, 0, 0)) rfl rfl rfl
theorem g99_52 {L : sl_L} : sl_Go xs N 99 52 L st σ Q ↔ sl_Go xs N 99 53 L (.inl 5 :: st) σ Q := gk_const rfl
theorem g99_53 {L : sl_L} {x y : Int32} : sl_Go xs N 99 53 L (.inl y :: .inl x :: st) σ Q ↔ (¬ x = y → sl_Go xs N 99 59 L st σ Q) ∧ (x = y → sl_Go xs N 99 56 L st σ Q) := gk_ine rfl
theorem g99_56 {L : sl_L} : sl_Go xs N 99 56 L st σ Q ↔ sl_Go xs N 99 58 L (.inl (-4) :: st) σ Q := gk_const rfl
theorem g99_58 {L : sl_L} {x : Int32} : sl_Go xs N 99 58 L [.inl x] σ Q ↔ Q (some (.inl x)) σ := gk_iret rfl
theorem g99_59 {x : sl_R} {a1 a2 a3 a4 : Option sl_V} : sl_Go xs N 99 59 [some (.inr (.inr x)), a1, a2, a3, a4] st σ Q ↔ sl_Go xs N 99 60 [some (.inr (.inr x)), a1, a2, a3, a4] (.inr (.inr x) :: st) σ Q := gk_aload rfl rfl
theorem g99_60 {L : sl_L} {i t : Nat} : sl_Go xs N 99 60 L (.inr (.inr (40, i, t)) :: st) σ Q ↔ sl_Go xs N 99 63 L (.inr (.inr (41, 0, 0)) :: st) σ Q := gk_get (g := .inr (41, 0, 0)) rfl rfl rfl
theorem g99_63 {x : sl_R} {a1 a2 a3 a4 : Option sl_V} : sl_Go xs N 99 63 [some (.inr (.inr x)), a1, a2, a3, a4] st σ Q ↔ sl_Go xs N 99 64 [some (.inr (.inr x)), a1, a2, a3, a4] (.inr (.inr x) :: st) σ Q := gk_aload rfl rfl
theorem g99_64 {L : sl_L} {i t : Nat} : sl_Go xs N 99 64 L (.inr (.inr (40, i, t)) :: st) σ Q ↔ sl_Go xs N 99 67 L (.inl (σ 6 0 0) :: st) σ Q := gk_get (g := .inl (6, 0, 0)) rfl rfl rfl
theorem g99_67 {x : Int32} {a0 a2 a3 a4 : Option sl_V} : sl_Go xs N 99 67 [a0, some (.inl x), a2, a3, a4] st σ Q ↔ sl_Go xs N 99 68 [a0, some (.inl x), a2, a3, a4] (.inl x :: st) σ Q := gk_iload rfl rfl
theorem g99_68 {L : sl_L} {j x : Int32} {r : sl_R} : sl_Go xs N 99 68 L (.inl x :: .inl j :: .inr (.inr r) :: st) σ Q ↔ (0 ≤ j.toInt ∧ j.toInt < sl_wlen r 0) ∧ sl_Go xs N 99 69 L st (sl_wr σ r j.toNatClampNeg x) Q := gk_iast rfl
theorem g99_69 {x : sl_R} {a1 a2 a3 a4 : Option sl_V} : sl_Go xs N 99 69 [some (.inr (.inr x)), a1, a2, a3, a4] st σ Q ↔ sl_Go xs N 99 70 [some (.inr (.inr x)), a1, a2, a3, a4] (.inr (.inr x) :: st) σ Q := gk_aload rfl rfl
theorem g99_70 {L : sl_L} {i t : Nat} : sl_Go xs N 99 70 L (.inr (.inr (40, i, t)) :: st) σ Q ↔ sl_Go xs N 99 73 L (.inr (.inr (42, 0, 0)) :: st) σ Q := gk_get (g := .inr (42, 0, 0)) rfl rfl rfl
theorem g99_73 {x : sl_R} {a1 a2 a3 a4 : Option sl_V} : sl_Go xs N 99 73 [some (.inr (.inr x)), a1, a2, a3, a4] st σ Q ↔ sl_Go xs N 99 74 [some (.inr (.inr x)), a1, a2, a3, a4] (.inr (.inr x) :: st) σ Q := gk_aload rfl rfl
theorem g99_74 {L : sl_L} {i t : Nat} : sl_Go xs N 99 74 L (.inr (.inr (40, i, t)) :: st) σ Q ↔ sl_Go xs N 99 77 L (.inl (σ 6 0 0) :: st) σ Q := gk_get (g := .inl (6, 0, 0)) rfl rfl rfl
theorem g99_77 {x : Int32} {a0 a1 a3 a4 : Option sl_V} : sl_Go xs N 99 77 [a0, a1, some (.inl x), a3, a4] st σ Q ↔ sl_Go xs N 99 78 [a0, a1, some (.inl x), a3, a4] (.inl x :: st) σ Q := gk_iload rfl rfl
theorem g99_78 {L : sl_L} {j x : Int32} {r : sl_R} : sl_Go xs N 99 78 L (.inl x :: .inl j :: .inr (.inr r) :: st) σ Q ↔ (0 ≤ j.toInt ∧ j.toInt < sl_wlen r 0) ∧ sl_Go xs N 99 79 L st (sl_wr σ r j.toNatClampNeg x) Q := gk_iast rfl
theorem g99_79 {x : sl_R} {a1 a2 a3 a4 : Option sl_V} : sl_Go xs N 99 79 [some (.inr (.inr x)), a1, a2, a3, a4] st σ Q ↔ sl_Go xs N 99 80 [some (.inr (.inr x)), a1, a2, a3, a4] (.inr (.inr x) :: st) σ Q := gk_aload rfl rfl
theorem g99_80 {L : sl_L} {i t : Nat} : sl_Go xs N 99 80 L (.inr (.inr (40, i, t)) :: st) σ Q ↔ sl_Go xs N 99 83 L (.inr (.inr (43, 0, 0)) :: st) σ Q := gk_get (g := .inr (43, 0, 0)) rfl rfl rfl
theorem g99_83 {x : sl_R} {a1 a2 a3 a4 : Option sl_V} : sl_Go xs N 99 83 [some (.inr (.inr x)), a1, a2, a3, a4] st σ Q ↔ sl_Go xs N 99 84 [some (.inr (.inr x)), a1, a2, a3, a4] (.inr (.inr x) :: st) σ Q := gk_aload rfl rfl
theorem g99_84 {L : sl_L} {i t : Nat} : sl_Go xs N 99 84 L (.inr (.inr (40, i, t)) :: st) σ Q ↔ sl_Go xs N 99 87 L (.inl (σ 6 0 0) :: st) σ Q := gk_get (g := .inl (6, 0, 0)) rfl rfl rfl
theorem g99_87 {x : Int32} {a0 a1 a2 a4 : Option sl_V} : sl_Go xs N 99 87 [a0, a1, a2, some (.inl x), a4] st σ Q ↔ sl_Go xs N 99 88 [a0, a1, a2, some (.inl x), a4] (.inl x :: st) σ Q := gk_iload rfl rfl
theorem g99_88 {L : sl_L} {j x : Int32} {r : sl_R} : sl_Go xs N 99 88 L (.inl x :: .inl j :: .inr (.inr r) :: st) σ Q ↔ (0 ≤ j.toInt ∧ j.toInt < sl_wlen r 0) ∧ sl_Go xs N 99 89 L st (sl_wr σ r j.toNatClampNeg x) Q := gk_iast rfl
theorem g99_89 {x : sl_R} {a1 a2 a3 a4 : Option sl_V} : sl_Go xs N 99 89 [some (.inr (.inr x)), a1, a2, a3, a4] st σ Q ↔ sl_Go xs N 99 90 [some (.inr (.inr x)), a1, a2, a3, a4] (.inr (.inr x) :: st) σ Q := gk_aload rfl rfl
theorem g99_90 {L : sl_L} {i t : Nat} : sl_Go xs N 99 90 L (.inr (.inr (40, i, t)) :: st) σ Q ↔ sl_Go xs N 99 93 L (.inr (.inr (44, 0, 0)) :: st) σ Q := gk_get (g := .inr (44, 0, 0)) rfl rfl rfl
theorem g99_93 {x : sl_R} {a1 a2 a3 a4 : Option sl_V} : sl_Go xs N 99 93 [some (.inr (.inr x)), a1, a2, a3, a4] st σ Q ↔ sl_Go xs N 99 94 [some (.inr (.inr x)), a1, a2, a3, a4] (.inr (.inr x) :: st) σ Q := gk_aload rfl rfl
theorem g99_94 {L : sl_L} {i t : Nat} : sl_Go xs N 99 94 L (.inr (.inr (40, i, t)) :: st) σ Q ↔ sl_Go xs N 99 97 L (.inl (σ 6 0 0) :: st) σ Q := gk_get (g := .inl (6, 0, 0)) rfl rfl rfl
theorem g99_97 {x : Int32} {a0 a1 a2 a3 : Option sl_V} : sl_Go xs N 99 97 [a0, a1, a2, a3, some (.inl x)] st σ Q ↔ sl_Go xs N 99 99 [a0, a1, a2, a3, some (.inl x)] (.inl x :: st) σ Q := gk_iload rfl rfl
theorem g99_99 {L : sl_L} {j x : Int32} {r : sl_R} : sl_Go xs N 99 99 L (.inl x :: .inl j :: .inr (.inr r) :: st) σ Q ↔ (0 ≤ j.toInt ∧ j.toInt < sl_wlen r 0) ∧ sl_Go xs N 99 100 L st (sl_wr σ r j.toNatClampNeg x) Q := gk_iast rfl
theorem g99_100 {x : sl_R} {a1 a2 a3 a4 : Option sl_V} : sl_Go xs N 99 100 [some (.inr (.inr x)), a1, a2, a3, a4] st σ Q ↔ sl_Go xs N 99 101 [some (.inr (.inr x)), a1, a2, a3, a4] (.inr (.inr x) :: st) σ Q := gk_aload rfl rfl
theorem g99_101i {L : sl_L} {x : Int32} : sl_Go xs N 99 101 L (.inl x :: st) σ Q ↔ sl_Go xs N 99 102 L (.inl x :: .inl x :: st) σ Q := gk_dupi rfl
theorem g99_101r {L : sl_L} {x : sl_R} : sl_Go xs N 99 101 L (.inr (.inr x) :: st) σ Q ↔ sl_Go xs N 99 102 L (.inr (.inr x) :: .inr (.inr x) :: st) σ Q := gk_dupr rfl
theorem g99_102 {L : sl_L} {i t : Nat} : sl_Go xs N 99 102 L (.inr (.inr (40, i, t)) :: st) σ Q ↔ sl_Go xs N 99 105 L (.inl (σ 6 0 0) :: st) σ Q := gk_get (g := .inl (6, 0, 0)) rfl rfl rfl
theorem g99_105 {L : sl_L} : sl_Go xs N 99 105 L st σ Q ↔ sl_Go xs N 99 106 L (.inl 1 :: st) σ Q := gk_const rfl
theorem g99_106 {L : sl_L} {x y : Int32} : sl_Go xs N 99 106 L (.inl y :: .inl x :: st) σ Q ↔ sl_Go xs N 99 107 L (.inl (x + y) :: st) σ Q := gk_bin (b := 8) rfl
theorem g99_107 {L : sl_L} {x : Int32} {i t : Nat} : sl_Go xs N 99 107 L (.inl x :: .inr (.inr (40, i, t)) :: st) σ Q ↔ sl_Go xs N 99 110 L st (sl_up σ 6 0 0 x) Q := gk_put0 (q := (6, 0, 0)) rfl rfl rfl
theorem g99_110 {x : sl_R} {a1 a2 a3 a4 : Option sl_V} : sl_Go xs N 99 110 [some (.inr (.inr x)), a1, a2, a3, a4] st σ Q ↔ sl_Go xs N 99 111 [some (.inr (.inr x)), a1, a2, a3, a4] (.inr (.inr x) :: st) σ Q := gk_aload rfl rfl
theorem g99_111 {L : sl_L} {i t : Nat} : sl_Go xs N 99 111 L (.inr (.inr (40, i, t)) :: st) σ Q ↔ sl_Go xs N 99 114 L (.inl (σ 6 0 0) :: st) σ Q := gk_get (g := .inl (6, 0, 0)) rfl rfl rfl
theorem g99_114 {L : sl_L} : sl_Go xs N 99 114 L st σ Q ↔ sl_Go xs N 99 115 L (.inl 1 :: st) σ Q := gk_const rfl
theorem g99_115 {L : sl_L} {x y : Int32} : sl_Go xs N 99 115 L (.inl y :: .inl x :: st) σ Q ↔ sl_Go xs N 99 116 L (.inl (x - y) :: st) σ Q := gk_bin (b := 9) rfl
theorem g99_116 {L : sl_L} {x : Int32} : sl_Go xs N 99 116 L [.inl x] σ Q ↔ Q (some (.inl x)) σ := gk_iret rfl
theorem g100_0 {x : sl_R} {a1 a2 : Option sl_V} : sl_Go xs N 100 0 [some (.inr (.inr x)), a1, a2] st σ Q ↔ sl_Go xs N 100 1 [some (.inr (.inr x)), a1, a2] (.inr (.inr x) :: st) σ Q := gk_aload rfl rfl
theorem g100_1 {x : Int32} {a0 a1 : Option sl_V} : sl_Go xs N 100 1 [a0, a1, some (.inl x)] st σ Q ↔ sl_Go xs N 100 2 [a0, a1, some (.inl x)] (.inl x :: st) σ Q := gk_iload rfl rfl
theorem g100_2 {L : sl_L} : sl_Go xs N 100 2 L st σ Q ↔ sl_Go xs N 100 3 L (.inl 0 :: st) σ Q := gk_const rfl
theorem g100_3 {x : sl_R} {a1 a2 : Option sl_V} : sl_Go xs N 100 3 [some (.inr (.inr x)), a1, a2] st σ Q ↔ sl_Go xs N 100 4 [some (.inr (.inr x)), a1, a2] (.inr (.inr x) :: st) σ Q := gk_aload rfl rfl
theorem g100_4 {L : sl_L} {i t : Nat} : sl_Go xs N 100 4 L (.inr (.inr (40, i, t)) :: st) σ Q ↔ sl_Go xs N 100 7 L (.inr (.inr (42, 0, 0)) :: st) σ Q := gk_get (g := .inr (42, 0, 0)) rfl rfl rfl
theorem g100_7 {x : Int32} {a0 a2 : Option sl_V} : sl_Go xs N 100 7 [a0, some (.inl x), a2] st σ Q ↔ sl_Go xs N 100 8 [a0, some (.inl x), a2] (.inl x :: st) σ Q := gk_iload rfl rfl
theorem g100_8 {L : sl_L} {j : Int32} {r : sl_R} : sl_Go xs N 100 8 L (.inl j :: .inr (.inr r) :: st) σ Q ↔ (0 ≤ j.toInt ∧ j.toInt < sl_ilen N r) ∧ sl_Go xs N 100 9 L (.inl (sl_rd xs σ r j.toNatClampNeg) :: st) σ Q := gk_iald rfl
theorem g100_9 {L : sl_L} : sl_Go xs N 100 9 L st σ Q ↔ sl_Go xs N 100 10 L (.inl 2 :: st) σ Q := gk_const rfl
theorem g100_10 {L : sl_L} {x y : Int32} : sl_Go xs N 100 10 L (.inl y :: .inl x :: st) σ Q ↔ sl_Go xs N 100 11 L (.inl (x - y) :: st) σ Q := gk_bin (b := 9) rfl
theorem g100_11 {L : sl_L} {x0 : Int32} {x1 : Int32} {x2 : Int32} {i t : Nat} : sl_Go xs N 100 11 L (.inl x2 :: .inl x1 :: .inl x0 :: .inr (.inr (40, i, t)) :: st) σ Q ↔ sl_cw st ≤ 8 ∧ sl_Go xs N 91 0 [some (.inr (.inr (40, i, t))), some (.inl x0), some (.inl x1), some (.inl x2)] [] σ (fun r τ => sl_Go xs N 100 14 L (r.toList ++ st) τ Q) := gk_call rfl (Nat.le_add_left 4 st.length) rfl rfl rfl rfl (Nat.le_of_ble_eq_true rfl)
theorem g100_14 {L : sl_L} {x : Int32} : sl_Go xs N 100 14 L [.inl x] σ Q ↔ (x = 0 ∨ x = 1) ∧ Q (some (.inl x)) σ := gk_zret rfl
theorem g101_0 {x : sl_R} {a1 a2 a3 a4 : Option sl_V} : sl_Go xs N 101 0 [some (.inr (.inr x)), a1, a2, a3, a4] st σ Q ↔ sl_Go xs N 101 1 [some (.inr (.inr x)), a1, a2, a3, a4] (.inr (.inr x) :: st) σ Q := gk_aload rfl rfl
theorem g101_1 {x : Int32} {a0 a2 a3 a4 : Option sl_V} : sl_Go xs N 101 1 [a0, some (.inl x), a2, a3, a4] st σ Q ↔ sl_Go xs N 101 2 [a0, some (.inl x), a2, a3, a4] (.inl x :: st) σ Q := gk_iload rfl rfl
theorem g101_2 {L : sl_L} {x0 : Int32} {i t : Nat} : sl_Go xs N 101 2 L (.inl x0 :: .inr (.inr (40, i, t)) :: st) σ Q ↔ sl_cw st ≤ 8 ∧ sl_Go xs N 93 0 [some (.inr (.inr (40, i, t))), some (.inl x0)] [] σ (fun r τ => sl_Go xs N 101 5 L (r.toList ++ st) τ Q) := gk_call rfl (Nat.le_add_left 2 st.length) rfl rfl rfl rfl (Nat.le_of_ble_eq_true rfl)
theorem g101_5 {L : sl_L} {x : Int32} : sl_Go xs N 101 5 L (.inl x :: st) σ Q ↔ (¬ x = 0 → sl_Go xs N 101 10 L st σ Q) ∧ (x = 0 → sl_Go xs N 101 8 L st σ Q) := gk_zne rfl
theorem g101_8 {L : sl_L} : sl_Go xs N 101 8 L st σ Q ↔ sl_Go xs N 101 9 L (.inl (-1) :: st) σ Q := gk_const rfl
theorem g101_9 {L : sl_L} {x : Int32} : sl_Go xs N 101 9 L [.inl x] σ Q ↔ Q (some (.inl x)) σ := gk_iret rfl
theorem g101_10 {x : sl_R} {a1 a2 a3 a4 : Option sl_V} : sl_Go xs N 101 10 [some (.inr (.inr x)), a1, a2, a3, a4] st σ Q ↔ sl_Go xs N 101 11 [some (.inr (.inr x)), a1, a2, a3, a4] (.inr (.inr x) :: st) σ Q := gk_aload rfl rfl
theorem g101_11 {x : Int32} {a0 a2 a3 a4 : Option sl_V} : sl_Go xs N 101 11 [a0, some (.inl x), a2, a3, a4] st σ Q ↔ sl_Go xs N 101 12 [a0, some (.inl x), a2, a3, a4] (.inl x :: st) σ Q := gk_iload rfl rfl
theorem g101_12 {x : Int32} {a0 a1 a3 a4 : Option sl_V} : sl_Go xs N 101 12 [a0, a1, some (.inl x), a3, a4] st σ Q ↔ sl_Go xs N 101 13 [a0, a1, some (.inl x), a3, a4] (.inl x :: st) σ Q := gk_iload rfl rfl
theorem g101_13 {L : sl_L} {x0 : Int32} {x1 : Int32} {i t : Nat} : sl_Go xs N 101 13 L (.inl x1 :: .inl x0 :: .inr (.inr (40, i, t)) :: st) σ Q ↔ sl_cw st ≤ 8 ∧ sl_Go xs N 100 0 [some (.inr (.inr (40, i, t))), some (.inl x0), some (.inl x1)] [] σ (fun r τ => sl_Go xs N 101 16 L (r.toList ++ st) τ Q) := gk_call rfl (Nat.le_add_left 3 st.length) rfl rfl rfl rfl (Nat.le_of_ble_eq_true rfl)
theorem g101_16 {L : sl_L} {x : Int32} : sl_Go xs N 101 16 L (.inl x :: st) σ Q ↔ (x = 0 → sl_Go xs N 101 29 L st σ Q) ∧ (¬ x = 0 → sl_Go xs N 101 19 L st σ Q) := gk_zeq rfl
theorem g101_19 {x : sl_R} {a1 a2 a3 a4 : Option sl_V} : sl_Go xs N 101 19 [some (.inr (.inr x)), a1, a2, a3, a4] st σ Q ↔ sl_Go xs N 101 20 [some (.inr (.inr x)), a1, a2, a3, a4] (.inr (.inr x) :: st) σ Q := gk_aload rfl rfl
theorem g101_20 {x : Int32} {a0 a1 a2 a4 : Option sl_V} : sl_Go xs N 101 20 [a0, a1, a2, some (.inl x), a4] st σ Q ↔ sl_Go xs N 101 21 [a0, a1, a2, some (.inl x), a4] (.inl x :: st) σ Q := gk_iload rfl rfl
theorem g101_21 {L : sl_L} : sl_Go xs N 101 21 L st σ Q ↔ sl_Go xs N 101 22 L (.inl 0 :: st) σ Q := gk_const rfl
theorem g101_22 {L : sl_L} : sl_Go xs N 101 22 L st σ Q ↔ sl_Go xs N 101 23 L (.inl 1 :: st) σ Q := gk_const rfl
theorem g101_23 {L : sl_L} {x0 : Int32} {x1 : Int32} {x2 : Int32} {i t : Nat} : sl_Go xs N 101 23 L (.inl x2 :: .inl x1 :: .inl x0 :: .inr (.inr (40, i, t)) :: st) σ Q ↔ sl_cw st ≤ 8 ∧ sl_Go xs N 91 0 [some (.inr (.inr (40, i, t))), some (.inl x0), some (.inl x1), some (.inl x2)] [] σ (fun r τ => sl_Go xs N 101 26 L (r.toList ++ st) τ Q) := gk_call rfl (Nat.le_add_left 4 st.length) rfl rfl rfl rfl (Nat.le_of_ble_eq_true rfl)
theorem g101_26 {L : sl_L} {x : Int32} : sl_Go xs N 101 26 L (.inl x :: st) σ Q ↔ (¬ x = 0 → sl_Go xs N 101 32 L st σ Q) ∧ (x = 0 → sl_Go xs N 101 29 L st σ Q) := gk_zne rfl
theorem g101_29 {L : sl_L} : sl_Go xs N 101 29 L st σ Q ↔ sl_Go xs N 101 31 L (.inl (-2) :: st) σ Q := gk_const rfl
theorem g101_31 {L : sl_L} {x : Int32} : sl_Go xs N 101 31 L [.inl x] σ Q ↔ Q (some (.inl x)) σ := gk_iret rfl
theorem g101_32 {x : sl_R} {a1 a2 a3 a4 : Option sl_V} : sl_Go xs N 101 32 [some (.inr (.inr x)), a1, a2, a3, a4] st σ Q ↔ sl_Go xs N 101 33 [some (.inr (.inr x)), a1, a2, a3, a4] (.inr (.inr x) :: st) σ Q := gk_aload rfl rfl
theorem g101_33 {L : sl_L} {i t : Nat} : sl_Go xs N 101 33 L (.inr (.inr (40, i, t)) :: st) σ Q ↔ sl_Go xs N 101 36 L (.inr (.inr (51, 0, 0)) :: st) σ Q := gk_get (g := .inr (51, 0, 0)) rfl rfl rfl
theorem g101_36 {L : sl_L} : sl_Go xs N 101 36 L st σ Q ↔ sl_Go xs N 101 38 L (.inl 12 :: st) σ Q := gk_const rfl
theorem g101_38 {x : Int32} {a0 a2 a3 a4 : Option sl_V} : sl_Go xs N 101 38 [a0, some (.inl x), a2, a3, a4] st σ Q ↔ sl_Go xs N 101 39 [a0, some (.inl x), a2, a3, a4] (.inl x :: st) σ Q := gk_iload rfl rfl
theorem g101_39 {L : sl_L} {x y : Int32} : sl_Go xs N 101 39 L (.inl y :: .inl x :: st) σ Q ↔ sl_Go xs N 101 40 L (.inl (x * y) :: st) σ Q := gk_bin (b := 10) rfl
theorem g101_40 {x : Int32} {a0 a1 a3 a4 : Option sl_V} : sl_Go xs N 101 40 [a0, a1, some (.inl x), a3, a4] st σ Q ↔ sl_Go xs N 101 41 [a0, a1, some (.inl x), a3, a4] (.inl x :: st) σ Q := gk_iload rfl rfl
theorem g101_41 {L : sl_L} {x y : Int32} : sl_Go xs N 101 41 L (.inl y :: .inl x :: st) σ Q ↔ sl_Go xs N 101 42 L (.inl (x + y) :: st) σ Q := gk_bin (b := 8) rfl
theorem g101_42 {L : sl_L} {j : Int32} {r : sl_R} : sl_Go xs N 101 42 L (.inl j :: .inr (.inr r) :: st) σ Q ↔ (0 ≤ j.toInt ∧ j.toInt < sl_wlen r 2) ∧ sl_Go xs N 101 43 L (.inl (sl_rd xs σ r j.toNatClampNeg) :: st) σ Q := gk_bald rfl
theorem g101_43 {L : sl_L} {x : Int32} : sl_Go xs N 101 43 L (.inl x :: st) σ Q ↔ (x = 0 → sl_Go xs N 101 50 L st σ Q) ∧ (¬ x = 0 → sl_Go xs N 101 46 L st σ Q) := gk_zeq rfl
theorem g101_46 {L : sl_L} : sl_Go xs N 101 46 L st σ Q ↔ sl_Go xs N 101 47 L (.inl 1 :: st) σ Q := gk_const rfl
theorem g101_47 {L : sl_L} : sl_Go xs N 101 47 L st σ Q ↔ sl_Go xs N 101 51 L st σ Q := gk_goto rfl
theorem g101_50 {L : sl_L} : sl_Go xs N 101 50 L st σ Q ↔ sl_Go xs N 101 51 L (.inl 0 :: st) σ Q := gk_const rfl
theorem g101_51n {x : Int32} {a0 a1 a2 a4 : Option sl_V} : sl_Go xs N 101 51 [a0, a1, a2, none, a4] (.inl x :: st) σ Q ↔ sl_Go xs N 101 53 [a0, a1, a2, none, some (.inl x)] st σ Q := gk_istore rfl ⟨Nat.le_of_ble_eq_true rfl, rfl⟩ rfl
theorem g101_51i {x : Int32} {z : Int32} {a0 a1 a2 a4 : Option sl_V} : sl_Go xs N 101 51 [a0, a1, a2, some (.inl z), a4] (.inl x :: st) σ Q ↔ sl_Go xs N 101 53 [a0, a1, a2, some (.inl z), some (.inl x)] st σ Q := gk_istore rfl ⟨Nat.le_of_ble_eq_true rfl, rfl⟩ rfl
theorem g101_51r {x : Int32} {z : sl_R} {a0 a1 a2 a4 : Option sl_V} : sl_Go xs N 101 51 [a0, a1, a2, some (.inr (.inr z)), a4] (.inl x :: st) σ Q ↔ sl_Go xs N 101 53 [a0, a1, a2, some (.inr (.inr z)), some (.inl x)] st σ Q := gk_istore rfl ⟨Nat.le_of_ble_eq_true rfl, rfl⟩ rfl
theorem g101_53 {x : sl_R} {a1 a2 a3 a4 : Option sl_V} : sl_Go xs N 101 53 [some (.inr (.inr x)), a1, a2, a3, a4] st σ Q ↔ sl_Go xs N 101 54 [some (.inr (.inr x)), a1, a2, a3, a4] (.inr (.inr x) :: st) σ Q := gk_aload rfl rfl
theorem g101_54 {L : sl_L} {i t : Nat} : sl_Go xs N 101 54 L (.inr (.inr (40, i, t)) :: st) σ Q ↔ sl_Go xs N 101 57 L (.inr (.inr (51, 0, 0)) :: st) σ Q := gk_get (g := .inr (51, 0, 0)) rfl rfl rfl
theorem g101_57 {L : sl_L} : sl_Go xs N 101 57 L st σ Q ↔ sl_Go xs N 101 59 L (.inl 12 :: st) σ Q := gk_const rfl
theorem g101_59 {x : Int32} {a0 a2 a3 a4 : Option sl_V} : sl_Go xs N 101 59 [a0, some (.inl x), a2, a3, a4] st σ Q ↔ sl_Go xs N 101 60 [a0, some (.inl x), a2, a3, a4] (.inl x :: st) σ Q := gk_iload rfl rfl
theorem g101_60 {L : sl_L} {x y : Int32} : sl_Go xs N 101 60 L (.inl y :: .inl x :: st) σ Q ↔ sl_Go xs N 101 61 L (.inl (x * y) :: st) σ Q := gk_bin (b := 10) rfl
theorem g101_61 {x : Int32} {a0 a1 a3 a4 : Option sl_V} : sl_Go xs N 101 61 [a0, a1, some (.inl x), a3, a4] st σ Q ↔ sl_Go xs N 101 62 [a0, a1, some (.inl x), a3, a4] (.inl x :: st) σ Q := gk_iload rfl rfl
theorem g101_62 {L : sl_L} {x y : Int32} : sl_Go xs N 101 62 L (.inl y :: .inl x :: st) σ Q ↔ sl_Go xs N 101 63 L (.inl (x + y) :: st) σ Q := gk_bin (b := 8) rfl
theorem g101_63 {x : Int32} {a0 a1 a2 a4 : Option sl_V} : sl_Go xs N 101 63 [a0, a1, a2, some (.inl x), a4] st σ Q ↔ sl_Go xs N 101 64 [a0, a1, a2, some (.inl x), a4] (.inl x :: st) σ Q := gk_iload rfl rfl
theorem g101_64 {L : sl_L} : sl_Go xs N 101 64 L st σ Q ↔ sl_Go xs N 101 65 L (.inl 1 :: st) σ Q := gk_const rfl
theorem g101_65 {L : sl_L} {x y : Int32} : sl_Go xs N 101 65 L (.inl y :: .inl x :: st) σ Q ↔ (¬ x = y → sl_Go xs N 101 72 L st σ Q) ∧ (x = y → sl_Go xs N 101 68 L st σ Q) := gk_ine rfl
theorem g101_68 {L : sl_L} : sl_Go xs N 101 68 L st σ Q ↔ sl_Go xs N 101 69 L (.inl 1 :: st) σ Q := gk_const rfl
theorem g101_69 {L : sl_L} : sl_Go xs N 101 69 L st σ Q ↔ sl_Go xs N 101 73 L st σ Q := gk_goto rfl
theorem g101_72 {L : sl_L} : sl_Go xs N 101 72 L st σ Q ↔ sl_Go xs N 101 73 L (.inl 0 :: st) σ Q := gk_const rfl
theorem g101_73 {L : sl_L} {j x : Int32} {r : sl_R} : sl_Go xs N 101 73 L (.inl x :: .inl j :: .inr (.inr r) :: st) σ Q ↔ ((0 ≤ j.toInt ∧ j.toInt < sl_wlen r 2) ∧ (x = 0 ∨ x = 1)) ∧ sl_Go xs N 101 74 L st (sl_wr σ r j.toNatClampNeg x) Q := gk_zast rfl
theorem g101_74 {x : Int32} {a0 a1 a2 a3 : Option sl_V} : sl_Go xs N 101 74 [a0, a1, a2, a3, some (.inl x)] st σ Q ↔ sl_Go xs N 101 76 [a0, a1, a2, a3, some (.inl x)] (.inl x :: st) σ Q := gk_iload rfl rfl
theorem g101_76 {L : sl_L} {x : Int32} : sl_Go xs N 101 76 L [.inl x] σ Q ↔ Q (some (.inl x)) σ := gk_iret rfl
theorem g102_0 {x : sl_R} {a1 a2 a3 : Option sl_V} : sl_Go xs N 102 0 [some (.inr (.inr x)), a1, a2, a3] st σ Q ↔ sl_Go xs N 102 1 [some (.inr (.inr x)), a1, a2, a3] (.inr (.inr x) :: st) σ Q := gk_aload rfl rfl
theorem g102_1 {x : Int32} {a0 a2 a3 : Option sl_V} : sl_Go xs N 102 1 [a0, some (.inl x), a2, a3] st σ Q ↔ sl_Go xs N 102 2 [a0, some (.inl x), a2, a3] (.inl x :: st) σ Q := gk_iload rfl rfl
theorem g102_2 {L : sl_L} {x0 : Int32} {i t : Nat} : sl_Go xs N 102 2 L (.inl x0 :: .inr (.inr (40, i, t)) :: st) σ Q ↔ sl_cw st ≤ 8 ∧ sl_Go xs N 93 0 [some (.inr (.inr (40, i, t))), some (.inl x0)] [] σ (fun r τ => sl_Go xs N 102 5 L (r.toList ++ st) τ Q) := gk_call rfl (Nat.le_add_left 2 st.length) rfl rfl rfl rfl (Nat.le_of_ble_eq_true rfl)
theorem g102_5 {L : sl_L} {x : Int32} : sl_Go xs N 102 5 L (.inl x :: st) σ Q ↔ (¬ x = 0 → sl_Go xs N 102 10 L st σ Q) ∧ (x = 0 → sl_Go xs N 102 8 L st σ Q) := gk_zne rfl
theorem g102_8 {L : sl_L} : sl_Go xs N 102 8 L st σ Q ↔ sl_Go xs N 102 9 L (.inl (-1) :: st) σ Q := gk_const rfl
theorem g102_9 {L : sl_L} {x : Int32} : sl_Go xs N 102 9 L [.inl x] σ Q ↔ Q (some (.inl x)) σ := gk_iret rfl
theorem g102_10 {x : sl_R} {a1 a2 a3 : Option sl_V} : sl_Go xs N 102 10 [some (.inr (.inr x)), a1, a2, a3] st σ Q ↔ sl_Go xs N 102 11 [some (.inr (.inr x)), a1, a2, a3] (.inr (.inr x) :: st) σ Q := gk_aload rfl rfl
theorem g102_11 {x : Int32} {a0 a1 a3 : Option sl_V} : sl_Go xs N 102 11 [a0, a1, some (.inl x), a3] st σ Q ↔ sl_Go xs N 102 12 [a0, a1, some (.inl x), a3] (.inl x :: st) σ Q := gk_iload rfl rfl
theorem g102_12 {L : sl_L} : sl_Go xs N 102 12 L st σ Q ↔ sl_Go xs N 102 13 L (.inl 0 :: st) σ Q := gk_const rfl
theorem g102_13 {x : sl_R} {a1 a2 a3 : Option sl_V} : sl_Go xs N 102 13 [some (.inr (.inr x)), a1, a2, a3] st σ Q ↔ sl_Go xs N 102 14 [some (.inr (.inr x)), a1, a2, a3] (.inr (.inr x) :: st) σ Q := gk_aload rfl rfl
theorem g102_14 {x : Int32} {a0 a2 a3 : Option sl_V} : sl_Go xs N 102 14 [a0, some (.inl x), a2, a3] st σ Q ↔ sl_Go xs N 102 15 [a0, some (.inl x), a2, a3] (.inl x :: st) σ Q := gk_iload rfl rfl
theorem g102_15 {L : sl_L} {x0 : Int32} {i t : Nat} : sl_Go xs N 102 15 L (.inl x0 :: .inr (.inr (40, i, t)) :: st) σ Q ↔ sl_cw st ≤ 8 ∧ sl_Go xs N 96 0 [some (.inr (.inr (40, i, t))), some (.inl x0)] [] σ (fun r τ => sl_Go xs N 102 18 L (r.toList ++ st) τ Q) := gk_call rfl (Nat.le_add_left 2 st.length) rfl rfl rfl rfl (Nat.le_of_ble_eq_true rfl)
theorem g102_18 {L : sl_L} {x0 : Int32} {x1 : Int32} {x2 : Int32} {i t : Nat} : sl_Go xs N 102 18 L (.inl x2 :: .inl x1 :: .inl x0 :: .inr (.inr (40, i, t)) :: st) σ Q ↔ sl_cw st ≤ 8 ∧ sl_Go xs N 91 0 [some (.inr (.inr (40, i, t))), some (.inl x0), some (.inl x1), some (.inl x2)] [] σ (fun r τ => sl_Go xs N 102 21 L (r.toList ++ st) τ Q) := gk_call rfl (Nat.le_add_left 4 st.length) rfl rfl rfl rfl (Nat.le_of_ble_eq_true rfl)
theorem g102_21 {L : sl_L} {x : Int32} : sl_Go xs N 102 21 L (.inl x :: st) σ Q ↔ (¬ x = 0 → sl_Go xs N 102 27 L st σ Q) ∧ (x = 0 → sl_Go xs N 102 24 L st σ Q) := gk_zne rfl
theorem g102_24 {L : sl_L} : sl_Go xs N 102 24 L st σ Q ↔ sl_Go xs N 102 26 L (.inl (-2) :: st) σ Q := gk_const rfl
theorem g102_26 {L : sl_L} {x : Int32} : sl_Go xs N 102 26 L [.inl x] σ Q ↔ Q (some (.inl x)) σ := gk_iret rfl
theorem g102_27 {x : sl_R} {a1 a2 a3 : Option sl_V} : sl_Go xs N 102 27 [some (.inr (.inr x)), a1, a2, a3] st σ Q ↔ sl_Go xs N 102 28 [some (.inr (.inr x)), a1, a2, a3] (.inr (.inr x) :: st) σ Q := gk_aload rfl rfl
theorem g102_28 {x : Int32} {a0 a2 a3 : Option sl_V} : sl_Go xs N 102 28 [a0, some (.inl x), a2, a3] st σ Q ↔ sl_Go xs N 102 29 [a0, some (.inl x), a2, a3] (.inl x :: st) σ Q := gk_iload rfl rfl
theorem g102_29 {L : sl_L} {x0 : Int32} {i t : Nat} : sl_Go xs N 102 29 L (.inl x0 :: .inr (.inr (40, i, t)) :: st) σ Q ↔ sl_cw st ≤ 8 ∧ sl_Go xs N 97 0 [some (.inr (.inr (40, i, t))), some (.inl x0), none, none] [] σ (fun r τ => sl_Go xs N 102 32 L (r.toList ++ st) τ Q) := gk_call rfl (Nat.le_add_left 2 st.length) rfl rfl rfl rfl (Nat.le_of_ble_eq_true rfl)
theorem g102_32n {x : Int32} {a0 a1 a3 : Option sl_V} : sl_Go xs N 102 32 [a0, a1, none, a3] (.inl x :: st) σ Q ↔ sl_Go xs N 102 33 [a0, a1, none, some (.inl x)] st σ Q := gk_istore rfl ⟨Nat.le_of_ble_eq_true rfl, rfl⟩ rfl
theorem g102_32i {x : Int32} {z : Int32} {a0 a1 a3 : Option sl_V} : sl_Go xs N 102 32 [a0, a1, some (.inl z), a3] (.inl x :: st) σ Q ↔ sl_Go xs N 102 33 [a0, a1, some (.inl z), some (.inl x)] st σ Q := gk_istore rfl ⟨Nat.le_of_ble_eq_true rfl, rfl⟩ rfl
theorem g102_32r {x : Int32} {z : sl_R} {a0 a1 a3 : Option sl_V} : sl_Go xs N 102 32 [a0, a1, some (.inr (.inr z)), a3] (.inl x :: st) σ Q ↔ sl_Go xs N 102 33 [a0, a1, some (.inr (.inr z)), some (.inl x)] st σ Q := gk_istore rfl ⟨Nat.le_of_ble_eq_true rfl, rfl⟩ rfl
theorem g102_33 {x : sl_R} {a1 a2 a3 : Option sl_V} : sl_Go xs N 102 33 [some (.inr (.inr x)), a1, a2, a3] st σ Q ↔ sl_Go xs N 102 34 [some (.inr (.inr x)), a1, a2, a3] (.inr (.inr x) :: st) σ Q := gk_aload rfl rfl
theorem g102_34 {L : sl_L} {i t : Nat} : sl_Go xs N 102 34 L (.inr (.inr (40, i, t)) :: st) σ Q ↔ sl_Go xs N 102 37 L (.inr (.inr (45, 0, 0)) :: st) σ Q := gk_get (g := .inr (45, 0, 0)) rfl rfl rfl
theorem g102_37 {x : Int32} {a0 a2 a3 : Option sl_V} : sl_Go xs N 102 37 [a0, some (.inl x), a2, a3] st σ Q ↔ sl_Go xs N 102 38 [a0, some (.inl x), a2, a3] (.inl x :: st) σ Q := gk_iload rfl rfl
theorem g102_38 {L : sl_L} {x : sl_R} {y : Int32} : sl_Go xs N 102 38 L (.inl y :: .inr (.inr x) :: st) σ Q ↔ sl_Go xs N 102 39 L (.inl y :: .inr (.inr x) :: .inl y :: .inr (.inr x) :: st) σ Q := gk_dup2 rfl
theorem g102_39 {L : sl_L} {j : Int32} {r : sl_R} : sl_Go xs N 102 39 L (.inl j :: .inr (.inr r) :: st) σ Q ↔ (0 ≤ j.toInt ∧ j.toInt < sl_ilen N r) ∧ sl_Go xs N 102 40 L (.inl (sl_rd xs σ r j.toNatClampNeg) :: st) σ Q := gk_iald rfl
theorem g102_40 {x : Int32} {a0 a1 a3 : Option sl_V} : sl_Go xs N 102 40 [a0, a1, some (.inl x), a3] st σ Q ↔ sl_Go xs N 102 41 [a0, a1, some (.inl x), a3] (.inl x :: st) σ Q := gk_iload rfl rfl
theorem g102_41 {x : Int32} {a0 a1 a2 : Option sl_V} : sl_Go xs N 102 41 [a0, a1, a2, some (.inl x)] st σ Q ↔ sl_Go xs N 102 42 [a0, a1, a2, some (.inl x)] (.inl x :: st) σ Q := gk_iload rfl rfl
theorem g102_42 {L : sl_L} {x y : Int32} : sl_Go xs N 102 42 L (.inl y :: .inl x :: st) σ Q ↔ sl_Go xs N 102 43 L (.inl (x - y) :: st) σ Q := gk_bin (b := 9) rfl
theorem g102_43 {L : sl_L} {x y : Int32} : sl_Go xs N 102 43 L (.inl y :: .inl x :: st) σ Q ↔ sl_Go xs N 102 44 L (.inl (x + y) :: st) σ Q := gk_bin (b := 8) rfl
theorem g102_44 {L : sl_L} {j x : Int32} {r : sl_R} : sl_Go xs N 102 44 L (.inl x :: .inl j :: .inr (.inr r) :: st) σ Q ↔ (0 ≤ j.toInt ∧ j.toInt < sl_wlen r 0) ∧ sl_Go xs N 102 45 L st (sl_wr σ r j.toNatClampNeg x) Q := gk_iast rfl
theorem g102_45 {x : sl_R} {a1 a2 a3 : Option sl_V} : sl_Go xs N 102 45 [some (.inr (.inr x)), a1, a2, a3] st σ Q ↔ sl_Go xs N 102 46 [some (.inr (.inr x)), a1, a2, a3] (.inr (.inr x) :: st) σ Q := gk_aload rfl rfl
theorem g102_46 {x : Int32} {a0 a2 a3 : Option sl_V} : sl_Go xs N 102 46 [a0, some (.inl x), a2, a3] st σ Q ↔ sl_Go xs N 102 47 [a0, some (.inl x), a2, a3] (.inl x :: st) σ Q := gk_iload rfl rfl
theorem g102_47 {x : Int32} {a0 a1 a3 : Option sl_V} : sl_Go xs N 102 47 [a0, a1, some (.inl x), a3] st σ Q ↔ sl_Go xs N 102 48 [a0, a1, some (.inl x), a3] (.inl x :: st) σ Q := gk_iload rfl rfl
theorem g102_48 {L : sl_L} {x0 : Int32} {x1 : Int32} {i t : Nat} : sl_Go xs N 102 48 L (.inl x1 :: .inl x0 :: .inr (.inr (40, i, t)) :: st) σ Q ↔ sl_cw st ≤ 8 ∧ sl_Go xs N 98 0 [some (.inr (.inr (40, i, t))), some (.inl x0), some (.inl x1), none] [] σ (fun r τ => sl_Go xs N 102 51 L (r.toList ++ st) τ Q) := gk_call rfl (Nat.le_add_left 3 st.length) rfl rfl rfl rfl (Nat.le_of_ble_eq_true rfl)
theorem g102_51 {x : Int32} {a0 a1 a2 : Option sl_V} : sl_Go xs N 102 51 [a0, a1, a2, some (.inl x)] st σ Q ↔ sl_Go xs N 102 52 [a0, a1, a2, some (.inl x)] (.inl x :: st) σ Q := gk_iload rfl rfl
theorem g102_52 {L : sl_L} {x : Int32} : sl_Go xs N 102 52 L [.inl x] σ Q ↔ Q (some (.inl x)) σ := gk_iret rfl
theorem g103_0 {x : sl_R} {a1 a2 : Option sl_V} : sl_Go xs N 103 0 [some (.inr (.inr x)), a1, a2] st σ Q ↔ sl_Go xs N 103 1 [some (.inr (.inr x)), a1, a2] (.inr (.inr x) :: st) σ Q := gk_aload rfl rfl
theorem g103_1 {x : Int32} {a0 a2 : Option sl_V} : sl_Go xs N 103 1 [a0, some (.inl x), a2] st σ Q ↔ sl_Go xs N 103 2 [a0, some (.inl x), a2] (.inl x :: st) σ Q := gk_iload rfl rfl
theorem g103_2 {L : sl_L} {x0 : Int32} {i t : Nat} : sl_Go xs N 103 2 L (.inl x0 :: .inr (.inr (40, i, t)) :: st) σ Q ↔ sl_cw st ≤ 8 ∧ sl_Go xs N 93 0 [some (.inr (.inr (40, i, t))), some (.inl x0)] [] σ (fun r τ => sl_Go xs N 103 5 L (r.toList ++ st) τ Q) := gk_call rfl (Nat.le_add_left 2 st.length) rfl rfl rfl rfl (Nat.le_of_ble_eq_true rfl)
theorem g103_5 {L : sl_L} {x : Int32} : sl_Go xs N 103 5 L (.inl x :: st) σ Q ↔ (¬ x = 0 → sl_Go xs N 103 10 L st σ Q) ∧ (x = 0 → sl_Go xs N 103 8 L st σ Q) := gk_zne rfl
theorem g103_8 {L : sl_L} : sl_Go xs N 103 8 L st σ Q ↔ sl_Go xs N 103 9 L (.inl (-1) :: st) σ Q := gk_const rfl
theorem g103_9 {L : sl_L} {x : Int32} : sl_Go xs N 103 9 L [.inl x] σ Q ↔ Q (some (.inl x)) σ := gk_iret rfl
theorem g103_10 {x : sl_R} {a1 a2 : Option sl_V} : sl_Go xs N 103 10 [some (.inr (.inr x)), a1, a2] st σ Q ↔ sl_Go xs N 103 11 [some (.inr (.inr x)), a1, a2] (.inr (.inr x) :: st) σ Q := gk_aload rfl rfl
theorem g103_11 {x : Int32} {a0 a1 : Option sl_V} : sl_Go xs N 103 11 [a0, a1, some (.inl x)] st σ Q ↔ sl_Go xs N 103 12 [a0, a1, some (.inl x)] (.inl x :: st) σ Q := gk_iload rfl rfl
theorem g103_12 {L : sl_L} : sl_Go xs N 103 12 L st σ Q ↔ sl_Go xs N 103 13 L (.inl 0 :: st) σ Q := gk_const rfl
theorem g103_13 {x : sl_R} {a1 a2 : Option sl_V} : sl_Go xs N 103 13 [some (.inr (.inr x)), a1, a2] st σ Q ↔ sl_Go xs N 103 14 [some (.inr (.inr x)), a1, a2] (.inr (.inr x) :: st) σ Q := gk_aload rfl rfl
theorem g103_14 {L : sl_L} {i t : Nat} : sl_Go xs N 103 14 L (.inr (.inr (40, i, t)) :: st) σ Q ↔ sl_Go xs N 103 17 L (.inr (.inr (42, 0, 0)) :: st) σ Q := gk_get (g := .inr (42, 0, 0)) rfl rfl rfl
theorem g103_17 {x : Int32} {a0 a2 : Option sl_V} : sl_Go xs N 103 17 [a0, some (.inl x), a2] st σ Q ↔ sl_Go xs N 103 18 [a0, some (.inl x), a2] (.inl x :: st) σ Q := gk_iload rfl rfl
theorem g103_18 {L : sl_L} {j : Int32} {r : sl_R} : sl_Go xs N 103 18 L (.inl j :: .inr (.inr r) :: st) σ Q ↔ (0 ≤ j.toInt ∧ j.toInt < sl_ilen N r) ∧ sl_Go xs N 103 19 L (.inl (sl_rd xs σ r j.toNatClampNeg) :: st) σ Q := gk_iald rfl
theorem g103_19 {L : sl_L} : sl_Go xs N 103 19 L st σ Q ↔ sl_Go xs N 103 20 L (.inl 1 :: st) σ Q := gk_const rfl
theorem g103_20 {L : sl_L} {x y : Int32} : sl_Go xs N 103 20 L (.inl y :: .inl x :: st) σ Q ↔ sl_Go xs N 103 21 L (.inl (x - y) :: st) σ Q := gk_bin (b := 9) rfl
theorem g103_21 {L : sl_L} {x0 : Int32} {x1 : Int32} {x2 : Int32} {i t : Nat} : sl_Go xs N 103 21 L (.inl x2 :: .inl x1 :: .inl x0 :: .inr (.inr (40, i, t)) :: st) σ Q ↔ sl_cw st ≤ 8 ∧ sl_Go xs N 91 0 [some (.inr (.inr (40, i, t))), some (.inl x0), some (.inl x1), some (.inl x2)] [] σ (fun r τ => sl_Go xs N 103 24 L (r.toList ++ st) τ Q) := gk_call rfl (Nat.le_add_left 4 st.length) rfl rfl rfl rfl (Nat.le_of_ble_eq_true rfl)
theorem g103_24 {L : sl_L} {x : Int32} : sl_Go xs N 103 24 L (.inl x :: st) σ Q ↔ (¬ x = 0 → sl_Go xs N 103 30 L st σ Q) ∧ (x = 0 → sl_Go xs N 103 27 L st σ Q) := gk_zne rfl
theorem g103_27 {L : sl_L} : sl_Go xs N 103 27 L st σ Q ↔ sl_Go xs N 103 29 L (.inl (-2) :: st) σ Q := gk_const rfl
theorem g103_29 {L : sl_L} {x : Int32} : sl_Go xs N 103 29 L [.inl x] σ Q ↔ Q (some (.inl x)) σ := gk_iret rfl
theorem g103_30 {x : sl_R} {a1 a2 : Option sl_V} : sl_Go xs N 103 30 [some (.inr (.inr x)), a1, a2] st σ Q ↔ sl_Go xs N 103 31 [some (.inr (.inr x)), a1, a2] (.inr (.inr x) :: st) σ Q := gk_aload rfl rfl
theorem g103_31 {L : sl_L} {i t : Nat} : sl_Go xs N 103 31 L (.inr (.inr (40, i, t)) :: st) σ Q ↔ sl_Go xs N 103 34 L (.inl (σ 6 0 1) :: st) σ Q := gk_get (g := .inl (6, 0, 1)) rfl rfl rfl
theorem g103_34 {L : sl_L} : sl_Go xs N 103 34 L st σ Q ↔ sl_Go xs N 103 36 L (.inl 6 :: st) σ Q := gk_const rfl
theorem g103_36 {L : sl_L} {x y : Int32} : sl_Go xs N 103 36 L (.inl y :: .inl x :: st) σ Q ↔ (¬ x = y → sl_Go xs N 103 42 L st σ Q) ∧ (x = y → sl_Go xs N 103 39 L st σ Q) := gk_ine rfl
theorem g103_39 {L : sl_L} : sl_Go xs N 103 39 L st σ Q ↔ sl_Go xs N 103 41 L (.inl (-4) :: st) σ Q := gk_const rfl
theorem g103_41 {L : sl_L} {x : Int32} : sl_Go xs N 103 41 L [.inl x] σ Q ↔ Q (some (.inl x)) σ := gk_iret rfl
theorem g103_42 {x : sl_R} {a1 a2 : Option sl_V} : sl_Go xs N 103 42 [some (.inr (.inr x)), a1, a2] st σ Q ↔ sl_Go xs N 103 43 [some (.inr (.inr x)), a1, a2] (.inr (.inr x) :: st) σ Q := gk_aload rfl rfl
theorem g103_43 {L : sl_L} {i t : Nat} : sl_Go xs N 103 43 L (.inr (.inr (40, i, t)) :: st) σ Q ↔ sl_Go xs N 103 46 L (.inr (.inr (52, 0, 0)) :: st) σ Q := gk_get (g := .inr (52, 0, 0)) rfl rfl rfl
theorem g103_46 {x : sl_R} {a1 a2 : Option sl_V} : sl_Go xs N 103 46 [some (.inr (.inr x)), a1, a2] st σ Q ↔ sl_Go xs N 103 47 [some (.inr (.inr x)), a1, a2] (.inr (.inr x) :: st) σ Q := gk_aload rfl rfl
theorem g103_47 {L : sl_L} {i t : Nat} : sl_Go xs N 103 47 L (.inr (.inr (40, i, t)) :: st) σ Q ↔ sl_Go xs N 103 50 L (.inl (σ 6 0 1) :: st) σ Q := gk_get (g := .inl (6, 0, 1)) rfl rfl rfl
theorem g103_50 {x : Int32} {a0 a2 : Option sl_V} : sl_Go xs N 103 50 [a0, some (.inl x), a2] st σ Q ↔ sl_Go xs N 103 51 [a0, some (.inl x), a2] (.inl x :: st) σ Q := gk_iload rfl rfl
theorem g103_51 {L : sl_L} {j x : Int32} {r : sl_R} : sl_Go xs N 103 51 L (.inl x :: .inl j :: .inr (.inr r) :: st) σ Q ↔ (0 ≤ j.toInt ∧ j.toInt < sl_wlen r 0) ∧ sl_Go xs N 103 52 L st (sl_wr σ r j.toNatClampNeg x) Q := gk_iast rfl
theorem g103_52 {x : sl_R} {a1 a2 : Option sl_V} : sl_Go xs N 103 52 [some (.inr (.inr x)), a1, a2] st σ Q ↔ sl_Go xs N 103 53 [some (.inr (.inr x)), a1, a2] (.inr (.inr x) :: st) σ Q := gk_aload rfl rfl
theorem g103_53 {L : sl_L} {i t : Nat} : sl_Go xs N 103 53 L (.inr (.inr (40, i, t)) :: st) σ Q ↔ sl_Go xs N 103 56 L (.inr (.inr (53, 0, 0)) :: st) σ Q := gk_get (g := .inr (53, 0, 0)) rfl rfl rfl
theorem g103_56 {x : sl_R} {a1 a2 : Option sl_V} : sl_Go xs N 103 56 [some (.inr (.inr x)), a1, a2] st σ Q ↔ sl_Go xs N 103 57 [some (.inr (.inr x)), a1, a2] (.inr (.inr x) :: st) σ Q := gk_aload rfl rfl
theorem g103_57 {L : sl_L} {i t : Nat} : sl_Go xs N 103 57 L (.inr (.inr (40, i, t)) :: st) σ Q ↔ sl_Go xs N 103 60 L (.inl (σ 6 0 1) :: st) σ Q := gk_get (g := .inl (6, 0, 1)) rfl rfl rfl
theorem g103_60 {x : Int32} {a0 a1 : Option sl_V} : sl_Go xs N 103 60 [a0, a1, some (.inl x)] st σ Q ↔ sl_Go xs N 103 61 [a0, a1, some (.inl x)] (.inl x :: st) σ Q := gk_iload rfl rfl
theorem g103_61 {L : sl_L} {j x : Int32} {r : sl_R} : sl_Go xs N 103 61 L (.inl x :: .inl j :: .inr (.inr r) :: st) σ Q ↔ (0 ≤ j.toInt ∧ j.toInt < sl_wlen r 0) ∧ sl_Go xs N 103 62 L st (sl_wr σ r j.toNatClampNeg x) Q := gk_iast rfl
theorem g103_62 {x : sl_R} {a1 a2 : Option sl_V} : sl_Go xs N 103 62 [some (.inr (.inr x)), a1, a2] st σ Q ↔ sl_Go xs N 103 63 [some (.inr (.inr x)), a1, a2] (.inr (.inr x) :: st) σ Q := gk_aload rfl rfl
theorem g103_63 {L : sl_L} {i t : Nat} : sl_Go xs N 103 63 L (.inr (.inr (40, i, t)) :: st) σ Q ↔ sl_Go xs N 103 66 L (.inr (.inr (54, 0, 0)) :: st) σ Q := gk_get (g := .inr (54, 0, 0)) rfl rfl rfl
theorem g103_66 {x : sl_R} {a1 a2 : Option sl_V} : sl_Go xs N 103 66 [some (.inr (.inr x)), a1, a2] st σ Q ↔ sl_Go xs N 103 67 [some (.inr (.inr x)), a1, a2] (.inr (.inr x) :: st) σ Q := gk_aload rfl rfl
theorem g103_67 {L : sl_L} {i t : Nat} : sl_Go xs N 103 67 L (.inr (.inr (40, i, t)) :: st) σ Q ↔ sl_Go xs N 103 70 L (.inl (σ 6 0 1) :: st) σ Q := gk_get (g := .inl (6, 0, 1)) rfl rfl rfl
theorem g103_70 {L : sl_L} : sl_Go xs N 103 70 L st σ Q ↔ sl_Go xs N 103 71 L (.inl 0 :: st) σ Q := gk_const rfl
theorem g103_71 {L : sl_L} {j x : Int32} {r : sl_R} : sl_Go xs N 103 71 L (.inl x :: .inl j :: .inr (.inr r) :: st) σ Q ↔ (0 ≤ j.toInt ∧ j.toInt < sl_wlen r 0) ∧ sl_Go xs N 103 72 L st (sl_wr σ r j.toNatClampNeg x) Q := gk_iast rfl
theorem g103_72 {x : sl_R} {a1 a2 : Option sl_V} : sl_Go xs N 103 72 [some (.inr (.inr x)), a1, a2] st σ Q ↔ sl_Go xs N 103 73 [some (.inr (.inr x)), a1, a2] (.inr (.inr x) :: st) σ Q := gk_aload rfl rfl
theorem g103_73 {L : sl_L} {i t : Nat} : sl_Go xs N 103 73 L (.inr (.inr (40, i, t)) :: st) σ Q ↔ sl_Go xs N 103 76 L (.inr (.inr (55, 0, 0)) :: st) σ Q := gk_get (g := .inr (55, 0, 0)) rfl rfl rfl
theorem g103_76 {x : sl_R} {a1 a2 : Option sl_V} : sl_Go xs N 103 76 [some (.inr (.inr x)), a1, a2] st σ Q ↔ sl_Go xs N 103 77 [some (.inr (.inr x)), a1, a2] (.inr (.inr x) :: st) σ Q := gk_aload rfl rfl
theorem g103_77 {L : sl_L} {i t : Nat} : sl_Go xs N 103 77 L (.inr (.inr (40, i, t)) :: st) σ Q ↔ sl_Go xs N 103 80 L (.inl (σ 6 0 1) :: st) σ Q := gk_get (g := .inl (6, 0, 1)) rfl rfl rfl
theorem g103_80 {L : sl_L} : sl_Go xs N 103 80 L st σ Q ↔ sl_Go xs N 103 81 L (.inl 0 :: st) σ Q := gk_const rfl
theorem g103_81 {L : sl_L} {j x : Int32} {r : sl_R} : sl_Go xs N 103 81 L (.inl x :: .inl j :: .inr (.inr r) :: st) σ Q ↔ (0 ≤ j.toInt ∧ j.toInt < sl_wlen r 0) ∧ sl_Go xs N 103 82 L st (sl_wr σ r j.toNatClampNeg x) Q := gk_iast rfl
theorem g103_82 {x : sl_R} {a1 a2 : Option sl_V} : sl_Go xs N 103 82 [some (.inr (.inr x)), a1, a2] st σ Q ↔ sl_Go xs N 103 83 [some (.inr (.inr x)), a1, a2] (.inr (.inr x) :: st) σ Q := gk_aload rfl rfl
theorem g103_83 {L : sl_L} {i t : Nat} : sl_Go xs N 103 83 L (.inr (.inr (40, i, t)) :: st) σ Q ↔ sl_Go xs N 103 86 L (.inr (.inr (56, 0, 0)) :: st) σ Q := gk_get (g := .inr (56, 0, 0)) rfl rfl rfl
theorem g103_86 {x : sl_R} {a1 a2 : Option sl_V} : sl_Go xs N 103 86 [some (.inr (.inr x)), a1, a2] st σ Q ↔ sl_Go xs N 103 87 [some (.inr (.inr x)), a1, a2] (.inr (.inr x) :: st) σ Q := gk_aload rfl rfl
theorem g103_87 {L : sl_L} {i t : Nat} : sl_Go xs N 103 87 L (.inr (.inr (40, i, t)) :: st) σ Q ↔ sl_Go xs N 103 90 L (.inl (σ 6 0 1) :: st) σ Q := gk_get (g := .inl (6, 0, 1)) rfl rfl rfl
theorem g103_90 {L : sl_L} : sl_Go xs N 103 90 L st σ Q ↔ sl_Go xs N 103 91 L (.inl (-1) :: st) σ Q := gk_const rfl
theorem g103_91 {L : sl_L} {j x : Int32} {r : sl_R} : sl_Go xs N 103 91 L (.inl x :: .inl j :: .inr (.inr r) :: st) σ Q ↔ (0 ≤ j.toInt ∧ j.toInt < sl_wlen r 0) ∧ sl_Go xs N 103 92 L st (sl_wr σ r j.toNatClampNeg x) Q := gk_iast rfl
theorem g103_92 {x : sl_R} {a1 a2 : Option sl_V} : sl_Go xs N 103 92 [some (.inr (.inr x)), a1, a2] st σ Q ↔ sl_Go xs N 103 93 [some (.inr (.inr x)), a1, a2] (.inr (.inr x) :: st) σ Q := gk_aload rfl rfl
theorem g103_93i {L : sl_L} {x : Int32} : sl_Go xs N 103 93 L (.inl x :: st) σ Q ↔ sl_Go xs N 103 94 L (.inl x :: .inl x :: st) σ Q := gk_dupi rfl
theorem g103_93r {L : sl_L} {x : sl_R} : sl_Go xs N 103 93 L (.inr (.inr x) :: st) σ Q ↔ sl_Go xs N 103 94 L (.inr (.inr x) :: .inr (.inr x) :: st) σ Q := gk_dupr rfl
theorem g103_94 {L : sl_L} {i t : Nat} : sl_Go xs N 103 94 L (.inr (.inr (40, i, t)) :: st) σ Q ↔ sl_Go xs N 103 97 L (.inl (σ 6 0 1) :: st) σ Q := gk_get (g := .inl (6, 0, 1)) rfl rfl rfl
theorem g103_97 {L : sl_L} : sl_Go xs N 103 97 L st σ Q ↔ sl_Go xs N 103 98 L (.inl 1 :: st) σ Q := gk_const rfl
theorem g103_98 {L : sl_L} {x y : Int32} : sl_Go xs N 103 98 L (.inl y :: .inl x :: st) σ Q ↔ sl_Go xs N 103 99 L (.inl (x + y) :: st) σ Q := gk_bin (b := 8) rfl
theorem g103_99 {L : sl_L} {x : Int32} {i t : Nat} : sl_Go xs N 103 99 L (.inl x :: .inr (.inr (40, i, t)) :: st) σ Q ↔ sl_Go xs N 103 102 L st (sl_up σ 6 0 1 x) Q := gk_put0 (q := (6, 0, 1)) rfl rfl rfl
theorem g103_102 {x : sl_R} {a1 a2 : Option sl_V} : sl_Go xs N 103 102 [some (.inr (.inr x)), a1, a2] st σ Q ↔ sl_Go xs N 103 103 [some (.inr (.inr x)), a1, a2] (.inr (.inr x) :: st) σ Q := gk_aload rfl rfl
theorem g103_103 {L : sl_L} {i t : Nat} : sl_Go xs N 103 103 L (.inr (.inr (40, i, t)) :: st) σ Q ↔ sl_Go xs N 103 106 L (.inl (σ 6 0 1) :: st) σ Q := gk_get (g := .inl (6, 0, 1)) rfl rfl rfl
theorem g103_106 {L : sl_L} : sl_Go xs N 103 106 L st σ Q ↔ sl_Go xs N 103 107 L (.inl 1 :: st) σ Q := gk_const rfl
theorem g103_107 {L : sl_L} {x y : Int32} : sl_Go xs N 103 107 L (.inl y :: .inl x :: st) σ Q ↔ sl_Go xs N 103 108 L (.inl (x - y) :: st) σ Q := gk_bin (b := 9) rfl
theorem g103_108 {L : sl_L} {x : Int32} : sl_Go xs N 103 108 L [.inl x] σ Q ↔ Q (some (.inl x)) σ := gk_iret rfl
theorem g104_0 {x : sl_R} {a1 a2 a3 : Option sl_V} : sl_Go xs N 104 0 [some (.inr (.inr x)), a1, a2, a3] st σ Q ↔ sl_Go xs N 104 1 [some (.inr (.inr x)), a1, a2, a3] (.inr (.inr x) :: st) σ Q := gk_aload rfl rfl
theorem g104_1 {x : Int32} {a0 a2 a3 : Option sl_V} : sl_Go xs N 104 1 [a0, some (.inl x), a2, a3] st σ Q ↔ sl_Go xs N 104 2 [a0, some (.inl x), a2, a3] (.inl x :: st) σ Q := gk_iload rfl rfl
theorem g104_2 {L : sl_L} : sl_Go xs N 104 2 L st σ Q ↔ sl_Go xs N 104 3 L (.inl 0 :: st) σ Q := gk_const rfl
theorem g104_3 {x : sl_R} {a1 a2 a3 : Option sl_V} : sl_Go xs N 104 3 [some (.inr (.inr x)), a1, a2, a3] st σ Q ↔ sl_Go xs N 104 4 [some (.inr (.inr x)), a1, a2, a3] (.inr (.inr x) :: st) σ Q := gk_aload rfl rfl
theorem g104_4 {L : sl_L} {i t : Nat} : sl_Go xs N 104 4 L (.inr (.inr (40, i, t)) :: st) σ Q ↔ sl_Go xs N 104 7 L (.inl (σ 6 0 1) :: st) σ Q := gk_get (g := .inl (6, 0, 1)) rfl rfl rfl
theorem g104_7 {L : sl_L} : sl_Go xs N 104 7 L st σ Q ↔ sl_Go xs N 104 8 L (.inl 1 :: st) σ Q := gk_const rfl
theorem g104_8 {L : sl_L} {x y : Int32} : sl_Go xs N 104 8 L (.inl y :: .inl x :: st) σ Q ↔ sl_Go xs N 104 9 L (.inl (x - y) :: st) σ Q := gk_bin (b := 9) rfl
theorem g104_9 {L : sl_L} {x0 : Int32} {x1 : Int32} {x2 : Int32} {i t : Nat} : sl_Go xs N 104 9 L (.inl x2 :: .inl x1 :: .inl x0 :: .inr (.inr (40, i, t)) :: st) σ Q ↔ sl_cw st ≤ 8 ∧ sl_Go xs N 91 0 [some (.inr (.inr (40, i, t))), some (.inl x0), some (.inl x1), some (.inl x2)] [] σ (fun r τ => sl_Go xs N 104 12 L (r.toList ++ st) τ Q) := gk_call rfl (Nat.le_add_left 4 st.length) rfl rfl rfl rfl (Nat.le_of_ble_eq_true rfl)
theorem g104_12 {L : sl_L} {x : Int32} : sl_Go xs N 104 12 L (.inl x :: st) σ Q ↔ (¬ x = 0 → sl_Go xs N 104 17 L st σ Q) ∧ (x = 0 → sl_Go xs N 104 15 L st σ Q) := gk_zne rfl
theorem g104_15 {L : sl_L} : sl_Go xs N 104 15 L st σ Q ↔ sl_Go xs N 104 16 L (.inl (-1) :: st) σ Q := gk_const rfl
theorem g104_16 {L : sl_L} {x : Int32} : sl_Go xs N 104 16 L [.inl x] σ Q ↔ Q (some (.inl x)) σ := gk_iret rfl
theorem g104_17 {x : sl_R} {a1 a2 a3 : Option sl_V} : sl_Go xs N 104 17 [some (.inr (.inr x)), a1, a2, a3] st σ Q ↔ sl_Go xs N 104 18 [some (.inr (.inr x)), a1, a2, a3] (.inr (.inr x) :: st) σ Q := gk_aload rfl rfl
theorem g104_18 {x : Int32} {a0 a1 a3 : Option sl_V} : sl_Go xs N 104 18 [a0, a1, some (.inl x), a3] st σ Q ↔ sl_Go xs N 104 19 [a0, a1, some (.inl x), a3] (.inl x :: st) σ Q := gk_iload rfl rfl
theorem g104_19 {L : sl_L} : sl_Go xs N 104 19 L st σ Q ↔ sl_Go xs N 104 20 L (.inl 0 :: st) σ Q := gk_const rfl
theorem g104_20 {L : sl_L} : sl_Go xs N 104 20 L st σ Q ↔ sl_Go xs N 104 22 L (.inl 50 :: st) σ Q := gk_const rfl
theorem g104_22 {L : sl_L} {x0 : Int32} {x1 : Int32} {x2 : Int32} {i t : Nat} : sl_Go xs N 104 22 L (.inl x2 :: .inl x1 :: .inl x0 :: .inr (.inr (40, i, t)) :: st) σ Q ↔ sl_cw st ≤ 8 ∧ sl_Go xs N 91 0 [some (.inr (.inr (40, i, t))), some (.inl x0), some (.inl x1), some (.inl x2)] [] σ (fun r τ => sl_Go xs N 104 25 L (r.toList ++ st) τ Q) := gk_call rfl (Nat.le_add_left 4 st.length) rfl rfl rfl rfl (Nat.le_of_ble_eq_true rfl)
theorem g104_25 {L : sl_L} {x : Int32} : sl_Go xs N 104 25 L (.inl x :: st) σ Q ↔ (¬ x = 0 → sl_Go xs N 104 31 L st σ Q) ∧ (x = 0 → sl_Go xs N 104 28 L st σ Q) := gk_zne rfl
theorem g104_28 {L : sl_L} : sl_Go xs N 104 28 L st σ Q ↔ sl_Go xs N 104 30 L (.inl (-2) :: st) σ Q := gk_const rfl
theorem g104_30 {L : sl_L} {x : Int32} : sl_Go xs N 104 30 L [.inl x] σ Q ↔ Q (some (.inl x)) σ := gk_iret rfl
theorem g104_31 {x : sl_R} {a1 a2 a3 : Option sl_V} : sl_Go xs N 104 31 [some (.inr (.inr x)), a1, a2, a3] st σ Q ↔ sl_Go xs N 104 32 [some (.inr (.inr x)), a1, a2, a3] (.inr (.inr x) :: st) σ Q := gk_aload rfl rfl
theorem g104_32 {L : sl_L} {i t : Nat} : sl_Go xs N 104 32 L (.inr (.inr (40, i, t)) :: st) σ Q ↔ sl_Go xs N 104 35 L (.inr (.inr (54, 0, 0)) :: st) σ Q := gk_get (g := .inr (54, 0, 0)) rfl rfl rfl
theorem g104_35 {x : Int32} {a0 a2 a3 : Option sl_V} : sl_Go xs N 104 35 [a0, some (.inl x), a2, a3] st σ Q ↔ sl_Go xs N 104 36 [a0, some (.inl x), a2, a3] (.inl x :: st) σ Q := gk_iload rfl rfl
theorem g104_36 {L : sl_L} {j : Int32} {r : sl_R} : sl_Go xs N 104 36 L (.inl j :: .inr (.inr r) :: st) σ Q ↔ (0 ≤ j.toInt ∧ j.toInt < sl_ilen N r) ∧ sl_Go xs N 104 37 L (.inl (sl_rd xs σ r j.toNatClampNeg) :: st) σ Q := gk_iald rfl
theorem g104_37n {x : Int32} {a0 a1 a3 : Option sl_V} : sl_Go xs N 104 37 [a0, a1, none, a3] (.inl x :: st) σ Q ↔ sl_Go xs N 104 38 [a0, a1, none, some (.inl x)] st σ Q := gk_istore rfl ⟨Nat.le_of_ble_eq_true rfl, rfl⟩ rfl
theorem g104_37i {x : Int32} {z : Int32} {a0 a1 a3 : Option sl_V} : sl_Go xs N 104 37 [a0, a1, some (.inl z), a3] (.inl x :: st) σ Q ↔ sl_Go xs N 104 38 [a0, a1, some (.inl z), some (.inl x)] st σ Q := gk_istore rfl ⟨Nat.le_of_ble_eq_true rfl, rfl⟩ rfl
theorem g104_37r {x : Int32} {z : sl_R} {a0 a1 a3 : Option sl_V} : sl_Go xs N 104 37 [a0, a1, some (.inr (.inr z)), a3] (.inl x :: st) σ Q ↔ sl_Go xs N 104 38 [a0, a1, some (.inr (.inr z)), some (.inl x)] st σ Q := gk_istore rfl ⟨Nat.le_of_ble_eq_true rfl, rfl⟩ rfl
theorem g104_38 {x : sl_R} {a1 a2 a3 : Option sl_V} : sl_Go xs N 104 38 [some (.inr (.inr x)), a1, a2, a3] st σ Q ↔ sl_Go xs N 104 39 [some (.inr (.inr x)), a1, a2, a3] (.inr (.inr x) :: st) σ Q := gk_aload rfl rfl
theorem g104_39 {L : sl_L} {i t : Nat} : sl_Go xs N 104 39 L (.inr (.inr (40, i, t)) :: st) σ Q ↔ sl_Go xs N 104 42 L (.inr (.inr (54, 0, 0)) :: st) σ Q := gk_get (g := .inr (54, 0, 0)) rfl rfl rfl
theorem g104_42 {x : Int32} {a0 a2 a3 : Option sl_V} : sl_Go xs N 104 42 [a0, some (.inl x), a2, a3] st σ Q ↔ sl_Go xs N 104 43 [a0, some (.inl x), a2, a3] (.inl x :: st) σ Q := gk_iload rfl rfl
theorem g104_43 {x : Int32} {a0 a1 a3 : Option sl_V} : sl_Go xs N 104 43 [a0, a1, some (.inl x), a3] st σ Q ↔ sl_Go xs N 104 44 [a0, a1, some (.inl x), a3] (.inl x :: st) σ Q := gk_iload rfl rfl
theorem g104_44 {L : sl_L} {j x : Int32} {r : sl_R} : sl_Go xs N 104 44 L (.inl x :: .inl j :: .inr (.inr r) :: st) σ Q ↔ (0 ≤ j.toInt ∧ j.toInt < sl_wlen r 0) ∧ sl_Go xs N 104 45 L st (sl_wr σ r j.toNatClampNeg x) Q := gk_iast rfl
theorem g104_45 {x : Int32} {a0 a1 a2 : Option sl_V} : sl_Go xs N 104 45 [a0, a1, a2, some (.inl x)] st σ Q ↔ sl_Go xs N 104 46 [a0, a1, a2, some (.inl x)] (.inl x :: st) σ Q := gk_iload rfl rfl
theorem g104_46 {L : sl_L} {x : Int32} : sl_Go xs N 104 46 L [.inl x] σ Q ↔ Q (some (.inl x)) σ := gk_iret rfl
theorem g105_0 {x : sl_R} {a1 a2 : Option sl_V} : sl_Go xs N 105 0 [some (.inr (.inr x)), a1, a2] st σ Q ↔ sl_Go xs N 105 1 [some (.inr (.inr x)), a1, a2] (.inr (.inr x) :: st) σ Q := gk_aload rfl rfl
theorem g105_1 {x : Int32} {a0 a2 : Option sl_V} : sl_Go xs N 105 1 [a0, some (.inl x), a2] st σ Q ↔ sl_Go xs N 105 2 [a0, some (.inl x), a2] (.inl x :: st) σ Q := gk_iload rfl rfl
theorem g105_2 {L : sl_L} : sl_Go xs N 105 2 L st σ Q ↔ sl_Go xs N 105 4 L (.inl (-50) :: st) σ Q := gk_const rfl
theorem g105_4 {L : sl_L} : sl_Go xs N 105 4 L st σ Q ↔ sl_Go xs N 105 6 L (.inl 50 :: st) σ Q := gk_const rfl
theorem g105_6 {L : sl_L} {x0 : Int32} {x1 : Int32} {x2 : Int32} {i t : Nat} : sl_Go xs N 105 6 L (.inl x2 :: .inl x1 :: .inl x0 :: .inr (.inr (40, i, t)) :: st) σ Q ↔ sl_cw st ≤ 8 ∧ sl_Go xs N 91 0 [some (.inr (.inr (40, i, t))), some (.inl x0), some (.inl x1), some (.inl x2)] [] σ (fun r τ => sl_Go xs N 105 9 L (r.toList ++ st) τ Q) := gk_call rfl (Nat.le_add_left 4 st.length) rfl rfl rfl rfl (Nat.le_of_ble_eq_true rfl)
theorem g105_9 {L : sl_L} {x : Int32} : sl_Go xs N 105 9 L (.inl x :: st) σ Q ↔ (¬ x = 0 → sl_Go xs N 105 15 L st σ Q) ∧ (x = 0 → sl_Go xs N 105 12 L st σ Q) := gk_zne rfl
theorem g105_12 {L : sl_L} : sl_Go xs N 105 12 L st σ Q ↔ sl_Go xs N 105 14 L (.inl (-100) :: st) σ Q := gk_const rfl
theorem g105_14 {L : sl_L} {x : Int32} : sl_Go xs N 105 14 L [.inl x] σ Q ↔ Q (some (.inl x)) σ := gk_iret rfl
theorem g105_15 {x : sl_R} {a1 a2 : Option sl_V} : sl_Go xs N 105 15 [some (.inr (.inr x)), a1, a2] st σ Q ↔ sl_Go xs N 105 16 [some (.inr (.inr x)), a1, a2] (.inr (.inr x) :: st) σ Q := gk_aload rfl rfl
theorem g105_16 {L : sl_L} {i t : Nat} : sl_Go xs N 105 16 L (.inr (.inr (40, i, t)) :: st) σ Q ↔ sl_Go xs N 105 19 L (.inl (σ 4 0 1) :: st) σ Q := gk_get (g := .inl (4, 0, 1)) rfl rfl rfl
theorem g105_19n {x : Int32} {a0 a2 : Option sl_V} : sl_Go xs N 105 19 [a0, none, a2] (.inl x :: st) σ Q ↔ sl_Go xs N 105 20 [a0, none, some (.inl x)] st σ Q := gk_istore rfl ⟨Nat.le_of_ble_eq_true rfl, rfl⟩ rfl
theorem g105_19i {x : Int32} {z : Int32} {a0 a2 : Option sl_V} : sl_Go xs N 105 19 [a0, some (.inl z), a2] (.inl x :: st) σ Q ↔ sl_Go xs N 105 20 [a0, some (.inl z), some (.inl x)] st σ Q := gk_istore rfl ⟨Nat.le_of_ble_eq_true rfl, rfl⟩ rfl
theorem g105_19r {x : Int32} {z : sl_R} {a0 a2 : Option sl_V} : sl_Go xs N 105 19 [a0, some (.inr (.inr z)), a2] (.inl x :: st) σ Q ↔ sl_Go xs N 105 20 [a0, some (.inr (.inr z)), some (.inl x)] st σ Q := gk_istore rfl ⟨Nat.le_of_ble_eq_true rfl, rfl⟩ rfl
theorem g105_20 {x : sl_R} {a1 a2 : Option sl_V} : sl_Go xs N 105 20 [some (.inr (.inr x)), a1, a2] st σ Q ↔ sl_Go xs N 105 21 [some (.inr (.inr x)), a1, a2] (.inr (.inr x) :: st) σ Q := gk_aload rfl rfl
theorem g105_21 {x : Int32} {a0 a2 : Option sl_V} : sl_Go xs N 105 21 [a0, some (.inl x), a2] st σ Q ↔ sl_Go xs N 105 22 [a0, some (.inl x), a2] (.inl x :: st) σ Q := gk_iload rfl rfl
theorem g105_22 {L : sl_L} {x : Int32} {i t : Nat} : sl_Go xs N 105 22 L (.inl x :: .inr (.inr (40, i, t)) :: st) σ Q ↔ sl_Go xs N 105 25 L st (sl_up σ 4 0 1 x) Q := gk_put0 (q := (4, 0, 1)) rfl rfl rfl
theorem g105_25 {x : Int32} {a0 a1 : Option sl_V} : sl_Go xs N 105 25 [a0, a1, some (.inl x)] st σ Q ↔ sl_Go xs N 105 26 [a0, a1, some (.inl x)] (.inl x :: st) σ Q := gk_iload rfl rfl
theorem g105_26 {L : sl_L} {x : Int32} : sl_Go xs N 105 26 L [.inl x] σ Q ↔ Q (some (.inl x)) σ := gk_iret rfl
theorem g106_0 {x : sl_R} {a1 a2 a3 : Option sl_V} : sl_Go xs N 106 0 [some (.inr (.inr x)), a1, a2, a3] st σ Q ↔ sl_Go xs N 106 1 [some (.inr (.inr x)), a1, a2, a3] (.inr (.inr x) :: st) σ Q := gk_aload rfl rfl
theorem g106_1 {x : Int32} {a0 a2 a3 : Option sl_V} : sl_Go xs N 106 1 [a0, some (.inl x), a2, a3] st σ Q ↔ sl_Go xs N 106 2 [a0, some (.inl x), a2, a3] (.inl x :: st) σ Q := gk_iload rfl rfl
theorem g106_2 {L : sl_L} : sl_Go xs N 106 2 L st σ Q ↔ sl_Go xs N 106 3 L (.inl 0 :: st) σ Q := gk_const rfl
theorem g106_3 {L : sl_L} : sl_Go xs N 106 3 L st σ Q ↔ sl_Go xs N 106 4 L (.inl 1 :: st) σ Q := gk_const rfl
theorem g106_4 {L : sl_L} {x0 : Int32} {x1 : Int32} {x2 : Int32} {i t : Nat} : sl_Go xs N 106 4 L (.inl x2 :: .inl x1 :: .inl x0 :: .inr (.inr (40, i, t)) :: st) σ Q ↔ sl_cw st ≤ 8 ∧ sl_Go xs N 91 0 [some (.inr (.inr (40, i, t))), some (.inl x0), some (.inl x1), some (.inl x2)] [] σ (fun r τ => sl_Go xs N 106 7 L (r.toList ++ st) τ Q) := gk_call rfl (Nat.le_add_left 4 st.length) rfl rfl rfl rfl (Nat.le_of_ble_eq_true rfl)
theorem g106_7 {L : sl_L} {x : Int32} : sl_Go xs N 106 7 L (.inl x :: st) σ Q ↔ (x = 0 → sl_Go xs N 106 39 L st σ Q) ∧ (¬ x = 0 → sl_Go xs N 106 10 L st σ Q) := gk_zeq rfl
theorem g106_10 {x : Int32} {a0 a2 a3 : Option sl_V} : sl_Go xs N 106 10 [a0, some (.inl x), a2, a3] st σ Q ↔ sl_Go xs N 106 11 [a0, some (.inl x), a2, a3] (.inl x :: st) σ Q := gk_iload rfl rfl
theorem g106_11 {L : sl_L} {x : Int32} : sl_Go xs N 106 11 L (.inl x :: st) σ Q ↔ (¬ x = 0 → sl_Go xs N 106 28 L st σ Q) ∧ (x = 0 → sl_Go xs N 106 14 L st σ Q) := gk_zne rfl
theorem g106_14 {x : sl_R} {a1 a2 a3 : Option sl_V} : sl_Go xs N 106 14 [some (.inr (.inr x)), a1, a2, a3] st σ Q ↔ sl_Go xs N 106 15 [some (.inr (.inr x)), a1, a2, a3] (.inr (.inr x) :: st) σ Q := gk_aload rfl rfl
theorem g106_15 {x : Int32} {a0 a1 a3 : Option sl_V} : sl_Go xs N 106 15 [a0, a1, some (.inl x), a3] st σ Q ↔ sl_Go xs N 106 16 [a0, a1, some (.inl x), a3] (.inl x :: st) σ Q := gk_iload rfl rfl
theorem g106_16 {L : sl_L} : sl_Go xs N 106 16 L st σ Q ↔ sl_Go xs N 106 17 L (.inl 1 :: st) σ Q := gk_const rfl
theorem g106_17 {L : sl_L} : sl_Go xs N 106 17 L st σ Q ↔ sl_Go xs N 106 19 L (.inl 50 :: st) σ Q := gk_const rfl
theorem g106_19 {L : sl_L} {x0 : Int32} {x1 : Int32} {x2 : Int32} {i t : Nat} : sl_Go xs N 106 19 L (.inl x2 :: .inl x1 :: .inl x0 :: .inr (.inr (40, i, t)) :: st) σ Q ↔ sl_cw st ≤ 8 ∧ sl_Go xs N 91 0 [some (.inr (.inr (40, i, t))), some (.inl x0), some (.inl x1), some (.inl x2)] [] σ (fun r τ => sl_Go xs N 106 22 L (r.toList ++ st) τ Q) := gk_call rfl (Nat.le_add_left 4 st.length) rfl rfl rfl rfl (Nat.le_of_ble_eq_true rfl)
theorem g106_22 {L : sl_L} {x : Int32} : sl_Go xs N 106 22 L (.inl x :: st) σ Q ↔ (¬ x = 0 → sl_Go xs N 106 42 L st σ Q) ∧ (x = 0 → sl_Go xs N 106 25 L st σ Q) := gk_zne rfl
theorem g106_25 {L : sl_L} : sl_Go xs N 106 25 L st σ Q ↔ sl_Go xs N 106 39 L st σ Q := gk_goto rfl
theorem g106_28 {x : sl_R} {a1 a2 a3 : Option sl_V} : sl_Go xs N 106 28 [some (.inr (.inr x)), a1, a2, a3] st σ Q ↔ sl_Go xs N 106 29 [some (.inr (.inr x)), a1, a2, a3] (.inr (.inr x) :: st) σ Q := gk_aload rfl rfl
theorem g106_29 {x : Int32} {a0 a1 a3 : Option sl_V} : sl_Go xs N 106 29 [a0, a1, some (.inl x), a3] st σ Q ↔ sl_Go xs N 106 30 [a0, a1, some (.inl x), a3] (.inl x :: st) σ Q := gk_iload rfl rfl
theorem g106_30 {L : sl_L} : sl_Go xs N 106 30 L st σ Q ↔ sl_Go xs N 106 31 L (.inl 0 :: st) σ Q := gk_const rfl
theorem g106_31 {L : sl_L} : sl_Go xs N 106 31 L st σ Q ↔ sl_Go xs N 106 33 L (.inl 100000 :: st) σ Q := gk_const rfl
theorem g106_33 {L : sl_L} {x0 : Int32} {x1 : Int32} {x2 : Int32} {i t : Nat} : sl_Go xs N 106 33 L (.inl x2 :: .inl x1 :: .inl x0 :: .inr (.inr (40, i, t)) :: st) σ Q ↔ sl_cw st ≤ 8 ∧ sl_Go xs N 91 0 [some (.inr (.inr (40, i, t))), some (.inl x0), some (.inl x1), some (.inl x2)] [] σ (fun r τ => sl_Go xs N 106 36 L (r.toList ++ st) τ Q) := gk_call rfl (Nat.le_add_left 4 st.length) rfl rfl rfl rfl (Nat.le_of_ble_eq_true rfl)
theorem g106_36 {L : sl_L} {x : Int32} : sl_Go xs N 106 36 L (.inl x :: st) σ Q ↔ (¬ x = 0 → sl_Go xs N 106 42 L st σ Q) ∧ (x = 0 → sl_Go xs N 106 39 L st σ Q) := gk_zne rfl
theorem g106_39 {L : sl_L} : sl_Go xs N 106 39 L st σ Q ↔ sl_Go xs N 106 41 L (.inl (-2) :: st) σ Q := gk_const rfl
theorem g106_41 {L : sl_L} {x : Int32} : sl_Go xs N 106 41 L [.inl x] σ Q ↔ Q (some (.inl x)) σ := gk_iret rfl
theorem g106_42 {x : Int32} {a0 a2 a3 : Option sl_V} : sl_Go xs N 106 42 [a0, some (.inl x), a2, a3] st σ Q ↔ sl_Go xs N 106 43 [a0, some (.inl x), a2, a3] (.inl x :: st) σ Q := gk_iload rfl rfl
theorem g106_43 {L : sl_L} {x : Int32} : sl_Go xs N 106 43 L (.inl x :: st) σ Q ↔ (¬ x = 0 → sl_Go xs N 106 53 L st σ Q) ∧ (x = 0 → sl_Go xs N 106 46 L st σ Q) := gk_zne rfl
theorem g106_46 {x : sl_R} {a1 a2 a3 : Option sl_V} : sl_Go xs N 106 46 [some (.inr (.inr x)), a1, a2, a3] st σ Q ↔ sl_Go xs N 106 47 [some (.inr (.inr x)), a1, a2, a3] (.inr (.inr x) :: st) σ Q := gk_aload rfl rfl
theorem g106_47 {L : sl_L} {i t : Nat} : sl_Go xs N 106 47 L (.inr (.inr (40, i, t)) :: st) σ Q ↔ sl_Go xs N 106 50 L (.inl (σ 6 0 3) :: st) σ Q := gk_get (g := .inl (6, 0, 3)) rfl rfl rfl
theorem g106_50 {L : sl_L} : sl_Go xs N 106 50 L st σ Q ↔ sl_Go xs N 106 57 L st σ Q := gk_goto rfl
theorem g106_53 {x : sl_R} {a1 a2 a3 : Option sl_V} : sl_Go xs N 106 53 [some (.inr (.inr x)), a1, a2, a3] st σ Q ↔ sl_Go xs N 106 54 [some (.inr (.inr x)), a1, a2, a3] (.inr (.inr x) :: st) σ Q := gk_aload rfl rfl
theorem g106_54 {L : sl_L} {i t : Nat} : sl_Go xs N 106 54 L (.inr (.inr (40, i, t)) :: st) σ Q ↔ sl_Go xs N 106 57 L (.inl (σ 6 0 4) :: st) σ Q := gk_get (g := .inl (6, 0, 4)) rfl rfl rfl
theorem g106_57n {x : Int32} {a0 a1 a3 : Option sl_V} : sl_Go xs N 106 57 [a0, a1, none, a3] (.inl x :: st) σ Q ↔ sl_Go xs N 106 58 [a0, a1, none, some (.inl x)] st σ Q := gk_istore rfl ⟨Nat.le_of_ble_eq_true rfl, rfl⟩ rfl
theorem g106_57i {x : Int32} {z : Int32} {a0 a1 a3 : Option sl_V} : sl_Go xs N 106 57 [a0, a1, some (.inl z), a3] (.inl x :: st) σ Q ↔ sl_Go xs N 106 58 [a0, a1, some (.inl z), some (.inl x)] st σ Q := gk_istore rfl ⟨Nat.le_of_ble_eq_true rfl, rfl⟩ rfl
theorem g106_57r {x : Int32} {z : sl_R} {a0 a1 a3 : Option sl_V} : sl_Go xs N 106 57 [a0, a1, some (.inr (.inr z)), a3] (.inl x :: st) σ Q ↔ sl_Go xs N 106 58 [a0, a1, some (.inr (.inr z)), some (.inl x)] st σ Q := gk_istore rfl ⟨Nat.le_of_ble_eq_true rfl, rfl⟩ rfl
theorem g106_58 {x : Int32} {a0 a2 a3 : Option sl_V} : sl_Go xs N 106 58 [a0, some (.inl x), a2, a3] st σ Q ↔ sl_Go xs N 106 59 [a0, some (.inl x), a2, a3] (.inl x :: st) σ Q := gk_iload rfl rfl
theorem g106_59 {L : sl_L} {x : Int32} : sl_Go xs N 106 59 L (.inl x :: st) σ Q ↔ (¬ x = 0 → sl_Go xs N 106 70 L st σ Q) ∧ (x = 0 → sl_Go xs N 106 62 L st σ Q) := gk_zne rfl
theorem g106_62 {x : sl_R} {a1 a2 a3 : Option sl_V} : sl_Go xs N 106 62 [some (.inr (.inr x)), a1, a2, a3] st σ Q ↔ sl_Go xs N 106 63 [some (.inr (.inr x)), a1, a2, a3] (.inr (.inr x) :: st) σ Q := gk_aload rfl rfl
theorem g106_63 {x : Int32} {a0 a1 a3 : Option sl_V} : sl_Go xs N 106 63 [a0, a1, some (.inl x), a3] st σ Q ↔ sl_Go xs N 106 64 [a0, a1, some (.inl x), a3] (.inl x :: st) σ Q := gk_iload rfl rfl
theorem g106_64 {L : sl_L} {x : Int32} {i t : Nat} : sl_Go xs N 106 64 L (.inl x :: .inr (.inr (40, i, t)) :: st) σ Q ↔ sl_Go xs N 106 67 L st (sl_up σ 6 0 3 x) Q := gk_put0 (q := (6, 0, 3)) rfl rfl rfl
theorem g106_67 {L : sl_L} : sl_Go xs N 106 67 L st σ Q ↔ sl_Go xs N 106 75 L st σ Q := gk_goto rfl
theorem g106_70 {x : sl_R} {a1 a2 a3 : Option sl_V} : sl_Go xs N 106 70 [some (.inr (.inr x)), a1, a2, a3] st σ Q ↔ sl_Go xs N 106 71 [some (.inr (.inr x)), a1, a2, a3] (.inr (.inr x) :: st) σ Q := gk_aload rfl rfl
theorem g106_71 {x : Int32} {a0 a1 a3 : Option sl_V} : sl_Go xs N 106 71 [a0, a1, some (.inl x), a3] st σ Q ↔ sl_Go xs N 106 72 [a0, a1, some (.inl x), a3] (.inl x :: st) σ Q := gk_iload rfl rfl
theorem g106_72 {L : sl_L} {x : Int32} {i t : Nat} : sl_Go xs N 106 72 L (.inl x :: .inr (.inr (40, i, t)) :: st) σ Q ↔ sl_Go xs N 106 75 L st (sl_up σ 6 0 4 x) Q := gk_put0 (q := (6, 0, 4)) rfl rfl rfl
theorem g106_75 {x : Int32} {a0 a1 a2 : Option sl_V} : sl_Go xs N 106 75 [a0, a1, a2, some (.inl x)] st σ Q ↔ sl_Go xs N 106 76 [a0, a1, a2, some (.inl x)] (.inl x :: st) σ Q := gk_iload rfl rfl
theorem g106_76 {L : sl_L} {x : Int32} : sl_Go xs N 106 76 L [.inl x] σ Q ↔ Q (some (.inl x)) σ := gk_iret rfl
theorem g107_0 {L : sl_L} : sl_Go xs N 107 0 L st σ Q ↔ sl_Go xs N 107 1 L (.inl 0 :: st) σ Q := gk_const rfl
theorem g107_1n {x : Int32} {a1 a2 a3 : Option sl_V} : sl_Go xs N 107 1 [none, a1, a2, a3] (.inl x :: st) σ Q ↔ sl_Go xs N 107 2 [none, some (.inl x), a2, a3] st σ Q := gk_istore rfl ⟨Nat.le_of_ble_eq_true rfl, rfl⟩ rfl
theorem g107_1i {x : Int32} {z : Int32} {a1 a2 a3 : Option sl_V} : sl_Go xs N 107 1 [some (.inl z), a1, a2, a3] (.inl x :: st) σ Q ↔ sl_Go xs N 107 2 [some (.inl z), some (.inl x), a2, a3] st σ Q := gk_istore rfl ⟨Nat.le_of_ble_eq_true rfl, rfl⟩ rfl
theorem g107_1r {x : Int32} {z : sl_R} {a1 a2 a3 : Option sl_V} : sl_Go xs N 107 1 [some (.inr (.inr z)), a1, a2, a3] (.inl x :: st) σ Q ↔ sl_Go xs N 107 2 [some (.inr (.inr z)), some (.inl x), a2, a3] st σ Q := gk_istore rfl ⟨Nat.le_of_ble_eq_true rfl, rfl⟩ rfl
theorem g107_2 {L : sl_L} : sl_Go xs N 107 2 L st σ Q ↔ sl_Go xs N 107 3 L (.inl 0 :: st) σ Q := gk_const rfl
theorem g107_3n {x : Int32} {a0 a2 a3 : Option sl_V} : sl_Go xs N 107 3 [a0, none, a2, a3] (.inl x :: st) σ Q ↔ sl_Go xs N 107 4 [a0, none, some (.inl x), a3] st σ Q := gk_istore rfl ⟨Nat.le_of_ble_eq_true rfl, rfl⟩ rfl
theorem g107_3i {x : Int32} {z : Int32} {a0 a2 a3 : Option sl_V} : sl_Go xs N 107 3 [a0, some (.inl z), a2, a3] (.inl x :: st) σ Q ↔ sl_Go xs N 107 4 [a0, some (.inl z), some (.inl x), a3] st σ Q := gk_istore rfl ⟨Nat.le_of_ble_eq_true rfl, rfl⟩ rfl
theorem g107_3r {x : Int32} {z : sl_R} {a0 a2 a3 : Option sl_V} : sl_Go xs N 107 3 [a0, some (.inr (.inr z)), a2, a3] (.inl x :: st) σ Q ↔ sl_Go xs N 107 4 [a0, some (.inr (.inr z)), some (.inl x), a3] st σ Q := gk_istore rfl ⟨Nat.le_of_ble_eq_true rfl, rfl⟩ rfl
theorem g107_4 {x : Int32} {a0 a1 a3 : Option sl_V} : sl_Go xs N 107 4 [a0, a1, some (.inl x), a3] st σ Q ↔ sl_Go xs N 107 5 [a0, a1, some (.inl x), a3] (.inl x :: st) σ Q := gk_iload rfl rfl
theorem g107_5 {x : sl_R} {a1 a2 a3 : Option sl_V} : sl_Go xs N 107 5 [some (.inr (.inr x)), a1, a2, a3] st σ Q ↔ sl_Go xs N 107 6 [some (.inr (.inr x)), a1, a2, a3] (.inr (.inr x) :: st) σ Q := gk_aload rfl rfl
theorem g107_6 {L : sl_L} {i t : Nat} : sl_Go xs N 107 6 L (.inr (.inr (40, i, t)) :: st) σ Q ↔ sl_Go xs N 107 9 L (.inl (σ 6 0 0) :: st) σ Q := gk_get (g := .inl (6, 0, 0)) rfl rfl rfl
theorem g107_9 {L : sl_L} {x y : Int32} : sl_Go xs N 107 9 L (.inl y :: .inl x :: st) σ Q ↔ (y ≤ x → sl_Go xs N 107 70 L st σ Q) ∧ (¬ y ≤ x → sl_Go xs N 107 12 L st σ Q) := gk_ige rfl
theorem g107_12 {L : sl_L} : sl_Go xs N 107 12 L st σ Q ↔ sl_Go xs N 107 13 L (.inl 0 :: st) σ Q := gk_const rfl
theorem g107_13n {x : Int32} {a0 a1 a3 : Option sl_V} : sl_Go xs N 107 13 [a0, a1, none, a3] (.inl x :: st) σ Q ↔ sl_Go xs N 107 14 [a0, a1, none, some (.inl x)] st σ Q := gk_istore rfl ⟨Nat.le_of_ble_eq_true rfl, rfl⟩ rfl
theorem g107_13i {x : Int32} {z : Int32} {a0 a1 a3 : Option sl_V} : sl_Go xs N 107 13 [a0, a1, some (.inl z), a3] (.inl x :: st) σ Q ↔ sl_Go xs N 107 14 [a0, a1, some (.inl z), some (.inl x)] st σ Q := gk_istore rfl ⟨Nat.le_of_ble_eq_true rfl, rfl⟩ rfl
theorem g107_13r {x : Int32} {z : sl_R} {a0 a1 a3 : Option sl_V} : sl_Go xs N 107 13 [a0, a1, some (.inr (.inr z)), a3] (.inl x :: st) σ Q ↔ sl_Go xs N 107 14 [a0, a1, some (.inr (.inr z)), some (.inl x)] st σ Q := gk_istore rfl ⟨Nat.le_of_ble_eq_true rfl, rfl⟩ rfl
theorem g107_14 {x : Int32} {a0 a1 a2 : Option sl_V} : sl_Go xs N 107 14 [a0, a1, a2, some (.inl x)] st σ Q ↔ sl_Go xs N 107 15 [a0, a1, a2, some (.inl x)] (.inl x :: st) σ Q := gk_iload rfl rfl
theorem g107_15 {x : sl_R} {a1 a2 a3 : Option sl_V} : sl_Go xs N 107 15 [some (.inr (.inr x)), a1, a2, a3] st σ Q ↔ sl_Go xs N 107 16 [some (.inr (.inr x)), a1, a2, a3] (.inr (.inr x) :: st) σ Q := gk_aload rfl rfl
theorem g107_16 {L : sl_L} {i t : Nat} : sl_Go xs N 107 16 L (.inr (.inr (40, i, t)) :: st) σ Q ↔ sl_Go xs N 107 19 L (.inr (.inr (42, 0, 0)) :: st) σ Q := gk_get (g := .inr (42, 0, 0)) rfl rfl rfl
theorem g107_19 {x : Int32} {a0 a1 a3 : Option sl_V} : sl_Go xs N 107 19 [a0, a1, some (.inl x), a3] st σ Q ↔ sl_Go xs N 107 20 [a0, a1, some (.inl x), a3] (.inl x :: st) σ Q := gk_iload rfl rfl
theorem g107_20 {L : sl_L} {j : Int32} {r : sl_R} : sl_Go xs N 107 20 L (.inl j :: .inr (.inr r) :: st) σ Q ↔ (0 ≤ j.toInt ∧ j.toInt < sl_ilen N r) ∧ sl_Go xs N 107 21 L (.inl (sl_rd xs σ r j.toNatClampNeg) :: st) σ Q := gk_iald rfl
theorem g107_21 {L : sl_L} {x y : Int32} : sl_Go xs N 107 21 L (.inl y :: .inl x :: st) σ Q ↔ (y ≤ x → sl_Go xs N 107 64 L st σ Q) ∧ (¬ y ≤ x → sl_Go xs N 107 24 L st σ Q) := gk_ige rfl
theorem g107_24 {x : Int32} {a0 a2 a3 : Option sl_V} : sl_Go xs N 107 24 [a0, some (.inl x), a2, a3] st σ Q ↔ sl_Go xs N 107 25 [a0, some (.inl x), a2, a3] (.inl x :: st) σ Q := gk_iload rfl rfl
theorem g107_25 {x : sl_R} {a1 a2 a3 : Option sl_V} : sl_Go xs N 107 25 [some (.inr (.inr x)), a1, a2, a3] st σ Q ↔ sl_Go xs N 107 26 [some (.inr (.inr x)), a1, a2, a3] (.inr (.inr x) :: st) σ Q := gk_aload rfl rfl
theorem g107_26 {L : sl_L} {i t : Nat} : sl_Go xs N 107 26 L (.inr (.inr (40, i, t)) :: st) σ Q ↔ sl_Go xs N 107 29 L (.inr (.inr (47, 0, 0)) :: st) σ Q := gk_get (g := .inr (47, 0, 0)) rfl rfl rfl
theorem g107_29 {L : sl_L} : sl_Go xs N 107 29 L st σ Q ↔ sl_Go xs N 107 31 L (.inl 12 :: st) σ Q := gk_const rfl
theorem g107_31 {x : Int32} {a0 a1 a3 : Option sl_V} : sl_Go xs N 107 31 [a0, a1, some (.inl x), a3] st σ Q ↔ sl_Go xs N 107 32 [a0, a1, some (.inl x), a3] (.inl x :: st) σ Q := gk_iload rfl rfl
theorem g107_32 {L : sl_L} {x y : Int32} : sl_Go xs N 107 32 L (.inl y :: .inl x :: st) σ Q ↔ sl_Go xs N 107 33 L (.inl (x * y) :: st) σ Q := gk_bin (b := 10) rfl
theorem g107_33 {x : Int32} {a0 a1 a2 : Option sl_V} : sl_Go xs N 107 33 [a0, a1, a2, some (.inl x)] st σ Q ↔ sl_Go xs N 107 34 [a0, a1, a2, some (.inl x)] (.inl x :: st) σ Q := gk_iload rfl rfl
theorem g107_34 {L : sl_L} {x y : Int32} : sl_Go xs N 107 34 L (.inl y :: .inl x :: st) σ Q ↔ sl_Go xs N 107 35 L (.inl (x + y) :: st) σ Q := gk_bin (b := 8) rfl
theorem g107_35 {L : sl_L} {j : Int32} {r : sl_R} : sl_Go xs N 107 35 L (.inl j :: .inr (.inr r) :: st) σ Q ↔ (0 ≤ j.toInt ∧ j.toInt < sl_ilen N r) ∧ sl_Go xs N 107 36 L (.inl (sl_rd xs σ r j.toNatClampNeg) :: st) σ Q := gk_iald rfl
theorem g107_36 {x : sl_R} {a1 a2 a3 : Option sl_V} : sl_Go xs N 107 36 [some (.inr (.inr x)), a1, a2, a3] st σ Q ↔ sl_Go xs N 107 37 [some (.inr (.inr x)), a1, a2, a3] (.inr (.inr x) :: st) σ Q := gk_aload rfl rfl
theorem g107_37 {L : sl_L} {i t : Nat} : sl_Go xs N 107 37 L (.inr (.inr (40, i, t)) :: st) σ Q ↔ sl_Go xs N 107 40 L (.inr (.inr (44, 0, 0)) :: st) σ Q := gk_get (g := .inr (44, 0, 0)) rfl rfl rfl
theorem g107_40 {x : Int32} {a0 a1 a3 : Option sl_V} : sl_Go xs N 107 40 [a0, a1, some (.inl x), a3] st σ Q ↔ sl_Go xs N 107 41 [a0, a1, some (.inl x), a3] (.inl x :: st) σ Q := gk_iload rfl rfl
theorem g107_41 {L : sl_L} {j : Int32} {r : sl_R} : sl_Go xs N 107 41 L (.inl j :: .inr (.inr r) :: st) σ Q ↔ (0 ≤ j.toInt ∧ j.toInt < sl_ilen N r) ∧ sl_Go xs N 107 42 L (.inl (sl_rd xs σ r j.toNatClampNeg) :: st) σ Q := gk_iald rfl
theorem g107_42 {L : sl_L} : sl_Go xs N 107 42 L st σ Q ↔ sl_Go xs N 107 43 L (.inl 2 :: st) σ Q := gk_const rfl
theorem g107_43 {x : Int32} {a0 a1 a2 : Option sl_V} : sl_Go xs N 107 43 [a0, a1, a2, some (.inl x)] st σ Q ↔ sl_Go xs N 107 44 [a0, a1, a2, some (.inl x)] (.inl x :: st) σ Q := gk_iload rfl rfl
theorem g107_44 {L : sl_L} {x y : Int32} : sl_Go xs N 107 44 L (.inl y :: .inl x :: st) σ Q ↔ sl_Go xs N 107 45 L (.inl (x * y) :: st) σ Q := gk_bin (b := 10) rfl
theorem g107_45 {L : sl_L} {x y : Int32} : sl_Go xs N 107 45 L (.inl y :: .inl x :: st) σ Q ↔ sl_Go xs N 107 46 L (.inl (x + y) :: st) σ Q := gk_bin (b := 8) rfl
theorem g107_46 {x : sl_R} {a1 a2 a3 : Option sl_V} : sl_Go xs N 107 46 [some (.inr (.inr x)), a1, a2, a3] st σ Q ↔ sl_Go xs N 107 47 [some (.inr (.inr x)), a1, a2, a3] (.inr (.inr x) :: st) σ Q := gk_aload rfl rfl
theorem g107_47 {L : sl_L} {i t : Nat} : sl_Go xs N 107 47 L (.inr (.inr (40, i, t)) :: st) σ Q ↔ sl_Go xs N 107 50 L (.inr (.inr (42, 0, 0)) :: st) σ Q := gk_get (g := .inr (42, 0, 0)) rfl rfl rfl
theorem g107_50 {x : Int32} {a0 a1 a3 : Option sl_V} : sl_Go xs N 107 50 [a0, a1, some (.inl x), a3] st σ Q ↔ sl_Go xs N 107 51 [a0, a1, some (.inl x), a3] (.inl x :: st) σ Q := gk_iload rfl rfl
theorem g107_51 {L : sl_L} {j : Int32} {r : sl_R} : sl_Go xs N 107 51 L (.inl j :: .inr (.inr r) :: st) σ Q ↔ (0 ≤ j.toInt ∧ j.toInt < sl_ilen N r) ∧ sl_Go xs N 107 52 L (.inl (sl_rd xs σ r j.toNatClampNeg) :: st) σ Q := gk_iald rfl
theorem g107_52 {L : sl_L} {x y : Int32} : sl_Go xs N 107 52 L (.inl y :: .inl x :: st) σ Q ↔ sl_Go xs N 107 53 L (.inl (x - y) :: st) σ Q := gk_bin (b := 9) rfl
theorem g107_53 {L : sl_L} : sl_Go xs N 107 53 L st σ Q ↔ sl_Go xs N 107 54 L (.inl 1 :: st) σ Q := gk_const rfl
theorem g107_54 {L : sl_L} {x y : Int32} : sl_Go xs N 107 54 L (.inl y :: .inl x :: st) σ Q ↔ sl_Go xs N 107 55 L (.inl (x + y) :: st) σ Q := gk_bin (b := 8) rfl
theorem g107_55 {L : sl_L} {x y : Int32} : sl_Go xs N 107 55 L (.inl y :: .inl x :: st) σ Q ↔ sl_Go xs N 107 56 L (.inl (x * y) :: st) σ Q := gk_bin (b := 10) rfl
theorem g107_56 {L : sl_L} {x y : Int32} : sl_Go xs N 107 56 L (.inl y :: .inl x :: st) σ Q ↔ sl_Go xs N 107 57 L (.inl (x + y) :: st) σ Q := gk_bin (b := 8) rfl
theorem g107_57n {x : Int32} {a1 a2 a3 : Option sl_V} : sl_Go xs N 107 57 [none, a1, a2, a3] (.inl x :: st) σ Q ↔ sl_Go xs N 107 58 [none, some (.inl x), a2, a3] st σ Q := gk_istore rfl ⟨Nat.le_of_ble_eq_true rfl, rfl⟩ rfl
theorem g107_57i {x : Int32} {z : Int32} {a1 a2 a3 : Option sl_V} : sl_Go xs N 107 57 [some (.inl z), a1, a2, a3] (.inl x :: st) σ Q ↔ sl_Go xs N 107 58 [some (.inl z), some (.inl x), a2, a3] st σ Q := gk_istore rfl ⟨Nat.le_of_ble_eq_true rfl, rfl⟩ rfl
theorem g107_57r {x : Int32} {z : sl_R} {a1 a2 a3 : Option sl_V} : sl_Go xs N 107 57 [some (.inr (.inr z)), a1, a2, a3] (.inl x :: st) σ Q ↔ sl_Go xs N 107 58 [some (.inr (.inr z)), some (.inl x), a2, a3] st σ Q := gk_istore rfl ⟨Nat.le_of_ble_eq_true rfl, rfl⟩ rfl
theorem g107_58n {x : Int32} {a0 a1 : Option sl_V} : sl_Go xs N 107 58 [a0, a1, none, some (.inl x)] st σ Q ↔ sl_Go xs N 107 61 [a0, a1, none, some (.inl (x + 1))] st σ Q := gk_iinc rfl rfl rfl rfl
theorem g107_58i {x : Int32} {z : Int32} {a0 a1 : Option sl_V} : sl_Go xs N 107 58 [a0, a1, some (.inl z), some (.inl x)] st σ Q ↔ sl_Go xs N 107 61 [a0, a1, some (.inl z), some (.inl (x + 1))] st σ Q := gk_iinc rfl rfl rfl rfl
theorem g107_58r {x : Int32} {z : sl_R} {a0 a1 : Option sl_V} : sl_Go xs N 107 58 [a0, a1, some (.inr (.inr z)), some (.inl x)] st σ Q ↔ sl_Go xs N 107 61 [a0, a1, some (.inr (.inr z)), some (.inl (x + 1))] st σ Q := gk_iinc rfl rfl rfl rfl
theorem g107_61 {L : sl_L} : sl_Go xs N 107 61 L st σ Q ↔ sl_Go xs N 107 14 L st σ Q := gk_goto rfl
theorem g107_64n {x : Int32} {a0 a3 : Option sl_V} : sl_Go xs N 107 64 [a0, none, some (.inl x), a3] st σ Q ↔ sl_Go xs N 107 67 [a0, none, some (.inl (x + 1)), a3] st σ Q := gk_iinc rfl rfl rfl rfl
theorem g107_64i {x : Int32} {z : Int32} {a0 a3 : Option sl_V} : sl_Go xs N 107 64 [a0, some (.inl z), some (.inl x), a3] st σ Q ↔ sl_Go xs N 107 67 [a0, some (.inl z), some (.inl (x + 1)), a3] st σ Q := gk_iinc rfl rfl rfl rfl
theorem g107_64r {x : Int32} {z : sl_R} {a0 a3 : Option sl_V} : sl_Go xs N 107 64 [a0, some (.inr (.inr z)), some (.inl x), a3] st σ Q ↔ sl_Go xs N 107 67 [a0, some (.inr (.inr z)), some (.inl (x + 1)), a3] st σ Q := gk_iinc rfl rfl rfl rfl
theorem g107_67 {L : sl_L} : sl_Go xs N 107 67 L st σ Q ↔ sl_Go xs N 107 4 L st σ Q := gk_goto rfl
theorem g107_70 {x : Int32} {a0 a2 a3 : Option sl_V} : sl_Go xs N 107 70 [a0, some (.inl x), a2, a3] st σ Q ↔ sl_Go xs N 107 71 [a0, some (.inl x), a2, a3] (.inl x :: st) σ Q := gk_iload rfl rfl
theorem g107_71 {L : sl_L} {x : Int32} : sl_Go xs N 107 71 L [.inl x] σ Q ↔ Q (some (.inl x)) σ := gk_iret rfl
theorem g108_0 {x : sl_R} : sl_Go xs N 108 0 [some (.inr (.inr x))] st σ Q ↔ sl_Go xs N 108 1 [some (.inr (.inr x))] (.inr (.inr x) :: st) σ Q := gk_aload rfl rfl
theorem g108_1 {L : sl_L} {i t : Nat} : sl_Go xs N 108 1 L (.inr (.inr (40, i, t)) :: st) σ Q ↔ sl_cw st ≤ 8 ∧ sl_Go xs N 107 0 [some (.inr (.inr (40, i, t))), none, none, none] [] σ (fun r τ => sl_Go xs N 108 4 L (r.toList ++ st) τ Q) := gk_call rfl (Nat.le_add_left 1 st.length) rfl rfl rfl rfl (Nat.le_of_ble_eq_true rfl)
theorem g108_4 {L : sl_L} {x : Int32} : sl_Go xs N 108 4 L (.inl x :: st) σ Q ↔ sl_Go xs N 108 5 L (.inr (.inl x.toInt64) :: st) σ Q := gk_i2l rfl
theorem g108_5 {x : sl_R} : sl_Go xs N 108 5 [some (.inr (.inr x))] st σ Q ↔ sl_Go xs N 108 6 [some (.inr (.inr x))] (.inr (.inr x) :: st) σ Q := gk_aload rfl rfl
theorem g108_6 {L : sl_L} {i t : Nat} : sl_Go xs N 108 6 L (.inr (.inr (40, i, t)) :: st) σ Q ↔ sl_Go xs N 108 9 L (.inl (σ 6 0 3) :: st) σ Q := gk_get (g := .inl (6, 0, 3)) rfl rfl rfl
theorem g108_9 {L : sl_L} {x : Int32} : sl_Go xs N 108 9 L (.inl x :: st) σ Q ↔ sl_Go xs N 108 10 L (.inr (.inl x.toInt64) :: st) σ Q := gk_i2l rfl
theorem g108_10 {L : sl_L} {x y : Int64} : sl_Go xs N 108 10 L (.inr (.inl y) :: .inr (.inl x) :: st) σ Q ↔ sl_Go xs N 108 11 L (.inr (.inl (x * y)) :: st) σ Q := gk_lin (b := 0) rfl
theorem g108_11 {L : sl_L} : sl_Go xs N 108 11 L st σ Q ↔ sl_Go xs N 108 14 L (.inr (.inl 10) :: st) σ Q := gk_lconst (b := 1) rfl
theorem g108_14 {L : sl_L} {x y : Int64} : sl_Go xs N 108 14 L (.inr (.inl y) :: .inr (.inl x) :: st) σ Q ↔ ¬ y = 0 ∧ sl_Go xs N 108 15 L (.inr (.inl (x / y)) :: st) σ Q := gk_ldiv rfl
theorem g108_15 {L : sl_L} {x : Int64} : sl_Go xs N 108 15 L (.inr (.inl x) :: st) σ Q ↔ sl_Go xs N 108 16 L (.inl x.toInt32 :: st) σ Q := gk_l2i rfl
theorem g108_16 {L : sl_L} : sl_Go xs N 108 16 L st σ Q ↔ sl_Go xs N 108 18 L (.inl 20 :: st) σ Q := gk_const rfl
theorem g108_18 {x : sl_R} : sl_Go xs N 108 18 [some (.inr (.inr x))] st σ Q ↔ sl_Go xs N 108 19 [some (.inr (.inr x))] (.inr (.inr x) :: st) σ Q := gk_aload rfl rfl
theorem g108_19 {L : sl_L} {i t : Nat} : sl_Go xs N 108 19 L (.inr (.inr (40, i, t)) :: st) σ Q ↔ sl_Go xs N 108 22 L (.inl (σ 4 0 1) :: st) σ Q := gk_get (g := .inl (4, 0, 1)) rfl rfl rfl
theorem g108_22 {L : sl_L} {x y : Int32} : sl_Go xs N 108 22 L (.inl y :: .inl x :: st) σ Q ↔ sl_Go xs N 108 23 L (.inl (x * y) :: st) σ Q := gk_bin (b := 10) rfl
theorem g108_23 {L : sl_L} {x y : Int32} : sl_Go xs N 108 23 L (.inl y :: .inl x :: st) σ Q ↔ sl_Go xs N 108 24 L (.inl (x + y) :: st) σ Q := gk_bin (b := 8) rfl
theorem g108_24 {L : sl_L} {x : Int32} : sl_Go xs N 108 24 L [.inl x] σ Q ↔ Q (some (.inl x)) σ := gk_iret rfl
theorem g109_0 {x : sl_R} : sl_Go xs N 109 0 [some (.inr (.inr x))] st σ Q ↔ sl_Go xs N 109 1 [some (.inr (.inr x))] (.inr (.inr x) :: st) σ Q := gk_aload rfl rfl
theorem g109_1 {L : sl_L} {i t : Nat} : sl_Go xs N 109 1 L (.inr (.inr (40, i, t)) :: st) σ Q ↔ sl_Go xs N 109 4 L (.inl (σ 4 0 2) :: st) σ Q := gk_get (g := .inl (4, 0, 2)) rfl rfl rfl
theorem g109_4 {L : sl_L} {x : Int32} : sl_Go xs N 109 4 L (.inl x :: st) σ Q ↔ (0 ≤ x → sl_Go xs N 109 8 L st σ Q) ∧ (¬ 0 ≤ x → sl_Go xs N 109 7 L st σ Q) := gk_zge rfl
theorem g109_7 {L : sl_L} : sl_Go xs N 109 7 L [] σ Q ↔ Q none σ := gk_vret rfl
theorem g109_8 {x : sl_R} : sl_Go xs N 109 8 [some (.inr (.inr x))] st σ Q ↔ sl_Go xs N 109 9 [some (.inr (.inr x))] (.inr (.inr x) :: st) σ Q := gk_aload rfl rfl
theorem g109_9 {L : sl_L} {i t : Nat} : sl_Go xs N 109 9 L (.inr (.inr (40, i, t)) :: st) σ Q ↔ sl_Go xs N 109 12 L (.inl (σ 4 9 1) :: st) σ Q := gk_get (g := .inl (4, 9, 1)) rfl rfl rfl
theorem g109_12 {L : sl_L} {x : Int32} : sl_Go xs N 109 12 L (.inl x :: st) σ Q ↔ (¬ x = 0 → sl_Go xs N 109 97 L st σ Q) ∧ (x = 0 → sl_Go xs N 109 15 L st σ Q) := gk_zne rfl
theorem g109_15 {x : sl_R} : sl_Go xs N 109 15 [some (.inr (.inr x))] st σ Q ↔ sl_Go xs N 109 16 [some (.inr (.inr x))] (.inr (.inr x) :: st) σ Q := gk_aload rfl rfl
theorem g109_16i {L : sl_L} {x : Int32} : sl_Go xs N 109 16 L (.inl x :: st) σ Q ↔ sl_Go xs N 109 17 L (.inl x :: .inl x :: st) σ Q := gk_dupi rfl
theorem g109_16r {L : sl_L} {x : sl_R} : sl_Go xs N 109 16 L (.inr (.inr x) :: st) σ Q ↔ sl_Go xs N 109 17 L (.inr (.inr x) :: .inr (.inr x) :: st) σ Q := gk_dupr rfl
theorem g109_17 {L : sl_L} {i t : Nat} : sl_Go xs N 109 17 L (.inr (.inr (40, i, t)) :: st) σ Q ↔ sl_Go xs N 109 20 L (.inl (σ 4 9 0) :: st) σ Q := gk_get (g := .inl (4, 9, 0)) rfl rfl rfl
theorem g109_20 {L : sl_L} : sl_Go xs N 109 20 L st σ Q ↔ sl_Go xs N 109 21 L (.inl 1 :: st) σ Q := gk_const rfl
theorem g109_21 {L : sl_L} {x y : Int32} : sl_Go xs N 109 21 L (.inl y :: .inl x :: st) σ Q ↔ sl_Go xs N 109 22 L (.inl (x + y) :: st) σ Q := gk_bin (b := 8) rfl
theorem g109_22 {L : sl_L} {x : Int32} {i t : Nat} : sl_Go xs N 109 22 L (.inl x :: .inr (.inr (40, i, t)) :: st) σ Q ↔ sl_Go xs N 109 25 L st (sl_up σ 4 9 0 x) Q := gk_put0 (q := (4, 9, 0)) rfl rfl rfl
theorem g109_25 {x : sl_R} : sl_Go xs N 109 25 [some (.inr (.inr x))] st σ Q ↔ sl_Go xs N 109 26 [some (.inr (.inr x))] (.inr (.inr x) :: st) σ Q := gk_aload rfl rfl
theorem g109_26 {L : sl_L} {i t : Nat} : sl_Go xs N 109 26 L (.inr (.inr (40, i, t)) :: st) σ Q ↔ sl_Go xs N 109 29 L (.inl (σ 4 9 0) :: st) σ Q := gk_get (g := .inl (4, 9, 0)) rfl rfl rfl
theorem g109_29 {x : sl_R} : sl_Go xs N 109 29 [some (.inr (.inr x))] st σ Q ↔ sl_Go xs N 109 30 [some (.inr (.inr x))] (.inr (.inr x) :: st) σ Q := gk_aload rfl rfl
theorem g109_30 {L : sl_L} {i t : Nat} : sl_Go xs N 109 30 L (.inr (.inr (40, i, t)) :: st) σ Q ↔ sl_Go xs N 109 33 L (.inr (.inr (58, 0, 0)) :: st) σ Q := gk_get (g := .inr (58, 0, 0)) rfl rfl rfl
theorem g109_33 {x : sl_R} : sl_Go xs N 109 33 [some (.inr (.inr x))] st σ Q ↔ sl_Go xs N 109 34 [some (.inr (.inr x))] (.inr (.inr x) :: st) σ Q := gk_aload rfl rfl
theorem g109_34 {L : sl_L} {i t : Nat} : sl_Go xs N 109 34 L (.inr (.inr (40, i, t)) :: st) σ Q ↔ sl_Go xs N 109 37 L (.inl (σ 4 0 2) :: st) σ Q := gk_get (g := .inl (4, 0, 2)) rfl rfl rfl
theorem g109_37 {L : sl_L} {j : Int32} {r : sl_R} : sl_Go xs N 109 37 L (.inl j :: .inr (.inr r) :: st) σ Q ↔ (0 ≤ j.toInt ∧ j.toInt < sl_ilen N r) ∧ sl_Go xs N 109 38 L (.inl (sl_rd xs σ r j.toNatClampNeg) :: st) σ Q := gk_iald rfl
theorem g109_38 {L : sl_L} {x y : Int32} : sl_Go xs N 109 38 L (.inl y :: .inl x :: st) σ Q ↔ (¬ x = y → sl_Go xs N 109 52 L st σ Q) ∧ (x = y → sl_Go xs N 109 41 L st σ Q) := gk_ine rfl
theorem g109_41 {x : sl_R} : sl_Go xs N 109 41 [some (.inr (.inr x))] st σ Q ↔ sl_Go xs N 109 42 [some (.inr (.inr x))] (.inr (.inr x) :: st) σ Q := gk_aload rfl rfl
theorem g109_42 {L : sl_L} : sl_Go xs N 109 42 L st σ Q ↔ sl_Go xs N 109 43 L (.inl (-1) :: st) σ Q := gk_const rfl
theorem g109_43 {L : sl_L} {x : Int32} {i t : Nat} : sl_Go xs N 109 43 L (.inl x :: .inr (.inr (40, i, t)) :: st) σ Q ↔ sl_Go xs N 109 46 L st (sl_up σ 4 0 2 x) Q := gk_put0 (q := (4, 0, 2)) rfl rfl rfl
theorem g109_46 {x : sl_R} : sl_Go xs N 109 46 [some (.inr (.inr x))] st σ Q ↔ sl_Go xs N 109 47 [some (.inr (.inr x))] (.inr (.inr x) :: st) σ Q := gk_aload rfl rfl
theorem g109_47 {L : sl_L} : sl_Go xs N 109 47 L st σ Q ↔ sl_Go xs N 109 48 L (.inl 0 :: st) σ Q := gk_const rfl
theorem g109_48 {L : sl_L} {x : Int32} {i t : Nat} : sl_Go xs N 109 48 L (.inl x :: .inr (.inr (40, i, t)) :: st) σ Q ↔ sl_Go xs N 109 51 L st (sl_up σ 4 0 1 x) Q := gk_put0 (q := (4, 0, 1)) rfl rfl rfl
theorem g109_51 {L : sl_L} : sl_Go xs N 109 51 L [] σ Q ↔ Q none σ := gk_vret rfl
theorem g109_52 {x : sl_R} : sl_Go xs N 109 52 [some (.inr (.inr x))] st σ Q ↔ sl_Go xs N 109 53 [some (.inr (.inr x))] (.inr (.inr x) :: st) σ Q := gk_aload rfl rfl
theorem g109_53 {x : sl_R} : sl_Go xs N 109 53 [some (.inr (.inr x))] st σ Q ↔ sl_Go xs N 109 54 [some (.inr (.inr x))] (.inr (.inr x) :: st) σ Q := gk_aload rfl rfl
theorem g109_54 {L : sl_L} {i t : Nat} : sl_Go xs N 109 54 L (.inr (.inr (40, i, t)) :: st) σ Q ↔ sl_Go xs N 109 57 L (.inr (.inr (59, 0, 0)) :: st) σ Q := gk_get (g := .inr (59, 0, 0)) rfl rfl rfl
theorem g109_57 {L : sl_L} : sl_Go xs N 109 57 L st σ Q ↔ sl_Go xs N 109 59 L (.inl 12 :: st) σ Q := gk_const rfl
theorem g109_59 {x : sl_R} : sl_Go xs N 109 59 [some (.inr (.inr x))] st σ Q ↔ sl_Go xs N 109 60 [some (.inr (.inr x))] (.inr (.inr x) :: st) σ Q := gk_aload rfl rfl
theorem g109_60 {L : sl_L} {i t : Nat} : sl_Go xs N 109 60 L (.inr (.inr (40, i, t)) :: st) σ Q ↔ sl_Go xs N 109 63 L (.inl (σ 4 0 2) :: st) σ Q := gk_get (g := .inl (4, 0, 2)) rfl rfl rfl
theorem g109_63 {L : sl_L} {x y : Int32} : sl_Go xs N 109 63 L (.inl y :: .inl x :: st) σ Q ↔ sl_Go xs N 109 64 L (.inl (x * y) :: st) σ Q := gk_bin (b := 10) rfl
theorem g109_64 {x : sl_R} : sl_Go xs N 109 64 [some (.inr (.inr x))] st σ Q ↔ sl_Go xs N 109 65 [some (.inr (.inr x))] (.inr (.inr x) :: st) σ Q := gk_aload rfl rfl
theorem g109_65 {L : sl_L} {i t : Nat} : sl_Go xs N 109 65 L (.inr (.inr (40, i, t)) :: st) σ Q ↔ sl_Go xs N 109 68 L (.inl (σ 4 9 0) :: st) σ Q := gk_get (g := .inl (4, 9, 0)) rfl rfl rfl
theorem g109_68 {L : sl_L} {x y : Int32} : sl_Go xs N 109 68 L (.inl y :: .inl x :: st) σ Q ↔ sl_Go xs N 109 69 L (.inl (x + y) :: st) σ Q := gk_bin (b := 8) rfl
theorem g109_69 {L : sl_L} {j : Int32} {r : sl_R} : sl_Go xs N 109 69 L (.inl j :: .inr (.inr r) :: st) σ Q ↔ (0 ≤ j.toInt ∧ j.toInt < sl_ilen N r) ∧ sl_Go xs N 109 70 L (.inl (sl_rd xs σ r j.toNatClampNeg) :: st) σ Q := gk_iald rfl
theorem g109_70 {L : sl_L} {x : Int32} {i t : Nat} : sl_Go xs N 109 70 L (.inl x :: .inr (.inr (40, i, t)) :: st) σ Q ↔ sl_Go xs N 109 73 L st (sl_up σ 4 9 1 x) Q := gk_put0 (q := (4, 9, 1)) rfl rfl rfl
theorem g109_73 {x : sl_R} : sl_Go xs N 109 73 [some (.inr (.inr x))] st σ Q ↔ sl_Go xs N 109 74 [some (.inr (.inr x))] (.inr (.inr x) :: st) σ Q := gk_aload rfl rfl
theorem g109_74 {x : sl_R} : sl_Go xs N 109 74 [some (.inr (.inr x))] st σ Q ↔ sl_Go xs N 109 75 [some (.inr (.inr x))] (.inr (.inr x) :: st) σ Q := gk_aload rfl rfl
theorem g109_75 {L : sl_L} {i t : Nat} : sl_Go xs N 109 75 L (.inr (.inr (40, i, t)) :: st) σ Q ↔ sl_Go xs N 109 78 L (.inr (.inr (60, 0, 0)) :: st) σ Q := gk_get (g := .inr (60, 0, 0)) rfl rfl rfl
theorem g109_78 {L : sl_L} : sl_Go xs N 109 78 L st σ Q ↔ sl_Go xs N 109 80 L (.inl 12 :: st) σ Q := gk_const rfl
theorem g109_80 {x : sl_R} : sl_Go xs N 109 80 [some (.inr (.inr x))] st σ Q ↔ sl_Go xs N 109 81 [some (.inr (.inr x))] (.inr (.inr x) :: st) σ Q := gk_aload rfl rfl
theorem g109_81 {L : sl_L} {i t : Nat} : sl_Go xs N 109 81 L (.inr (.inr (40, i, t)) :: st) σ Q ↔ sl_Go xs N 109 84 L (.inl (σ 4 0 2) :: st) σ Q := gk_get (g := .inl (4, 0, 2)) rfl rfl rfl
theorem g109_84 {L : sl_L} {x y : Int32} : sl_Go xs N 109 84 L (.inl y :: .inl x :: st) σ Q ↔ sl_Go xs N 109 85 L (.inl (x * y) :: st) σ Q := gk_bin (b := 10) rfl
theorem g109_85 {x : sl_R} : sl_Go xs N 109 85 [some (.inr (.inr x))] st σ Q ↔ sl_Go xs N 109 86 [some (.inr (.inr x))] (.inr (.inr x) :: st) σ Q := gk_aload rfl rfl
theorem g109_86 {L : sl_L} {i t : Nat} : sl_Go xs N 109 86 L (.inr (.inr (40, i, t)) :: st) σ Q ↔ sl_Go xs N 109 89 L (.inl (σ 4 9 0) :: st) σ Q := gk_get (g := .inl (4, 9, 0)) rfl rfl rfl
theorem g109_89 {L : sl_L} {x y : Int32} : sl_Go xs N 109 89 L (.inl y :: .inl x :: st) σ Q ↔ sl_Go xs N 109 90 L (.inl (x + y) :: st) σ Q := gk_bin (b := 8) rfl
theorem g109_90 {L : sl_L} {j : Int32} {r : sl_R} : sl_Go xs N 109 90 L (.inl j :: .inr (.inr r) :: st) σ Q ↔ (0 ≤ j.toInt ∧ j.toInt < sl_ilen N r) ∧ sl_Go xs N 109 91 L (.inl (sl_rd xs σ r j.toNatClampNeg) :: st) σ Q := gk_iald rfl
theorem g109_91 {L : sl_L} {x : Int32} {i t : Nat} : sl_Go xs N 109 91 L (.inl x :: .inr (.inr (40, i, t)) :: st) σ Q ↔ sl_Go xs N 109 94 L st (sl_up σ 4 0 1 x) Q := gk_put0 (q := (4, 0, 1)) rfl rfl rfl
theorem g109_94 {L : sl_L} : sl_Go xs N 109 94 L st σ Q ↔ sl_Go xs N 109 8 L st σ Q := gk_goto rfl
theorem g109_97 {x : sl_R} : sl_Go xs N 109 97 [some (.inr (.inr x))] st σ Q ↔ sl_Go xs N 109 98 [some (.inr (.inr x))] (.inr (.inr x) :: st) σ Q := gk_aload rfl rfl
theorem g109_98i {L : sl_L} {x : Int32} : sl_Go xs N 109 98 L (.inl x :: st) σ Q ↔ sl_Go xs N 109 99 L (.inl x :: .inl x :: st) σ Q := gk_dupi rfl
theorem g109_98r {L : sl_L} {x : sl_R} : sl_Go xs N 109 98 L (.inr (.inr x) :: st) σ Q ↔ sl_Go xs N 109 99 L (.inr (.inr x) :: .inr (.inr x) :: st) σ Q := gk_dupr rfl
theorem g109_99 {L : sl_L} {i t : Nat} : sl_Go xs N 109 99 L (.inr (.inr (40, i, t)) :: st) σ Q ↔ sl_Go xs N 109 102 L (.inl (σ 4 9 1) :: st) σ Q := gk_get (g := .inl (4, 9, 1)) rfl rfl rfl
theorem g109_102 {L : sl_L} : sl_Go xs N 109 102 L st σ Q ↔ sl_Go xs N 109 103 L (.inl 1 :: st) σ Q := gk_const rfl
theorem g109_103 {L : sl_L} {x y : Int32} : sl_Go xs N 109 103 L (.inl y :: .inl x :: st) σ Q ↔ sl_Go xs N 109 104 L (.inl (x - y) :: st) σ Q := gk_bin (b := 9) rfl
theorem g109_104 {L : sl_L} {x : Int32} {i t : Nat} : sl_Go xs N 109 104 L (.inl x :: .inr (.inr (40, i, t)) :: st) σ Q ↔ sl_Go xs N 109 107 L st (sl_up σ 4 9 1 x) Q := gk_put0 (q := (4, 9, 1)) rfl rfl rfl
theorem g109_107 {L : sl_L} : sl_Go xs N 109 107 L [] σ Q ↔ Q none σ := gk_vret rfl
theorem g110_0 {L : sl_L} : sl_Go xs N 110 0 L st σ Q ↔ sl_Go xs N 110 2 L (.inl 12 :: st) σ Q := gk_const rfl
theorem g110_2 {x : Int32} {a0 a2 a3 a4 a5 a6 a7 a8 : Option sl_V} : sl_Go xs N 110 2 [a0, some (.inl x), a2, a3, a4, a5, a6, a7, a8] st σ Q ↔ sl_Go xs N 110 3 [a0, some (.inl x), a2, a3, a4, a5, a6, a7, a8] (.inl x :: st) σ Q := gk_iload rfl rfl
theorem g110_3 {L : sl_L} {x y : Int32} : sl_Go xs N 110 3 L (.inl y :: .inl x :: st) σ Q ↔ sl_Go xs N 110 4 L (.inl (x * y) :: st) σ Q := gk_bin (b := 10) rfl
theorem g110_4 {x : Int32} {a0 a1 a3 a4 a5 a6 a7 a8 : Option sl_V} : sl_Go xs N 110 4 [a0, a1, some (.inl x), a3, a4, a5, a6, a7, a8] st σ Q ↔ sl_Go xs N 110 5 [a0, a1, some (.inl x), a3, a4, a5, a6, a7, a8] (.inl x :: st) σ Q := gk_iload rfl rfl
theorem g110_5 {L : sl_L} {x y : Int32} : sl_Go xs N 110 5 L (.inl y :: .inl x :: st) σ Q ↔ sl_Go xs N 110 6 L (.inl (x + y) :: st) σ Q := gk_bin (b := 8) rfl
theorem g110_6n {x : Int32} {a0 a1 a3 a4 a5 a6 a7 a8 : Option sl_V} : sl_Go xs N 110 6 [a0, a1, none, a3, a4, a5, a6, a7, a8] (.inl x :: st) σ Q ↔ sl_Go xs N 110 7 [a0, a1, none, some (.inl x), a4, a5, a6, a7, a8] st σ Q := gk_istore rfl ⟨Nat.le_of_ble_eq_true rfl, rfl⟩ rfl
theorem g110_6i {x : Int32} {z : Int32} {a0 a1 a3 a4 a5 a6 a7 a8 : Option sl_V} : sl_Go xs N 110 6 [a0, a1, some (.inl z), a3, a4, a5, a6, a7, a8] (.inl x :: st) σ Q ↔ sl_Go xs N 110 7 [a0, a1, some (.inl z), some (.inl x), a4, a5, a6, a7, a8] st σ Q := gk_istore rfl ⟨Nat.le_of_ble_eq_true rfl, rfl⟩ rfl
theorem g110_6r {x : Int32} {z : sl_R} {a0 a1 a3 a4 a5 a6 a7 a8 : Option sl_V} : sl_Go xs N 110 6 [a0, a1, some (.inr (.inr z)), a3, a4, a5, a6, a7, a8] (.inl x :: st) σ Q ↔ sl_Go xs N 110 7 [a0, a1, some (.inr (.inr z)), some (.inl x), a4, a5, a6, a7, a8] st σ Q := gk_istore rfl ⟨Nat.le_of_ble_eq_true rfl, rfl⟩ rfl
theorem g110_7 {x : sl_R} {a1 a2 a3 a4 a5 a6 a7 a8 : Option sl_V} : sl_Go xs N 110 7 [some (.inr (.inr x)), a1, a2, a3, a4, a5, a6, a7, a8] st σ Q ↔ sl_Go xs N 110 8 [some (.inr (.inr x)), a1, a2, a3, a4, a5, a6, a7, a8] (.inr (.inr x) :: st) σ Q := gk_aload rfl rfl
theorem g110_8 {L : sl_L} {i t : Nat} : sl_Go xs N 110 8 L (.inr (.inr (40, i, t)) :: st) σ Q ↔ sl_Go xs N 110 11 L (.inr (.inr (48, 0, 0)) :: st) σ Q := gk_get (g := .inr (48, 0, 0)) rfl rfl rfl
theorem g110_11 {x : Int32} {a0 a1 a2 a4 a5 a6 a7 a8 : Option sl_V} : sl_Go xs N 110 11 [a0, a1, a2, some (.inl x), a4, a5, a6, a7, a8] st σ Q ↔ sl_Go xs N 110 12 [a0, a1, a2, some (.inl x), a4, a5, a6, a7, a8] (.inl x :: st) σ Q := gk_iload rfl rfl
theorem g110_12 {L : sl_L} {j : Int32} {r : sl_R} : sl_Go xs N 110 12 L (.inl j :: .inr (.inr r) :: st) σ Q ↔ (0 ≤ j.toInt ∧ j.toInt < sl_ilen N r) ∧ sl_Go xs N 110 13 L (.inl (sl_rd xs σ r j.toNatClampNeg) :: st) σ Q := gk_iald rfl
theorem g110_13 {L : sl_L} : sl_Go xs N 110 13 L st σ Q ↔ sl_Go xs N 110 15 L (.inl 20 :: st) σ Q := gk_const rfl
theorem g110_15 {x : sl_R} {a1 a2 a3 a4 a5 a6 a7 a8 : Option sl_V} : sl_Go xs N 110 15 [some (.inr (.inr x)), a1, a2, a3, a4, a5, a6, a7, a8] st σ Q ↔ sl_Go xs N 110 16 [some (.inr (.inr x)), a1, a2, a3, a4, a5, a6, a7, a8] (.inr (.inr x) :: st) σ Q := gk_aload rfl rfl
theorem g110_16 {L : sl_L} {i t : Nat} : sl_Go xs N 110 16 L (.inr (.inr (40, i, t)) :: st) σ Q ↔ sl_Go xs N 110 19 L (.inr (.inr (47, 0, 0)) :: st) σ Q := gk_get (g := .inr (47, 0, 0)) rfl rfl rfl
theorem g110_19 {x : Int32} {a0 a1 a2 a4 a5 a6 a7 a8 : Option sl_V} : sl_Go xs N 110 19 [a0, a1, a2, some (.inl x), a4, a5, a6, a7, a8] st σ Q ↔ sl_Go xs N 110 20 [a0, a1, a2, some (.inl x), a4, a5, a6, a7, a8] (.inl x :: st) σ Q := gk_iload rfl rfl
theorem g110_20 {L : sl_L} {j : Int32} {r : sl_R} : sl_Go xs N 110 20 L (.inl j :: .inr (.inr r) :: st) σ Q ↔ (0 ≤ j.toInt ∧ j.toInt < sl_ilen N r) ∧ sl_Go xs N 110 21 L (.inl (sl_rd xs σ r j.toNatClampNeg) :: st) σ Q := gk_iald rfl
theorem g110_21 {x : sl_R} {a1 a2 a3 a4 a5 a6 a7 a8 : Option sl_V} : sl_Go xs N 110 21 [some (.inr (.inr x)), a1, a2, a3, a4, a5, a6, a7, a8] st σ Q ↔ sl_Go xs N 110 22 [some (.inr (.inr x)), a1, a2, a3, a4, a5, a6, a7, a8] (.inr (.inr x) :: st) σ Q := gk_aload rfl rfl
theorem g110_22 {L : sl_L} {i t : Nat} : sl_Go xs N 110 22 L (.inr (.inr (40, i, t)) :: st) σ Q ↔ sl_Go xs N 110 25 L (.inr (.inr (47, 0, 0)) :: st) σ Q := gk_get (g := .inr (47, 0, 0)) rfl rfl rfl
theorem g110_25 {x : Int32} {a0 a1 a2 a4 a5 a6 a7 a8 : Option sl_V} : sl_Go xs N 110 25 [a0, a1, a2, some (.inl x), a4, a5, a6, a7, a8] st σ Q ↔ sl_Go xs N 110 26 [a0, a1, a2, some (.inl x), a4, a5, a6, a7, a8] (.inl x :: st) σ Q := gk_iload rfl rfl
theorem g110_26 {L : sl_L} : sl_Go xs N 110 26 L st σ Q ↔ sl_Go xs N 110 27 L (.inl 1 :: st) σ Q := gk_const rfl
theorem g110_27 {L : sl_L} {x y : Int32} : sl_Go xs N 110 27 L (.inl y :: .inl x :: st) σ Q ↔ sl_Go xs N 110 28 L (.inl (x + y) :: st) σ Q := gk_bin (b := 8) rfl
theorem g110_28 {L : sl_L} {j : Int32} {r : sl_R} : sl_Go xs N 110 28 L (.inl j :: .inr (.inr r) :: st) σ Q ↔ (0 ≤ j.toInt ∧ j.toInt < sl_ilen N r) ∧ sl_Go xs N 110 29 L (.inl (sl_rd xs σ r j.toNatClampNeg) :: st) σ Q := gk_iald rfl
theorem g110_29 {L : sl_L} {x y : Int32} : sl_Go xs N 110 29 L (.inl y :: .inl x :: st) σ Q ↔ sl_Go xs N 110 30 L (.inl (x - y) :: st) σ Q := gk_bin (b := 9) rfl
theorem g110_30 {L : sl_L} {x y : Int32} : sl_Go xs N 110 30 L (.inl y :: .inl x :: st) σ Q ↔ sl_Go xs N 110 31 L (.inl (x * y) :: st) σ Q := gk_bin (b := 10) rfl
theorem g110_31 {L : sl_L} {x y : Int32} : sl_Go xs N 110 31 L (.inl y :: .inl x :: st) σ Q ↔ sl_Go xs N 110 32 L (.inl (x + y) :: st) σ Q := gk_bin (b := 8) rfl
theorem g110_32 {L : sl_L} : sl_Go xs N 110 32 L st σ Q ↔ sl_Go xs N 110 34 L (.inl 10 :: st) σ Q := gk_const rfl
theorem g110_34 {x : sl_R} {a1 a2 a3 a4 a5 a6 a7 a8 : Option sl_V} : sl_Go xs N 110 34 [some (.inr (.inr x)), a1, a2, a3, a4, a5, a6, a7, a8] st σ Q ↔ sl_Go xs N 110 35 [some (.inr (.inr x)), a1, a2, a3, a4, a5, a6, a7, a8] (.inr (.inr x) :: st) σ Q := gk_aload rfl rfl
theorem g110_35 {x : sl_R} {a1 a2 a3 a4 a5 a6 a7 a8 : Option sl_V} : sl_Go xs N 110 35 [some (.inr (.inr x)), a1, a2, a3, a4, a5, a6, a7, a8] st σ Q ↔ sl_Go xs N 110 36 [some (.inr (.inr x)), a1, a2, a3, a4, a5, a6, a7, a8] (.inr (.inr x) :: st) σ Q := gk_aload rfl rfl
theorem g110_36 {L : sl_L} {i t : Nat} : sl_Go xs N 110 36 L (.inr (.inr (40, i, t)) :: st) σ Q ↔ sl_Go xs N 110 39 L (.inr (.inr (41, 0, 0)) :: st) σ Q := gk_get (g := .inr (41, 0, 0)) rfl rfl rfl
theorem g110_39 {x : Int32} {a0 a2 a3 a4 a5 a6 a7 a8 : Option sl_V} : sl_Go xs N 110 39 [a0, some (.inl x), a2, a3, a4, a5, a6, a7, a8] st σ Q ↔ sl_Go xs N 110 40 [a0, some (.inl x), a2, a3, a4, a5, a6, a7, a8] (.inl x :: st) σ Q := gk_iload rfl rfl
theorem g110_40 {L : sl_L} {j : Int32} {r : sl_R} : sl_Go xs N 110 40 L (.inl j :: .inr (.inr r) :: st) σ Q ↔ (0 ≤ j.toInt ∧ j.toInt < sl_ilen N r) ∧ sl_Go xs N 110 41 L (.inl (sl_rd xs σ r j.toNatClampNeg) :: st) σ Q := gk_iald rfl
theorem g110_41 {x : sl_R} {a1 a2 a3 a4 a5 a6 a7 a8 : Option sl_V} : sl_Go xs N 110 41 [some (.inr (.inr x)), a1, a2, a3, a4, a5, a6, a7, a8] st σ Q ↔ sl_Go xs N 110 42 [some (.inr (.inr x)), a1, a2, a3, a4, a5, a6, a7, a8] (.inr (.inr x) :: st) σ Q := gk_aload rfl rfl
theorem g110_42 {L : sl_L} {i t : Nat} : sl_Go xs N 110 42 L (.inr (.inr (40, i, t)) :: st) σ Q ↔ sl_Go xs N 110 45 L (.inl (σ 4 0 1) :: st) σ Q := gk_get (g := .inl (4, 0, 1)) rfl rfl rfl
theorem g110_45 {L : sl_L} {x0 : Int32} {x1 : Int32} {i t : Nat} : sl_Go xs N 110 45 L (.inl x1 :: .inl x0 :: .inr (.inr (40, i, t)) :: st) σ Q ↔ sl_cw st ≤ 8 ∧ sl_Go xs N 95 0 [some (.inr (.inr (40, i, t))), some (.inl x0), some (.inl x1)] [] σ (fun r τ => sl_Go xs N 110 48 L (r.toList ++ st) τ Q) := gk_call rfl (Nat.le_add_left 3 st.length) rfl rfl rfl rfl (Nat.le_of_ble_eq_true rfl)
theorem g110_48 {L : sl_L} {x y : Int32} : sl_Go xs N 110 48 L (.inl y :: .inl x :: st) σ Q ↔ sl_Go xs N 110 49 L (.inl (x * y) :: st) σ Q := gk_bin (b := 10) rfl
theorem g110_49 {L : sl_L} {x y : Int32} : sl_Go xs N 110 49 L (.inl y :: .inl x :: st) σ Q ↔ sl_Go xs N 110 50 L (.inl (x + y) :: st) σ Q := gk_bin (b := 8) rfl
theorem g110_50n {x : Int32} {a0 a1 a2 a4 a5 a6 a7 a8 : Option sl_V} : sl_Go xs N 110 50 [a0, a1, a2, none, a4, a5, a6, a7, a8] (.inl x :: st) σ Q ↔ sl_Go xs N 110 52 [a0, a1, a2, none, some (.inl x), a5, a6, a7, a8] st σ Q := gk_istore rfl ⟨Nat.le_of_ble_eq_true rfl, rfl⟩ rfl
theorem g110_50i {x : Int32} {z : Int32} {a0 a1 a2 a4 a5 a6 a7 a8 : Option sl_V} : sl_Go xs N 110 50 [a0, a1, a2, some (.inl z), a4, a5, a6, a7, a8] (.inl x :: st) σ Q ↔ sl_Go xs N 110 52 [a0, a1, a2, some (.inl z), some (.inl x), a5, a6, a7, a8] st σ Q := gk_istore rfl ⟨Nat.le_of_ble_eq_true rfl, rfl⟩ rfl
theorem g110_50r {x : Int32} {z : sl_R} {a0 a1 a2 a4 a5 a6 a7 a8 : Option sl_V} : sl_Go xs N 110 50 [a0, a1, a2, some (.inr (.inr z)), a4, a5, a6, a7, a8] (.inl x :: st) σ Q ↔ sl_Go xs N 110 52 [a0, a1, a2, some (.inr (.inr z)), some (.inl x), a5, a6, a7, a8] st σ Q := gk_istore rfl ⟨Nat.le_of_ble_eq_true rfl, rfl⟩ rfl
theorem g110_52 {x : Int32} {a0 a1 a2 a3 a5 a6 a7 a8 : Option sl_V} : sl_Go xs N 110 52 [a0, a1, a2, a3, some (.inl x), a5, a6, a7, a8] st σ Q ↔ sl_Go xs N 110 54 [a0, a1, a2, a3, some (.inl x), a5, a6, a7, a8] (.inl x :: st) σ Q := gk_iload rfl rfl
theorem g110_54 {x : Int32} {a0 a1 a2 a3 a5 a6 a7 a8 : Option sl_V} : sl_Go xs N 110 54 [a0, a1, a2, a3, some (.inl x), a5, a6, a7, a8] st σ Q ↔ sl_Go xs N 110 56 [a0, a1, a2, a3, some (.inl x), a5, a6, a7, a8] (.inl x :: st) σ Q := gk_iload rfl rfl
theorem g110_56 {x : sl_R} {a1 a2 a3 a4 a5 a6 a7 a8 : Option sl_V} : sl_Go xs N 110 56 [some (.inr (.inr x)), a1, a2, a3, a4, a5, a6, a7, a8] st σ Q ↔ sl_Go xs N 110 57 [some (.inr (.inr x)), a1, a2, a3, a4, a5, a6, a7, a8] (.inr (.inr x) :: st) σ Q := gk_aload rfl rfl
theorem g110_57 {L : sl_L} {i t : Nat} : sl_Go xs N 110 57 L (.inr (.inr (40, i, t)) :: st) σ Q ↔ sl_Go xs N 110 60 L (.inr (.inr (49, 0, 0)) :: st) σ Q := gk_get (g := .inr (49, 0, 0)) rfl rfl rfl
theorem g110_60 {x : sl_R} {a1 a2 a3 a4 a5 a6 a7 a8 : Option sl_V} : sl_Go xs N 110 60 [some (.inr (.inr x)), a1, a2, a3, a4, a5, a6, a7, a8] st σ Q ↔ sl_Go xs N 110 61 [some (.inr (.inr x)), a1, a2, a3, a4, a5, a6, a7, a8] (.inr (.inr x) :: st) σ Q := gk_aload rfl rfl
theorem g110_61 {L : sl_L} {i t : Nat} : sl_Go xs N 110 61 L (.inr (.inr (40, i, t)) :: st) σ Q ↔ sl_Go xs N 110 64 L (.inr (.inr (41, 0, 0)) :: st) σ Q := gk_get (g := .inr (41, 0, 0)) rfl rfl rfl
theorem g110_64 {x : Int32} {a0 a2 a3 a4 a5 a6 a7 a8 : Option sl_V} : sl_Go xs N 110 64 [a0, some (.inl x), a2, a3, a4, a5, a6, a7, a8] st σ Q ↔ sl_Go xs N 110 65 [a0, some (.inl x), a2, a3, a4, a5, a6, a7, a8] (.inl x :: st) σ Q := gk_iload rfl rfl
theorem g110_65 {L : sl_L} {j : Int32} {r : sl_R} : sl_Go xs N 110 65 L (.inl j :: .inr (.inr r) :: st) σ Q ↔ (0 ≤ j.toInt ∧ j.toInt < sl_ilen N r) ∧ sl_Go xs N 110 66 L (.inl (sl_rd xs σ r j.toNatClampNeg) :: st) σ Q := gk_iald rfl
theorem g110_66 {L : sl_L} {j : Int32} {r : sl_R} : sl_Go xs N 110 66 L (.inl j :: .inr (.inr r) :: st) σ Q ↔ (0 ≤ j.toInt ∧ j.toInt < sl_ilen N r) ∧ sl_Go xs N 110 67 L (.inl (sl_rd xs σ r j.toNatClampNeg) :: st) σ Q := gk_iald rfl
theorem g110_67 {L : sl_L} {x y : Int32} : sl_Go xs N 110 67 L (.inl y :: .inl x :: st) σ Q ↔ sl_Go xs N 110 68 L (.inl (x * y) :: st) σ Q := gk_bin (b := 10) rfl
theorem g110_68 {L : sl_L} : sl_Go xs N 110 68 L st σ Q ↔ sl_Go xs N 110 70 L (.inl 100 :: st) σ Q := gk_const rfl
theorem g110_70 {L : sl_L} {x y : Int32} : sl_Go xs N 110 70 L (.inl y :: .inl x :: st) σ Q ↔ ¬ y = 0 ∧ sl_Go xs N 110 71 L (.inl (x / y) :: st) σ Q := gk_idiv rfl
theorem g110_71 {L : sl_L} {x y : Int32} : sl_Go xs N 110 71 L (.inl y :: .inl x :: st) σ Q ↔ sl_Go xs N 110 72 L (.inl (x - y) :: st) σ Q := gk_bin (b := 9) rfl
theorem g110_72n {x : Int32} {a0 a1 a2 a4 a5 a6 a7 a8 : Option sl_V} : sl_Go xs N 110 72 [a0, a1, a2, none, a4, a5, a6, a7, a8] (.inl x :: st) σ Q ↔ sl_Go xs N 110 74 [a0, a1, a2, none, some (.inl x), a5, a6, a7, a8] st σ Q := gk_istore rfl ⟨Nat.le_of_ble_eq_true rfl, rfl⟩ rfl
theorem g110_72i {x : Int32} {z : Int32} {a0 a1 a2 a4 a5 a6 a7 a8 : Option sl_V} : sl_Go xs N 110 72 [a0, a1, a2, some (.inl z), a4, a5, a6, a7, a8] (.inl x :: st) σ Q ↔ sl_Go xs N 110 74 [a0, a1, a2, some (.inl z), some (.inl x), a5, a6, a7, a8] st σ Q := gk_istore rfl ⟨Nat.le_of_ble_eq_true rfl, rfl⟩ rfl
theorem g110_72r {x : Int32} {z : sl_R} {a0 a1 a2 a4 a5 a6 a7 a8 : Option sl_V} : sl_Go xs N 110 72 [a0, a1, a2, some (.inr (.inr z)), a4, a5, a6, a7, a8] (.inl x :: st) σ Q ↔ sl_Go xs N 110 74 [a0, a1, a2, some (.inr (.inr z)), some (.inl x), a5, a6, a7, a8] st σ Q := gk_istore rfl ⟨Nat.le_of_ble_eq_true rfl, rfl⟩ rfl
theorem g110_74 {x : sl_R} {a1 a2 a3 a4 a5 a6 a7 a8 : Option sl_V} : sl_Go xs N 110 74 [some (.inr (.inr x)), a1, a2, a3, a4, a5, a6, a7, a8] st σ Q ↔ sl_Go xs N 110 75 [some (.inr (.inr x)), a1, a2, a3, a4, a5, a6, a7, a8] (.inr (.inr x) :: st) σ Q := gk_aload rfl rfl
theorem g110_75 {L : sl_L} {i t : Nat} : sl_Go xs N 110 75 L (.inr (.inr (40, i, t)) :: st) σ Q ↔ sl_Go xs N 110 78 L (.inr (.inr (51, 0, 0)) :: st) σ Q := gk_get (g := .inr (51, 0, 0)) rfl rfl rfl
theorem g110_78 {x : Int32} {a0 a1 a2 a4 a5 a6 a7 a8 : Option sl_V} : sl_Go xs N 110 78 [a0, a1, a2, some (.inl x), a4, a5, a6, a7, a8] st σ Q ↔ sl_Go xs N 110 79 [a0, a1, a2, some (.inl x), a4, a5, a6, a7, a8] (.inl x :: st) σ Q := gk_iload rfl rfl
theorem g110_79 {L : sl_L} {j : Int32} {r : sl_R} : sl_Go xs N 110 79 L (.inl j :: .inr (.inr r) :: st) σ Q ↔ (0 ≤ j.toInt ∧ j.toInt < sl_wlen r 2) ∧ sl_Go xs N 110 80 L (.inl (sl_rd xs σ r j.toNatClampNeg) :: st) σ Q := gk_bald rfl
theorem g110_80 {L : sl_L} {x : Int32} : sl_Go xs N 110 80 L (.inl x :: st) σ Q ↔ (x = 0 → sl_Go xs N 110 102 L st σ Q) ∧ (¬ x = 0 → sl_Go xs N 110 83 L st σ Q) := gk_zeq rfl
theorem g110_83 {x : Int32} {a0 a1 a2 a3 a5 a6 a7 a8 : Option sl_V} : sl_Go xs N 110 83 [a0, a1, a2, a3, some (.inl x), a5, a6, a7, a8] st σ Q ↔ sl_Go xs N 110 85 [a0, a1, a2, a3, some (.inl x), a5, a6, a7, a8] (.inl x :: st) σ Q := gk_iload rfl rfl
theorem g110_85 {x : sl_R} {a1 a2 a3 a4 a5 a6 a7 a8 : Option sl_V} : sl_Go xs N 110 85 [some (.inr (.inr x)), a1, a2, a3, a4, a5, a6, a7, a8] st σ Q ↔ sl_Go xs N 110 86 [some (.inr (.inr x)), a1, a2, a3, a4, a5, a6, a7, a8] (.inr (.inr x) :: st) σ Q := gk_aload rfl rfl
theorem g110_86 {L : sl_L} {i t : Nat} : sl_Go xs N 110 86 L (.inr (.inr (40, i, t)) :: st) σ Q ↔ sl_Go xs N 110 89 L (.inr (.inr (50, 0, 0)) :: st) σ Q := gk_get (g := .inr (50, 0, 0)) rfl rfl rfl
theorem g110_89 {x : sl_R} {a1 a2 a3 a4 a5 a6 a7 a8 : Option sl_V} : sl_Go xs N 110 89 [some (.inr (.inr x)), a1, a2, a3, a4, a5, a6, a7, a8] st σ Q ↔ sl_Go xs N 110 90 [some (.inr (.inr x)), a1, a2, a3, a4, a5, a6, a7, a8] (.inr (.inr x) :: st) σ Q := gk_aload rfl rfl
theorem g110_90 {L : sl_L} {i t : Nat} : sl_Go xs N 110 90 L (.inr (.inr (40, i, t)) :: st) σ Q ↔ sl_Go xs N 110 93 L (.inr (.inr (41, 0, 0)) :: st) σ Q := gk_get (g := .inr (41, 0, 0)) rfl rfl rfl
theorem g110_93 {x : Int32} {a0 a2 a3 a4 a5 a6 a7 a8 : Option sl_V} : sl_Go xs N 110 93 [a0, some (.inl x), a2, a3, a4, a5, a6, a7, a8] st σ Q ↔ sl_Go xs N 110 94 [a0, some (.inl x), a2, a3, a4, a5, a6, a7, a8] (.inl x :: st) σ Q := gk_iload rfl rfl
theorem g110_94 {L : sl_L} {j : Int32} {r : sl_R} : sl_Go xs N 110 94 L (.inl j :: .inr (.inr r) :: st) σ Q ↔ (0 ≤ j.toInt ∧ j.toInt < sl_ilen N r) ∧ sl_Go xs N 110 95 L (.inl (sl_rd xs σ r j.toNatClampNeg) :: st) σ Q := gk_iald rfl
theorem g110_95 {L : sl_L} {j : Int32} {r : sl_R} : sl_Go xs N 110 95 L (.inl j :: .inr (.inr r) :: st) σ Q ↔ (0 ≤ j.toInt ∧ j.toInt < sl_ilen N r) ∧ sl_Go xs N 110 96 L (.inl (sl_rd xs σ r j.toNatClampNeg) :: st) σ Q := gk_iald rfl
theorem g110_96 {L : sl_L} {x y : Int32} : sl_Go xs N 110 96 L (.inl y :: .inl x :: st) σ Q ↔ sl_Go xs N 110 97 L (.inl (x * y) :: st) σ Q := gk_bin (b := 10) rfl
theorem g110_97 {L : sl_L} : sl_Go xs N 110 97 L st σ Q ↔ sl_Go xs N 110 99 L (.inl 100 :: st) σ Q := gk_const rfl
theorem g110_99 {L : sl_L} {x y : Int32} : sl_Go xs N 110 99 L (.inl y :: .inl x :: st) σ Q ↔ ¬ y = 0 ∧ sl_Go xs N 110 100 L (.inl (x / y) :: st) σ Q := gk_idiv rfl
theorem g110_100n {x : Int32} {a0 a1 a2 a4 a5 a6 a7 a8 : Option sl_V} : sl_Go xs N 110 100 [a0, a1, a2, none, a4, a5, a6, a7, a8] (.inl x :: st) σ Q ↔ sl_Go xs N 110 102 [a0, a1, a2, none, some (.inl x), a5, a6, a7, a8] st σ Q := gk_istore rfl ⟨Nat.le_of_ble_eq_true rfl, rfl⟩ rfl
theorem g110_100i {x : Int32} {z : Int32} {a0 a1 a2 a4 a5 a6 a7 a8 : Option sl_V} : sl_Go xs N 110 100 [a0, a1, a2, some (.inl z), a4, a5, a6, a7, a8] (.inl x :: st) σ Q ↔ sl_Go xs N 110 102 [a0, a1, a2, some (.inl z), some (.inl x), a5, a6, a7, a8] st σ Q := gk_istore rfl ⟨Nat.le_of_ble_eq_true rfl, rfl⟩ rfl
theorem g110_100r {x : Int32} {z : sl_R} {a0 a1 a2 a4 a5 a6 a7 a8 : Option sl_V} : sl_Go xs N 110 100 [a0, a1, a2, some (.inr (.inr z)), a4, a5, a6, a7, a8] (.inl x :: st) σ Q ↔ sl_Go xs N 110 102 [a0, a1, a2, some (.inr (.inr z)), some (.inl x), a5, a6, a7, a8] st σ Q := gk_istore rfl ⟨Nat.le_of_ble_eq_true rfl, rfl⟩ rfl
theorem g110_102 {x : sl_R} {a1 a2 a3 a4 a5 a6 a7 a8 : Option sl_V} : sl_Go xs N 110 102 [some (.inr (.inr x)), a1, a2, a3, a4, a5, a6, a7, a8] st σ Q ↔ sl_Go xs N 110 103 [some (.inr (.inr x)), a1, a2, a3, a4, a5, a6, a7, a8] (.inr (.inr x) :: st) σ Q := gk_aload rfl rfl
theorem g110_103 {L : sl_L} {i t : Nat} : sl_Go xs N 110 103 L (.inr (.inr (40, i, t)) :: st) σ Q ↔ sl_Go xs N 110 106 L (.inr (.inr (48, 0, 0)) :: st) σ Q := gk_get (g := .inr (48, 0, 0)) rfl rfl rfl
theorem g110_106 {x : Int32} {a0 a1 a2 a4 a5 a6 a7 a8 : Option sl_V} : sl_Go xs N 110 106 [a0, a1, a2, some (.inl x), a4, a5, a6, a7, a8] st σ Q ↔ sl_Go xs N 110 107 [a0, a1, a2, some (.inl x), a4, a5, a6, a7, a8] (.inl x :: st) σ Q := gk_iload rfl rfl
theorem g110_107 {x : Int32} {a0 a1 a2 a3 a5 a6 a7 a8 : Option sl_V} : sl_Go xs N 110 107 [a0, a1, a2, a3, some (.inl x), a5, a6, a7, a8] st σ Q ↔ sl_Go xs N 110 109 [a0, a1, a2, a3, some (.inl x), a5, a6, a7, a8] (.inl x :: st) σ Q := gk_iload rfl rfl
theorem g110_109 {L : sl_L} {j x : Int32} {r : sl_R} : sl_Go xs N 110 109 L (.inl x :: .inl j :: .inr (.inr r) :: st) σ Q ↔ (0 ≤ j.toInt ∧ j.toInt < sl_wlen r 0) ∧ sl_Go xs N 110 110 L st (sl_wr σ r j.toNatClampNeg x) Q := gk_iast rfl
theorem g110_110 {x : Int32} {a0 a1 a2 a3 a5 a6 a7 a8 : Option sl_V} : sl_Go xs N 110 110 [a0, a1, a2, a3, some (.inl x), a5, a6, a7, a8] st σ Q ↔ sl_Go xs N 110 112 [a0, a1, a2, a3, some (.inl x), a5, a6, a7, a8] (.inl x :: st) σ Q := gk_iload rfl rfl
theorem g110_112 {L : sl_L} {x : Int32} : sl_Go xs N 110 112 L (.inl x :: st) σ Q ↔ (0 ≤ x → sl_Go xs N 110 121 L st σ Q) ∧ (¬ 0 ≤ x → sl_Go xs N 110 115 L st σ Q) := gk_zge rfl
theorem g110_115 {x : Int32} {a0 a1 a2 a4 a5 a6 a7 a8 : Option sl_V} : sl_Go xs N 110 115 [a0, a1, a2, some (.inl x), a4, a5, a6, a7, a8] st σ Q ↔ sl_Go xs N 110 116 [a0, a1, a2, some (.inl x), a4, a5, a6, a7, a8] (.inl x :: st) σ Q := gk_iload rfl rfl
theorem g110_116 {L : sl_L} : sl_Go xs N 110 116 L st σ Q ↔ sl_Go xs N 110 117 L (.inl 1 :: st) σ Q := gk_const rfl
theorem g110_117 {L : sl_L} {x y : Int32} : sl_Go xs N 110 117 L (.inl y :: .inl x :: st) σ Q ↔ sl_Go xs N 110 118 L (.inl (x + y) :: st) σ Q := gk_bin (b := 8) rfl
theorem g110_118 {L : sl_L} : sl_Go xs N 110 118 L st σ Q ↔ sl_Go xs N 110 122 L st σ Q := gk_goto rfl
theorem g110_121 {x : Int32} {a0 a1 a2 a4 a5 a6 a7 a8 : Option sl_V} : sl_Go xs N 110 121 [a0, a1, a2, some (.inl x), a4, a5, a6, a7, a8] st σ Q ↔ sl_Go xs N 110 122 [a0, a1, a2, some (.inl x), a4, a5, a6, a7, a8] (.inl x :: st) σ Q := gk_iload rfl rfl
theorem g110_122n {x : Int32} {a0 a1 a2 a3 a5 a6 a7 a8 : Option sl_V} : sl_Go xs N 110 122 [a0, a1, a2, a3, none, a5, a6, a7, a8] (.inl x :: st) σ Q ↔ sl_Go xs N 110 124 [a0, a1, a2, a3, none, some (.inl x), a6, a7, a8] st σ Q := gk_istore rfl ⟨Nat.le_of_ble_eq_true rfl, rfl⟩ rfl
theorem g110_122i {x : Int32} {z : Int32} {a0 a1 a2 a3 a5 a6 a7 a8 : Option sl_V} : sl_Go xs N 110 122 [a0, a1, a2, a3, some (.inl z), a5, a6, a7, a8] (.inl x :: st) σ Q ↔ sl_Go xs N 110 124 [a0, a1, a2, a3, some (.inl z), some (.inl x), a6, a7, a8] st σ Q := gk_istore rfl ⟨Nat.le_of_ble_eq_true rfl, rfl⟩ rfl
theorem g110_122r {x : Int32} {z : sl_R} {a0 a1 a2 a3 a5 a6 a7 a8 : Option sl_V} : sl_Go xs N 110 122 [a0, a1, a2, a3, some (.inr (.inr z)), a5, a6, a7, a8] (.inl x :: st) σ Q ↔ sl_Go xs N 110 124 [a0, a1, a2, a3, some (.inr (.inr z)), some (.inl x), a6, a7, a8] st σ Q := gk_istore rfl ⟨Nat.le_of_ble_eq_true rfl, rfl⟩ rfl
theorem g110_124 {x : Int32} {a0 a1 a2 a3 a5 a6 a7 a8 : Option sl_V} : sl_Go xs N 110 124 [a0, a1, a2, a3, some (.inl x), a5, a6, a7, a8] st σ Q ↔ sl_Go xs N 110 126 [a0, a1, a2, a3, some (.inl x), a5, a6, a7, a8] (.inl x :: st) σ Q := gk_iload rfl rfl
theorem g110_126 {L : sl_L} {x : Int32} : sl_Go xs N 110 126 L (.inl x :: st) σ Q ↔ (0 ≤ x → sl_Go xs N 110 133 L st σ Q) ∧ (¬ 0 ≤ x → sl_Go xs N 110 129 L st σ Q) := gk_zge rfl
theorem g110_129 {x : Int32} {a0 a1 a2 a4 a5 a6 a7 a8 : Option sl_V} : sl_Go xs N 110 129 [a0, a1, a2, some (.inl x), a4, a5, a6, a7, a8] st σ Q ↔ sl_Go xs N 110 130 [a0, a1, a2, some (.inl x), a4, a5, a6, a7, a8] (.inl x :: st) σ Q := gk_iload rfl rfl
theorem g110_130 {L : sl_L} : sl_Go xs N 110 130 L st σ Q ↔ sl_Go xs N 110 136 L st σ Q := gk_goto rfl
theorem g110_133 {x : Int32} {a0 a1 a2 a4 a5 a6 a7 a8 : Option sl_V} : sl_Go xs N 110 133 [a0, a1, a2, some (.inl x), a4, a5, a6, a7, a8] st σ Q ↔ sl_Go xs N 110 134 [a0, a1, a2, some (.inl x), a4, a5, a6, a7, a8] (.inl x :: st) σ Q := gk_iload rfl rfl
theorem g110_134 {L : sl_L} : sl_Go xs N 110 134 L st σ Q ↔ sl_Go xs N 110 135 L (.inl 1 :: st) σ Q := gk_const rfl
theorem g110_135 {L : sl_L} {x y : Int32} : sl_Go xs N 110 135 L (.inl y :: .inl x :: st) σ Q ↔ sl_Go xs N 110 136 L (.inl (x + y) :: st) σ Q := gk_bin (b := 8) rfl
theorem g110_136n {x : Int32} {a0 a1 a2 a3 a4 a6 a7 a8 : Option sl_V} : sl_Go xs N 110 136 [a0, a1, a2, a3, a4, none, a6, a7, a8] (.inl x :: st) σ Q ↔ sl_Go xs N 110 138 [a0, a1, a2, a3, a4, none, some (.inl x), a7, a8] st σ Q := gk_istore rfl ⟨Nat.le_of_ble_eq_true rfl, rfl⟩ rfl
theorem g110_136i {x : Int32} {z : Int32} {a0 a1 a2 a3 a4 a6 a7 a8 : Option sl_V} : sl_Go xs N 110 136 [a0, a1, a2, a3, a4, some (.inl z), a6, a7, a8] (.inl x :: st) σ Q ↔ sl_Go xs N 110 138 [a0, a1, a2, a3, a4, some (.inl z), some (.inl x), a7, a8] st σ Q := gk_istore rfl ⟨Nat.le_of_ble_eq_true rfl, rfl⟩ rfl
theorem g110_136r {x : Int32} {z : sl_R} {a0 a1 a2 a3 a4 a6 a7 a8 : Option sl_V} : sl_Go xs N 110 136 [a0, a1, a2, a3, a4, some (.inr (.inr z)), a6, a7, a8] (.inl x :: st) σ Q ↔ sl_Go xs N 110 138 [a0, a1, a2, a3, a4, some (.inr (.inr z)), some (.inl x), a7, a8] st σ Q := gk_istore rfl ⟨Nat.le_of_ble_eq_true rfl, rfl⟩ rfl
theorem g110_138 {x : sl_R} {a1 a2 a3 a4 a5 a6 a7 a8 : Option sl_V} : sl_Go xs N 110 138 [some (.inr (.inr x)), a1, a2, a3, a4, a5, a6, a7, a8] st σ Q ↔ sl_Go xs N 110 139 [some (.inr (.inr x)), a1, a2, a3, a4, a5, a6, a7, a8] (.inr (.inr x) :: st) σ Q := gk_aload rfl rfl
theorem g110_139 {x : Int32} {a0 a1 a2 a3 a5 a6 a7 a8 : Option sl_V} : sl_Go xs N 110 139 [a0, a1, a2, a3, some (.inl x), a5, a6, a7, a8] st σ Q ↔ sl_Go xs N 110 141 [a0, a1, a2, a3, some (.inl x), a5, a6, a7, a8] (.inl x :: st) σ Q := gk_iload rfl rfl
theorem g110_141 {L : sl_L} {x0 : Int32} {i t : Nat} : sl_Go xs N 110 141 L (.inl x0 :: .inr (.inr (40, i, t)) :: st) σ Q ↔ sl_cw st ≤ 8 ∧ sl_Go xs N 92 0 [some (.inr (.inr (40, i, t))), some (.inl x0)] [] σ (fun r τ => sl_Go xs N 110 144 L (r.toList ++ st) τ Q) := gk_call rfl (Nat.le_add_left 2 st.length) rfl rfl rfl rfl (Nat.le_of_ble_eq_true rfl)
theorem g110_144 {L : sl_L} : sl_Go xs N 110 144 L st σ Q ↔ sl_Go xs N 110 146 L (.inl 100 :: st) σ Q := gk_const rfl
theorem g110_146 {L : sl_L} {x y : Int32} : sl_Go xs N 110 146 L (.inl y :: .inl x :: st) σ Q ↔ ¬ y = 0 ∧ sl_Go xs N 110 147 L (.inl (x / y) :: st) σ Q := gk_idiv rfl
theorem g110_147n {x : Int32} {a0 a1 a2 a3 a4 a5 a7 a8 : Option sl_V} : sl_Go xs N 110 147 [a0, a1, a2, a3, a4, a5, none, a7, a8] (.inl x :: st) σ Q ↔ sl_Go xs N 110 149 [a0, a1, a2, a3, a4, a5, none, some (.inl x), a8] st σ Q := gk_istore rfl ⟨Nat.le_of_ble_eq_true rfl, rfl⟩ rfl
theorem g110_147i {x : Int32} {z : Int32} {a0 a1 a2 a3 a4 a5 a7 a8 : Option sl_V} : sl_Go xs N 110 147 [a0, a1, a2, a3, a4, a5, some (.inl z), a7, a8] (.inl x :: st) σ Q ↔ sl_Go xs N 110 149 [a0, a1, a2, a3, a4, a5, some (.inl z), some (.inl x), a8] st σ Q := gk_istore rfl ⟨Nat.le_of_ble_eq_true rfl, rfl⟩ rfl
theorem g110_147r {x : Int32} {z : sl_R} {a0 a1 a2 a3 a4 a5 a7 a8 : Option sl_V} : sl_Go xs N 110 147 [a0, a1, a2, a3, a4, a5, some (.inr (.inr z)), a7, a8] (.inl x :: st) σ Q ↔ sl_Go xs N 110 149 [a0, a1, a2, a3, a4, a5, some (.inr (.inr z)), some (.inl x), a8] st σ Q := gk_istore rfl ⟨Nat.le_of_ble_eq_true rfl, rfl⟩ rfl
theorem g110_149 {x : Int32} {a0 a1 a2 a3 a4 a5 a6 a8 : Option sl_V} : sl_Go xs N 110 149 [a0, a1, a2, a3, a4, a5, a6, some (.inl x), a8] st σ Q ↔ sl_Go xs N 110 151 [a0, a1, a2, a3, a4, a5, a6, some (.inl x), a8] (.inl x :: st) σ Q := gk_iload rfl rfl
theorem g110_151 {x : sl_R} {a1 a2 a3 a4 a5 a6 a7 a8 : Option sl_V} : sl_Go xs N 110 151 [some (.inr (.inr x)), a1, a2, a3, a4, a5, a6, a7, a8] st σ Q ↔ sl_Go xs N 110 152 [some (.inr (.inr x)), a1, a2, a3, a4, a5, a6, a7, a8] (.inr (.inr x) :: st) σ Q := gk_aload rfl rfl
theorem g110_152 {L : sl_L} {i t : Nat} : sl_Go xs N 110 152 L (.inr (.inr (40, i, t)) :: st) σ Q ↔ sl_Go xs N 110 155 L (.inr (.inr (47, 0, 0)) :: st) σ Q := gk_get (g := .inr (47, 0, 0)) rfl rfl rfl
theorem g110_155 {x : Int32} {a0 a1 a2 a3 a4 a6 a7 a8 : Option sl_V} : sl_Go xs N 110 155 [a0, a1, a2, a3, a4, some (.inl x), a6, a7, a8] st σ Q ↔ sl_Go xs N 110 157 [a0, a1, a2, a3, a4, some (.inl x), a6, a7, a8] (.inl x :: st) σ Q := gk_iload rfl rfl
theorem g110_157 {L : sl_L} {j : Int32} {r : sl_R} : sl_Go xs N 110 157 L (.inl j :: .inr (.inr r) :: st) σ Q ↔ (0 ≤ j.toInt ∧ j.toInt < sl_ilen N r) ∧ sl_Go xs N 110 158 L (.inl (sl_rd xs σ r j.toNatClampNeg) :: st) σ Q := gk_iald rfl
theorem g110_158 {L : sl_L} {x y : Int32} : sl_Go xs N 110 158 L (.inl y :: .inl x :: st) σ Q ↔ (x ≤ y → sl_Go xs N 110 171 L st σ Q) ∧ (¬ x ≤ y → sl_Go xs N 110 161 L st σ Q) := gk_ile rfl
theorem g110_161 {x : sl_R} {a1 a2 a3 a4 a5 a6 a7 a8 : Option sl_V} : sl_Go xs N 110 161 [some (.inr (.inr x)), a1, a2, a3, a4, a5, a6, a7, a8] st σ Q ↔ sl_Go xs N 110 162 [some (.inr (.inr x)), a1, a2, a3, a4, a5, a6, a7, a8] (.inr (.inr x) :: st) σ Q := gk_aload rfl rfl
theorem g110_162 {L : sl_L} {i t : Nat} : sl_Go xs N 110 162 L (.inr (.inr (40, i, t)) :: st) σ Q ↔ sl_Go xs N 110 165 L (.inr (.inr (47, 0, 0)) :: st) σ Q := gk_get (g := .inr (47, 0, 0)) rfl rfl rfl
theorem g110_165 {x : Int32} {a0 a1 a2 a3 a4 a6 a7 a8 : Option sl_V} : sl_Go xs N 110 165 [a0, a1, a2, a3, a4, some (.inl x), a6, a7, a8] st σ Q ↔ sl_Go xs N 110 167 [a0, a1, a2, a3, a4, some (.inl x), a6, a7, a8] (.inl x :: st) σ Q := gk_iload rfl rfl
theorem g110_167 {L : sl_L} {j : Int32} {r : sl_R} : sl_Go xs N 110 167 L (.inl j :: .inr (.inr r) :: st) σ Q ↔ (0 ≤ j.toInt ∧ j.toInt < sl_ilen N r) ∧ sl_Go xs N 110 168 L (.inl (sl_rd xs σ r j.toNatClampNeg) :: st) σ Q := gk_iald rfl
theorem g110_168 {L : sl_L} : sl_Go xs N 110 168 L st σ Q ↔ sl_Go xs N 110 173 L st σ Q := gk_goto rfl
theorem g110_171 {x : Int32} {a0 a1 a2 a3 a4 a5 a6 a8 : Option sl_V} : sl_Go xs N 110 171 [a0, a1, a2, a3, a4, a5, a6, some (.inl x), a8] st σ Q ↔ sl_Go xs N 110 173 [a0, a1, a2, a3, a4, a5, a6, some (.inl x), a8] (.inl x :: st) σ Q := gk_iload rfl rfl
theorem g110_173n {x : Int32} {a0 a1 a2 a3 a4 a5 a7 a8 : Option sl_V} : sl_Go xs N 110 173 [a0, a1, a2, a3, a4, a5, none, a7, a8] (.inl x :: st) σ Q ↔ sl_Go xs N 110 175 [a0, a1, a2, a3, a4, a5, none, some (.inl x), a8] st σ Q := gk_istore rfl ⟨Nat.le_of_ble_eq_true rfl, rfl⟩ rfl
theorem g110_173i {x : Int32} {z : Int32} {a0 a1 a2 a3 a4 a5 a7 a8 : Option sl_V} : sl_Go xs N 110 173 [a0, a1, a2, a3, a4, a5, some (.inl z), a7, a8] (.inl x :: st) σ Q ↔ sl_Go xs N 110 175 [a0, a1, a2, a3, a4, a5, some (.inl z), some (.inl x), a8] st σ Q := gk_istore rfl ⟨Nat.le_of_ble_eq_true rfl, rfl⟩ rfl
theorem g110_173r {x : Int32} {z : sl_R} {a0 a1 a2 a3 a4 a5 a7 a8 : Option sl_V} : sl_Go xs N 110 173 [a0, a1, a2, a3, a4, a5, some (.inr (.inr z)), a7, a8] (.inl x :: st) σ Q ↔ sl_Go xs N 110 175 [a0, a1, a2, a3, a4, a5, some (.inr (.inr z)), some (.inl x), a8] st σ Q := gk_istore rfl ⟨Nat.le_of_ble_eq_true rfl, rfl⟩ rfl
theorem g110_175 {x : sl_R} {a1 a2 a3 a4 a5 a6 a7 a8 : Option sl_V} : sl_Go xs N 110 175 [some (.inr (.inr x)), a1, a2, a3, a4, a5, a6, a7, a8] st σ Q ↔ sl_Go xs N 110 176 [some (.inr (.inr x)), a1, a2, a3, a4, a5, a6, a7, a8] (.inr (.inr x) :: st) σ Q := gk_aload rfl rfl
theorem g110_176 {L : sl_L} {i t : Nat} : sl_Go xs N 110 176 L (.inr (.inr (40, i, t)) :: st) σ Q ↔ sl_Go xs N 110 179 L (.inr (.inr (47, 0, 0)) :: st) σ Q := gk_get (g := .inr (47, 0, 0)) rfl rfl rfl
theorem g110_179 {x : Int32} {a0 a1 a2 a3 a4 a5 a7 a8 : Option sl_V} : sl_Go xs N 110 179 [a0, a1, a2, a3, a4, a5, some (.inl x), a7, a8] st σ Q ↔ sl_Go xs N 110 181 [a0, a1, a2, a3, a4, a5, some (.inl x), a7, a8] (.inl x :: st) σ Q := gk_iload rfl rfl
theorem g110_181 {L : sl_L} {j : Int32} {r : sl_R} : sl_Go xs N 110 181 L (.inl j :: .inr (.inr r) :: st) σ Q ↔ (0 ≤ j.toInt ∧ j.toInt < sl_ilen N r) ∧ sl_Go xs N 110 182 L (.inl (sl_rd xs σ r j.toNatClampNeg) :: st) σ Q := gk_iald rfl
theorem g110_182 {x : Int32} {a0 a1 a2 a3 a4 a5 a6 a8 : Option sl_V} : sl_Go xs N 110 182 [a0, a1, a2, a3, a4, a5, a6, some (.inl x), a8] st σ Q ↔ sl_Go xs N 110 184 [a0, a1, a2, a3, a4, a5, a6, some (.inl x), a8] (.inl x :: st) σ Q := gk_iload rfl rfl
theorem g110_184 {L : sl_L} {x y : Int32} : sl_Go xs N 110 184 L (.inl y :: .inl x :: st) σ Q ↔ sl_Go xs N 110 185 L (.inl (x + y) :: st) σ Q := gk_bin (b := 8) rfl
theorem g110_185 {x : sl_R} {a1 a2 a3 a4 a5 a6 a7 a8 : Option sl_V} : sl_Go xs N 110 185 [some (.inr (.inr x)), a1, a2, a3, a4, a5, a6, a7, a8] st σ Q ↔ sl_Go xs N 110 186 [some (.inr (.inr x)), a1, a2, a3, a4, a5, a6, a7, a8] (.inr (.inr x) :: st) σ Q := gk_aload rfl rfl
theorem g110_186 {L : sl_L} {i t : Nat} : sl_Go xs N 110 186 L (.inr (.inr (40, i, t)) :: st) σ Q ↔ sl_Go xs N 110 189 L (.inr (.inr (43, 0, 0)) :: st) σ Q := gk_get (g := .inr (43, 0, 0)) rfl rfl rfl
theorem g110_189 {x : Int32} {a0 a2 a3 a4 a5 a6 a7 a8 : Option sl_V} : sl_Go xs N 110 189 [a0, some (.inl x), a2, a3, a4, a5, a6, a7, a8] st σ Q ↔ sl_Go xs N 110 190 [a0, some (.inl x), a2, a3, a4, a5, a6, a7, a8] (.inl x :: st) σ Q := gk_iload rfl rfl
theorem g110_190 {L : sl_L} {j : Int32} {r : sl_R} : sl_Go xs N 110 190 L (.inl j :: .inr (.inr r) :: st) σ Q ↔ (0 ≤ j.toInt ∧ j.toInt < sl_ilen N r) ∧ sl_Go xs N 110 191 L (.inl (sl_rd xs σ r j.toNatClampNeg) :: st) σ Q := gk_iald rfl
theorem g110_191 {L : sl_L} {x y : Int32} : sl_Go xs N 110 191 L (.inl y :: .inl x :: st) σ Q ↔ sl_Go xs N 110 192 L (.inl (x - y) :: st) σ Q := gk_bin (b := 9) rfl
theorem g110_192n {x : Int32} {a0 a1 a2 a3 a4 a5 a6 a8 : Option sl_V} : sl_Go xs N 110 192 [a0, a1, a2, a3, a4, a5, a6, none, a8] (.inl x :: st) σ Q ↔ sl_Go xs N 110 194 [a0, a1, a2, a3, a4, a5, a6, none, some (.inl x)] st σ Q := gk_istore rfl ⟨Nat.le_of_ble_eq_true rfl, rfl⟩ rfl
theorem g110_192i {x : Int32} {z : Int32} {a0 a1 a2 a3 a4 a5 a6 a8 : Option sl_V} : sl_Go xs N 110 192 [a0, a1, a2, a3, a4, a5, a6, some (.inl z), a8] (.inl x :: st) σ Q ↔ sl_Go xs N 110 194 [a0, a1, a2, a3, a4, a5, a6, some (.inl z), some (.inl x)] st σ Q := gk_istore rfl ⟨Nat.le_of_ble_eq_true rfl, rfl⟩ rfl
theorem g110_192r {x : Int32} {z : sl_R} {a0 a1 a2 a3 a4 a5 a6 a8 : Option sl_V} : sl_Go xs N 110 192 [a0, a1, a2, a3, a4, a5, a6, some (.inr (.inr z)), a8] (.inl x :: st) σ Q ↔ sl_Go xs N 110 194 [a0, a1, a2, a3, a4, a5, a6, some (.inr (.inr z)), some (.inl x)] st σ Q := gk_istore rfl ⟨Nat.le_of_ble_eq_true rfl, rfl⟩ rfl
theorem g110_194 {x : Int32} {a0 a1 a2 a3 a4 a5 a6 a7 : Option sl_V} : sl_Go xs N 110 194 [a0, a1, a2, a3, a4, a5, a6, a7, some (.inl x)] st σ Q ↔ sl_Go xs N 110 196 [a0, a1, a2, a3, a4, a5, a6, a7, some (.inl x)] (.inl x :: st) σ Q := gk_iload rfl rfl
theorem g110_196 {L : sl_L} {x : Int32} : sl_Go xs N 110 196 L (.inl x :: st) σ Q ↔ (0 < x → sl_Go xs N 110 224 L st σ Q) ∧ (¬ 0 < x → sl_Go xs N 110 199 L st σ Q) := gk_zgt rfl
theorem g110_199 {x : sl_R} {a1 a2 a3 a4 a5 a6 a7 a8 : Option sl_V} : sl_Go xs N 110 199 [some (.inr (.inr x)), a1, a2, a3, a4, a5, a6, a7, a8] st σ Q ↔ sl_Go xs N 110 200 [some (.inr (.inr x)), a1, a2, a3, a4, a5, a6, a7, a8] (.inr (.inr x) :: st) σ Q := gk_aload rfl rfl
theorem g110_200 {L : sl_L} {i t : Nat} : sl_Go xs N 110 200 L (.inr (.inr (40, i, t)) :: st) σ Q ↔ sl_Go xs N 110 203 L (.inr (.inr (47, 0, 0)) :: st) σ Q := gk_get (g := .inr (47, 0, 0)) rfl rfl rfl
theorem g110_203 {x : Int32} {a0 a1 a2 a3 a4 a6 a7 a8 : Option sl_V} : sl_Go xs N 110 203 [a0, a1, a2, a3, a4, some (.inl x), a6, a7, a8] st σ Q ↔ sl_Go xs N 110 205 [a0, a1, a2, a3, a4, some (.inl x), a6, a7, a8] (.inl x :: st) σ Q := gk_iload rfl rfl
theorem g110_205 {L : sl_L} {x : sl_R} {y : Int32} : sl_Go xs N 110 205 L (.inl y :: .inr (.inr x) :: st) σ Q ↔ sl_Go xs N 110 206 L (.inl y :: .inr (.inr x) :: .inl y :: .inr (.inr x) :: st) σ Q := gk_dup2 rfl
theorem g110_206 {L : sl_L} {j : Int32} {r : sl_R} : sl_Go xs N 110 206 L (.inl j :: .inr (.inr r) :: st) σ Q ↔ (0 ≤ j.toInt ∧ j.toInt < sl_ilen N r) ∧ sl_Go xs N 110 207 L (.inl (sl_rd xs σ r j.toNatClampNeg) :: st) σ Q := gk_iald rfl
theorem g110_207 {x : Int32} {a0 a1 a2 a3 a4 a5 a6 a8 : Option sl_V} : sl_Go xs N 110 207 [a0, a1, a2, a3, a4, a5, a6, some (.inl x), a8] st σ Q ↔ sl_Go xs N 110 209 [a0, a1, a2, a3, a4, a5, a6, some (.inl x), a8] (.inl x :: st) σ Q := gk_iload rfl rfl
theorem g110_209 {L : sl_L} {x y : Int32} : sl_Go xs N 110 209 L (.inl y :: .inl x :: st) σ Q ↔ sl_Go xs N 110 210 L (.inl (x - y) :: st) σ Q := gk_bin (b := 9) rfl
theorem g110_210 {L : sl_L} {j x : Int32} {r : sl_R} : sl_Go xs N 110 210 L (.inl x :: .inl j :: .inr (.inr r) :: st) σ Q ↔ (0 ≤ j.toInt ∧ j.toInt < sl_wlen r 0) ∧ sl_Go xs N 110 211 L st (sl_wr σ r j.toNatClampNeg x) Q := gk_iast rfl
theorem g110_211 {x : sl_R} {a1 a2 a3 a4 a5 a6 a7 a8 : Option sl_V} : sl_Go xs N 110 211 [some (.inr (.inr x)), a1, a2, a3, a4, a5, a6, a7, a8] st σ Q ↔ sl_Go xs N 110 212 [some (.inr (.inr x)), a1, a2, a3, a4, a5, a6, a7, a8] (.inr (.inr x) :: st) σ Q := gk_aload rfl rfl
theorem g110_212 {L : sl_L} {i t : Nat} : sl_Go xs N 110 212 L (.inr (.inr (40, i, t)) :: st) σ Q ↔ sl_Go xs N 110 215 L (.inr (.inr (47, 0, 0)) :: st) σ Q := gk_get (g := .inr (47, 0, 0)) rfl rfl rfl
theorem g110_215 {x : Int32} {a0 a1 a2 a3 a4 a5 a7 a8 : Option sl_V} : sl_Go xs N 110 215 [a0, a1, a2, a3, a4, a5, some (.inl x), a7, a8] st σ Q ↔ sl_Go xs N 110 217 [a0, a1, a2, a3, a4, a5, some (.inl x), a7, a8] (.inl x :: st) σ Q := gk_iload rfl rfl
theorem g110_217 {L : sl_L} {x : sl_R} {y : Int32} : sl_Go xs N 110 217 L (.inl y :: .inr (.inr x) :: st) σ Q ↔ sl_Go xs N 110 218 L (.inl y :: .inr (.inr x) :: .inl y :: .inr (.inr x) :: st) σ Q := gk_dup2 rfl
theorem g110_218 {L : sl_L} {j : Int32} {r : sl_R} : sl_Go xs N 110 218 L (.inl j :: .inr (.inr r) :: st) σ Q ↔ (0 ≤ j.toInt ∧ j.toInt < sl_ilen N r) ∧ sl_Go xs N 110 219 L (.inl (sl_rd xs σ r j.toNatClampNeg) :: st) σ Q := gk_iald rfl
theorem g110_219 {x : Int32} {a0 a1 a2 a3 a4 a5 a6 a8 : Option sl_V} : sl_Go xs N 110 219 [a0, a1, a2, a3, a4, a5, a6, some (.inl x), a8] st σ Q ↔ sl_Go xs N 110 221 [a0, a1, a2, a3, a4, a5, a6, some (.inl x), a8] (.inl x :: st) σ Q := gk_iload rfl rfl
theorem g110_221 {L : sl_L} {x y : Int32} : sl_Go xs N 110 221 L (.inl y :: .inl x :: st) σ Q ↔ sl_Go xs N 110 222 L (.inl (x + y) :: st) σ Q := gk_bin (b := 8) rfl
theorem g110_222 {L : sl_L} {j x : Int32} {r : sl_R} : sl_Go xs N 110 222 L (.inl x :: .inl j :: .inr (.inr r) :: st) σ Q ↔ (0 ≤ j.toInt ∧ j.toInt < sl_wlen r 0) ∧ sl_Go xs N 110 223 L st (sl_wr σ r j.toNatClampNeg x) Q := gk_iast rfl
theorem g110_223 {L : sl_L} : sl_Go xs N 110 223 L [] σ Q ↔ Q none σ := gk_vret rfl
theorem g110_224 {x : sl_R} {a1 a2 a3 a4 a5 a6 a7 a8 : Option sl_V} : sl_Go xs N 110 224 [some (.inr (.inr x)), a1, a2, a3, a4, a5, a6, a7, a8] st σ Q ↔ sl_Go xs N 110 225 [some (.inr (.inr x)), a1, a2, a3, a4, a5, a6, a7, a8] (.inr (.inr x) :: st) σ Q := gk_aload rfl rfl
theorem g110_225 {L : sl_L} {i t : Nat} : sl_Go xs N 110 225 L (.inr (.inr (40, i, t)) :: st) σ Q ↔ sl_Go xs N 110 228 L (.inr (.inr (48, 0, 0)) :: st) σ Q := gk_get (g := .inr (48, 0, 0)) rfl rfl rfl
theorem g110_228 {x : Int32} {a0 a1 a2 a4 a5 a6 a7 a8 : Option sl_V} : sl_Go xs N 110 228 [a0, a1, a2, some (.inl x), a4, a5, a6, a7, a8] st σ Q ↔ sl_Go xs N 110 229 [a0, a1, a2, some (.inl x), a4, a5, a6, a7, a8] (.inl x :: st) σ Q := gk_iload rfl rfl
theorem g110_229 {L : sl_L} : sl_Go xs N 110 229 L st σ Q ↔ sl_Go xs N 110 230 L (.inl 0 :: st) σ Q := gk_const rfl
theorem g110_230 {L : sl_L} {j x : Int32} {r : sl_R} : sl_Go xs N 110 230 L (.inl x :: .inl j :: .inr (.inr r) :: st) σ Q ↔ (0 ≤ j.toInt ∧ j.toInt < sl_wlen r 0) ∧ sl_Go xs N 110 231 L st (sl_wr σ r j.toNatClampNeg x) Q := gk_iast rfl
theorem g110_231 {x : sl_R} {a1 a2 a3 a4 a5 a6 a7 a8 : Option sl_V} : sl_Go xs N 110 231 [some (.inr (.inr x)), a1, a2, a3, a4, a5, a6, a7, a8] st σ Q ↔ sl_Go xs N 110 232 [some (.inr (.inr x)), a1, a2, a3, a4, a5, a6, a7, a8] (.inr (.inr x) :: st) σ Q := gk_aload rfl rfl
theorem g110_232 {L : sl_L} {i t : Nat} : sl_Go xs N 110 232 L (.inr (.inr (40, i, t)) :: st) σ Q ↔ sl_Go xs N 110 235 L (.inr (.inr (47, 0, 0)) :: st) σ Q := gk_get (g := .inr (47, 0, 0)) rfl rfl rfl
theorem g110_235 {x : Int32} {a0 a1 a2 a3 a4 a5 a7 a8 : Option sl_V} : sl_Go xs N 110 235 [a0, a1, a2, a3, a4, a5, some (.inl x), a7, a8] st σ Q ↔ sl_Go xs N 110 237 [a0, a1, a2, a3, a4, a5, some (.inl x), a7, a8] (.inl x :: st) σ Q := gk_iload rfl rfl
theorem g110_237 {x : sl_R} {a1 a2 a3 a4 a5 a6 a7 a8 : Option sl_V} : sl_Go xs N 110 237 [some (.inr (.inr x)), a1, a2, a3, a4, a5, a6, a7, a8] st σ Q ↔ sl_Go xs N 110 238 [some (.inr (.inr x)), a1, a2, a3, a4, a5, a6, a7, a8] (.inr (.inr x) :: st) σ Q := gk_aload rfl rfl
theorem g110_238 {L : sl_L} {i t : Nat} : sl_Go xs N 110 238 L (.inr (.inr (40, i, t)) :: st) σ Q ↔ sl_Go xs N 110 241 L (.inr (.inr (43, 0, 0)) :: st) σ Q := gk_get (g := .inr (43, 0, 0)) rfl rfl rfl
theorem g110_241 {x : Int32} {a0 a2 a3 a4 a5 a6 a7 a8 : Option sl_V} : sl_Go xs N 110 241 [a0, some (.inl x), a2, a3, a4, a5, a6, a7, a8] st σ Q ↔ sl_Go xs N 110 242 [a0, some (.inl x), a2, a3, a4, a5, a6, a7, a8] (.inl x :: st) σ Q := gk_iload rfl rfl
theorem g110_242 {L : sl_L} {j : Int32} {r : sl_R} : sl_Go xs N 110 242 L (.inl j :: .inr (.inr r) :: st) σ Q ↔ (0 ≤ j.toInt ∧ j.toInt < sl_ilen N r) ∧ sl_Go xs N 110 243 L (.inl (sl_rd xs σ r j.toNatClampNeg) :: st) σ Q := gk_iald rfl
theorem g110_243 {L : sl_L} {j x : Int32} {r : sl_R} : sl_Go xs N 110 243 L (.inl x :: .inl j :: .inr (.inr r) :: st) σ Q ↔ (0 ≤ j.toInt ∧ j.toInt < sl_wlen r 0) ∧ sl_Go xs N 110 244 L st (sl_wr σ r j.toNatClampNeg x) Q := gk_iast rfl
theorem g110_244 {x : sl_R} {a1 a2 a3 a4 a5 a6 a7 a8 : Option sl_V} : sl_Go xs N 110 244 [some (.inr (.inr x)), a1, a2, a3, a4, a5, a6, a7, a8] st σ Q ↔ sl_Go xs N 110 245 [some (.inr (.inr x)), a1, a2, a3, a4, a5, a6, a7, a8] (.inr (.inr x) :: st) σ Q := gk_aload rfl rfl
theorem g110_245 {L : sl_L} {i t : Nat} : sl_Go xs N 110 245 L (.inr (.inr (40, i, t)) :: st) σ Q ↔ sl_Go xs N 110 248 L (.inr (.inr (47, 0, 0)) :: st) σ Q := gk_get (g := .inr (47, 0, 0)) rfl rfl rfl
theorem g110_248 {x : Int32} {a0 a1 a2 a3 a4 a6 a7 a8 : Option sl_V} : sl_Go xs N 110 248 [a0, a1, a2, a3, a4, some (.inl x), a6, a7, a8] st σ Q ↔ sl_Go xs N 110 250 [a0, a1, a2, a3, a4, some (.inl x), a6, a7, a8] (.inl x :: st) σ Q := gk_iload rfl rfl
theorem g110_250 {L : sl_L} {x : sl_R} {y : Int32} : sl_Go xs N 110 250 L (.inl y :: .inr (.inr x) :: st) σ Q ↔ sl_Go xs N 110 251 L (.inl y :: .inr (.inr x) :: .inl y :: .inr (.inr x) :: st) σ Q := gk_dup2 rfl
theorem g110_251 {L : sl_L} {j : Int32} {r : sl_R} : sl_Go xs N 110 251 L (.inl j :: .inr (.inr r) :: st) σ Q ↔ (0 ≤ j.toInt ∧ j.toInt < sl_ilen N r) ∧ sl_Go xs N 110 252 L (.inl (sl_rd xs σ r j.toNatClampNeg) :: st) σ Q := gk_iald rfl
theorem g110_252 {x : sl_R} {a1 a2 a3 a4 a5 a6 a7 a8 : Option sl_V} : sl_Go xs N 110 252 [some (.inr (.inr x)), a1, a2, a3, a4, a5, a6, a7, a8] st σ Q ↔ sl_Go xs N 110 253 [some (.inr (.inr x)), a1, a2, a3, a4, a5, a6, a7, a8] (.inr (.inr x) :: st) σ Q := gk_aload rfl rfl
theorem g110_253 {x : sl_R} {a1 a2 a3 a4 a5 a6 a7 a8 : Option sl_V} : sl_Go xs N 110 253 [some (.inr (.inr x)), a1, a2, a3, a4, a5, a6, a7, a8] st σ Q ↔ sl_Go xs N 110 254 [some (.inr (.inr x)), a1, a2, a3, a4, a5, a6, a7, a8] (.inr (.inr x) :: st) σ Q := gk_aload rfl rfl
theorem g110_254 {L : sl_L} {i t : Nat} : sl_Go xs N 110 254 L (.inr (.inr (40, i, t)) :: st) σ Q ↔ sl_Go xs N 110 257 L (.inr (.inr (41, 0, 0)) :: st) σ Q := gk_get (g := .inr (41, 0, 0)) rfl rfl rfl
theorem g110_257 {x : Int32} {a0 a2 a3 a4 a5 a6 a7 a8 : Option sl_V} : sl_Go xs N 110 257 [a0, some (.inl x), a2, a3, a4, a5, a6, a7, a8] st σ Q ↔ sl_Go xs N 110 258 [a0, some (.inl x), a2, a3, a4, a5, a6, a7, a8] (.inl x :: st) σ Q := gk_iload rfl rfl
theorem g110_258 {L : sl_L} {j : Int32} {r : sl_R} : sl_Go xs N 110 258 L (.inl j :: .inr (.inr r) :: st) σ Q ↔ (0 ≤ j.toInt ∧ j.toInt < sl_ilen N r) ∧ sl_Go xs N 110 259 L (.inl (sl_rd xs σ r j.toNatClampNeg) :: st) σ Q := gk_iald rfl
theorem g110_259 {L : sl_L} {x0 : Int32} {i t : Nat} : sl_Go xs N 110 259 L (.inl x0 :: .inr (.inr (40, i, t)) :: st) σ Q ↔ sl_cw st ≤ 8 ∧ sl_Go xs N 94 0 [some (.inr (.inr (40, i, t))), some (.inl x0)] [] σ (fun r τ => sl_Go xs N 110 262 L (r.toList ++ st) τ Q) := gk_call rfl (Nat.le_add_left 2 st.length) rfl rfl rfl rfl (Nat.le_of_ble_eq_true rfl)
theorem g110_262 {L : sl_L} {x : Int32} : sl_Go xs N 110 262 L (.inl x :: st) σ Q ↔ (x = 0 → sl_Go xs N 110 273 L st σ Q) ∧ (¬ x = 0 → sl_Go xs N 110 265 L st σ Q) := gk_zeq rfl
theorem g110_265 {x : Int32} {a0 a1 a2 a3 a4 a5 a6 a8 : Option sl_V} : sl_Go xs N 110 265 [a0, a1, a2, a3, a4, a5, a6, some (.inl x), a8] st σ Q ↔ sl_Go xs N 110 267 [a0, a1, a2, a3, a4, a5, a6, some (.inl x), a8] (.inl x :: st) σ Q := gk_iload rfl rfl
theorem g110_267 {x : Int32} {a0 a1 a2 a3 a4 a5 a6 a7 : Option sl_V} : sl_Go xs N 110 267 [a0, a1, a2, a3, a4, a5, a6, a7, some (.inl x)] st σ Q ↔ sl_Go xs N 110 269 [a0, a1, a2, a3, a4, a5, a6, a7, some (.inl x)] (.inl x :: st) σ Q := gk_iload rfl rfl
theorem g110_269 {L : sl_L} {x y : Int32} : sl_Go xs N 110 269 L (.inl y :: .inl x :: st) σ Q ↔ sl_Go xs N 110 270 L (.inl (x - y) :: st) σ Q := gk_bin (b := 9) rfl
theorem g110_270 {L : sl_L} : sl_Go xs N 110 270 L st σ Q ↔ sl_Go xs N 110 275 L st σ Q := gk_goto rfl
theorem g110_273 {x : Int32} {a0 a1 a2 a3 a4 a5 a6 a8 : Option sl_V} : sl_Go xs N 110 273 [a0, a1, a2, a3, a4, a5, a6, some (.inl x), a8] st σ Q ↔ sl_Go xs N 110 275 [a0, a1, a2, a3, a4, a5, a6, some (.inl x), a8] (.inl x :: st) σ Q := gk_iload rfl rfl
theorem g110_275 {L : sl_L} {x y : Int32} : sl_Go xs N 110 275 L (.inl y :: .inl x :: st) σ Q ↔ sl_Go xs N 110 276 L (.inl (x - y) :: st) σ Q := gk_bin (b := 9) rfl
theorem g110_276 {L : sl_L} {j x : Int32} {r : sl_R} : sl_Go xs N 110 276 L (.inl x :: .inl j :: .inr (.inr r) :: st) σ Q ↔ (0 ≤ j.toInt ∧ j.toInt < sl_wlen r 0) ∧ sl_Go xs N 110 277 L st (sl_wr σ r j.toNatClampNeg x) Q := gk_iast rfl
theorem g110_277 {x : sl_R} {a1 a2 a3 a4 a5 a6 a7 a8 : Option sl_V} : sl_Go xs N 110 277 [some (.inr (.inr x)), a1, a2, a3, a4, a5, a6, a7, a8] st σ Q ↔ sl_Go xs N 110 278 [some (.inr (.inr x)), a1, a2, a3, a4, a5, a6, a7, a8] (.inr (.inr x) :: st) σ Q := gk_aload rfl rfl
theorem g110_278 {x : sl_R} {a1 a2 a3 a4 a5 a6 a7 a8 : Option sl_V} : sl_Go xs N 110 278 [some (.inr (.inr x)), a1, a2, a3, a4, a5, a6, a7, a8] st σ Q ↔ sl_Go xs N 110 279 [some (.inr (.inr x)), a1, a2, a3, a4, a5, a6, a7, a8] (.inr (.inr x) :: st) σ Q := gk_aload rfl rfl
theorem g110_279 {L : sl_L} {i t : Nat} : sl_Go xs N 110 279 L (.inr (.inr (40, i, t)) :: st) σ Q ↔ sl_Go xs N 110 282 L (.inr (.inr (41, 0, 0)) :: st) σ Q := gk_get (g := .inr (41, 0, 0)) rfl rfl rfl
theorem g110_282 {x : Int32} {a0 a2 a3 a4 a5 a6 a7 a8 : Option sl_V} : sl_Go xs N 110 282 [a0, some (.inl x), a2, a3, a4, a5, a6, a7, a8] st σ Q ↔ sl_Go xs N 110 283 [a0, some (.inl x), a2, a3, a4, a5, a6, a7, a8] (.inl x :: st) σ Q := gk_iload rfl rfl
theorem g110_283 {L : sl_L} {j : Int32} {r : sl_R} : sl_Go xs N 110 283 L (.inl j :: .inr (.inr r) :: st) σ Q ↔ (0 ≤ j.toInt ∧ j.toInt < sl_ilen N r) ∧ sl_Go xs N 110 284 L (.inl (sl_rd xs σ r j.toNatClampNeg) :: st) σ Q := gk_iald rfl
theorem g110_284 {L : sl_L} {x0 : Int32} {i t : Nat} : sl_Go xs N 110 284 L (.inl x0 :: .inr (.inr (40, i, t)) :: st) σ Q ↔ sl_cw st ≤ 8 ∧ sl_Go xs N 94 0 [some (.inr (.inr (40, i, t))), some (.inl x0)] [] σ (fun r τ => sl_Go xs N 110 287 L (r.toList ++ st) τ Q) := gk_call rfl (Nat.le_add_left 2 st.length) rfl rfl rfl rfl (Nat.le_of_ble_eq_true rfl)
theorem g110_287 {L : sl_L} {x : Int32} : sl_Go xs N 110 287 L (.inl x :: st) σ Q ↔ (x = 0 → sl_Go xs N 110 303 L st σ Q) ∧ (¬ x = 0 → sl_Go xs N 110 290 L st σ Q) := gk_zeq rfl
theorem g110_290 {x : sl_R} {a1 a2 a3 a4 a5 a6 a7 a8 : Option sl_V} : sl_Go xs N 110 290 [some (.inr (.inr x)), a1, a2, a3, a4, a5, a6, a7, a8] st σ Q ↔ sl_Go xs N 110 291 [some (.inr (.inr x)), a1, a2, a3, a4, a5, a6, a7, a8] (.inr (.inr x) :: st) σ Q := gk_aload rfl rfl
theorem g110_291i {L : sl_L} {x : Int32} : sl_Go xs N 110 291 L (.inl x :: st) σ Q ↔ sl_Go xs N 110 292 L (.inl x :: .inl x :: st) σ Q := gk_dupi rfl
theorem g110_291r {L : sl_L} {x : sl_R} : sl_Go xs N 110 291 L (.inr (.inr x) :: st) σ Q ↔ sl_Go xs N 110 292 L (.inr (.inr x) :: .inr (.inr x) :: st) σ Q := gk_dupr rfl
theorem g110_292 {L : sl_L} {i t : Nat} : sl_Go xs N 110 292 L (.inr (.inr (40, i, t)) :: st) σ Q ↔ sl_Go xs N 110 295 L (.inl (σ 4 0 5) :: st) σ Q := gk_get (g := .inl (4, 0, 5)) rfl rfl rfl
theorem g110_295 {L : sl_L} : sl_Go xs N 110 295 L st σ Q ↔ sl_Go xs N 110 296 L (.inl 1 :: st) σ Q := gk_const rfl
theorem g110_296 {L : sl_L} {x y : Int32} : sl_Go xs N 110 296 L (.inl y :: .inl x :: st) σ Q ↔ sl_Go xs N 110 297 L (.inl (x + y) :: st) σ Q := gk_bin (b := 8) rfl
theorem g110_297 {L : sl_L} {x : Int32} {i t : Nat} : sl_Go xs N 110 297 L (.inl x :: .inr (.inr (40, i, t)) :: st) σ Q ↔ sl_Go xs N 110 300 L st (sl_up σ 4 0 5 x) Q := gk_put0 (q := (4, 0, 5)) rfl rfl rfl
theorem g110_300 {L : sl_L} : sl_Go xs N 110 300 L st σ Q ↔ sl_Go xs N 110 325 L st σ Q := gk_goto rfl
theorem g110_303 {x : sl_R} {a1 a2 a3 a4 a5 a6 a7 a8 : Option sl_V} : sl_Go xs N 110 303 [some (.inr (.inr x)), a1, a2, a3, a4, a5, a6, a7, a8] st σ Q ↔ sl_Go xs N 110 304 [some (.inr (.inr x)), a1, a2, a3, a4, a5, a6, a7, a8] (.inr (.inr x) :: st) σ Q := gk_aload rfl rfl
theorem g110_304i {L : sl_L} {x : Int32} : sl_Go xs N 110 304 L (.inl x :: st) σ Q ↔ sl_Go xs N 110 305 L (.inl x :: .inl x :: st) σ Q := gk_dupi rfl
theorem g110_304r {L : sl_L} {x : sl_R} : sl_Go xs N 110 304 L (.inr (.inr x) :: st) σ Q ↔ sl_Go xs N 110 305 L (.inr (.inr x) :: .inr (.inr x) :: st) σ Q := gk_dupr rfl
theorem g110_305 {L : sl_L} {i t : Nat} : sl_Go xs N 110 305 L (.inr (.inr (40, i, t)) :: st) σ Q ↔ sl_Go xs N 110 308 L (.inl (σ 4 0 6) :: st) σ Q := gk_get (g := .inl (4, 0, 6)) rfl rfl rfl
theorem g110_308 {x : Int32} {a0 a1 a2 a3 a4 a5 a6 a7 : Option sl_V} : sl_Go xs N 110 308 [a0, a1, a2, a3, a4, a5, a6, a7, some (.inl x)] st σ Q ↔ sl_Go xs N 110 310 [a0, a1, a2, a3, a4, a5, a6, a7, some (.inl x)] (.inl x :: st) σ Q := gk_iload rfl rfl
theorem g110_310 {L : sl_L} {x y : Int32} : sl_Go xs N 110 310 L (.inl y :: .inl x :: st) σ Q ↔ sl_Go xs N 110 311 L (.inl (x + y) :: st) σ Q := gk_bin (b := 8) rfl
theorem g110_311 {L : sl_L} {x : Int32} {i t : Nat} : sl_Go xs N 110 311 L (.inl x :: .inr (.inr (40, i, t)) :: st) σ Q ↔ sl_Go xs N 110 314 L st (sl_up σ 4 0 6 x) Q := gk_put0 (q := (4, 0, 6)) rfl rfl rfl
theorem g110_314 {x : sl_R} {a1 a2 a3 a4 a5 a6 a7 a8 : Option sl_V} : sl_Go xs N 110 314 [some (.inr (.inr x)), a1, a2, a3, a4, a5, a6, a7, a8] st σ Q ↔ sl_Go xs N 110 315 [some (.inr (.inr x)), a1, a2, a3, a4, a5, a6, a7, a8] (.inr (.inr x) :: st) σ Q := gk_aload rfl rfl
theorem g110_315 {L : sl_L} {i t : Nat} : sl_Go xs N 110 315 L (.inr (.inr (40, i, t)) :: st) σ Q ↔ sl_Go xs N 110 318 L (.inr (.inr (46, 0, 0)) :: st) σ Q := gk_get (g := .inr (46, 0, 0)) rfl rfl rfl
theorem g110_318 {x : Int32} {a0 a2 a3 a4 a5 a6 a7 a8 : Option sl_V} : sl_Go xs N 110 318 [a0, some (.inl x), a2, a3, a4, a5, a6, a7, a8] st σ Q ↔ sl_Go xs N 110 319 [a0, some (.inl x), a2, a3, a4, a5, a6, a7, a8] (.inl x :: st) σ Q := gk_iload rfl rfl
theorem g110_319 {L : sl_L} {x : sl_R} {y : Int32} : sl_Go xs N 110 319 L (.inl y :: .inr (.inr x) :: st) σ Q ↔ sl_Go xs N 110 320 L (.inl y :: .inr (.inr x) :: .inl y :: .inr (.inr x) :: st) σ Q := gk_dup2 rfl
theorem g110_320 {L : sl_L} {j : Int32} {r : sl_R} : sl_Go xs N 110 320 L (.inl j :: .inr (.inr r) :: st) σ Q ↔ (0 ≤ j.toInt ∧ j.toInt < sl_ilen N r) ∧ sl_Go xs N 110 321 L (.inl (sl_rd xs σ r j.toNatClampNeg) :: st) σ Q := gk_iald rfl
theorem g110_321 {x : Int32} {a0 a1 a2 a3 a4 a5 a6 a7 : Option sl_V} : sl_Go xs N 110 321 [a0, a1, a2, a3, a4, a5, a6, a7, some (.inl x)] st σ Q ↔ sl_Go xs N 110 323 [a0, a1, a2, a3, a4, a5, a6, a7, some (.inl x)] (.inl x :: st) σ Q := gk_iload rfl rfl
theorem g110_323 {L : sl_L} {x y : Int32} : sl_Go xs N 110 323 L (.inl y :: .inl x :: st) σ Q ↔ sl_Go xs N 110 324 L (.inl (x + y) :: st) σ Q := gk_bin (b := 8) rfl
theorem g110_324 {L : sl_L} {j x : Int32} {r : sl_R} : sl_Go xs N 110 324 L (.inl x :: .inl j :: .inr (.inr r) :: st) σ Q ↔ (0 ≤ j.toInt ∧ j.toInt < sl_wlen r 0) ∧ sl_Go xs N 110 325 L st (sl_wr σ r j.toNatClampNeg x) Q := gk_iast rfl
theorem g110_325 {L : sl_L} : sl_Go xs N 110 325 L [] σ Q ↔ Q none σ := gk_vret rfl
theorem g111_0 {x : sl_R} {a1 a2 a3 : Option sl_V} : sl_Go xs N 111 0 [some (.inr (.inr x)), a1, a2, a3] st σ Q ↔ sl_Go xs N 111 1 [some (.inr (.inr x)), a1, a2, a3] (.inr (.inr x) :: st) σ Q := gk_aload rfl rfl
theorem g111_1 {L : sl_L} {i t : Nat} : sl_Go xs N 111 1 L (.inr (.inr (40, i, t)) :: st) σ Q ↔ sl_cw st ≤ 8 ∧ sl_Go xs N 109 0 [some (.inr (.inr (40, i, t)))] [] σ (fun r τ => sl_Go xs N 111 4 L (r.toList ++ st) τ Q) := gk_call rfl (Nat.le_add_left 1 st.length) rfl rfl rfl rfl (Nat.le_of_ble_eq_true rfl)
theorem g111_4 {L : sl_L} : sl_Go xs N 111 4 L st σ Q ↔ sl_Go xs N 111 5 L (.inl 0 :: st) σ Q := gk_const rfl
theorem g111_5n {x : Int32} {a1 a2 a3 : Option sl_V} : sl_Go xs N 111 5 [none, a1, a2, a3] (.inl x :: st) σ Q ↔ sl_Go xs N 111 6 [none, some (.inl x), a2, a3] st σ Q := gk_istore rfl ⟨Nat.le_of_ble_eq_true rfl, rfl⟩ rfl
theorem g111_5i {x : Int32} {z : Int32} {a1 a2 a3 : Option sl_V} : sl_Go xs N 111 5 [some (.inl z), a1, a2, a3] (.inl x :: st) σ Q ↔ sl_Go xs N 111 6 [some (.inl z), some (.inl x), a2, a3] st σ Q := gk_istore rfl ⟨Nat.le_of_ble_eq_true rfl, rfl⟩ rfl
theorem g111_5r {x : Int32} {z : sl_R} {a1 a2 a3 : Option sl_V} : sl_Go xs N 111 5 [some (.inr (.inr z)), a1, a2, a3] (.inl x :: st) σ Q ↔ sl_Go xs N 111 6 [some (.inr (.inr z)), some (.inl x), a2, a3] st σ Q := gk_istore rfl ⟨Nat.le_of_ble_eq_true rfl, rfl⟩ rfl
theorem g111_6 {x : Int32} {a0 a2 a3 : Option sl_V} : sl_Go xs N 111 6 [a0, some (.inl x), a2, a3] st σ Q ↔ sl_Go xs N 111 7 [a0, some (.inl x), a2, a3] (.inl x :: st) σ Q := gk_iload rfl rfl
theorem g111_7 {x : sl_R} {a1 a2 a3 : Option sl_V} : sl_Go xs N 111 7 [some (.inr (.inr x)), a1, a2, a3] st σ Q ↔ sl_Go xs N 111 8 [some (.inr (.inr x)), a1, a2, a3] (.inr (.inr x) :: st) σ Q := gk_aload rfl rfl
theorem g111_8 {L : sl_L} {i t : Nat} : sl_Go xs N 111 8 L (.inr (.inr (40, i, t)) :: st) σ Q ↔ sl_Go xs N 111 11 L (.inl (σ 6 0 0) :: st) σ Q := gk_get (g := .inl (6, 0, 0)) rfl rfl rfl
theorem g111_11 {L : sl_L} {x y : Int32} : sl_Go xs N 111 11 L (.inl y :: .inl x :: st) σ Q ↔ (y ≤ x → sl_Go xs N 111 46 L st σ Q) ∧ (¬ y ≤ x → sl_Go xs N 111 14 L st σ Q) := gk_ige rfl
theorem g111_14 {L : sl_L} : sl_Go xs N 111 14 L st σ Q ↔ sl_Go xs N 111 15 L (.inl 0 :: st) σ Q := gk_const rfl
theorem g111_15n {x : Int32} {a0 a2 a3 : Option sl_V} : sl_Go xs N 111 15 [a0, none, a2, a3] (.inl x :: st) σ Q ↔ sl_Go xs N 111 16 [a0, none, some (.inl x), a3] st σ Q := gk_istore rfl ⟨Nat.le_of_ble_eq_true rfl, rfl⟩ rfl
theorem g111_15i {x : Int32} {z : Int32} {a0 a2 a3 : Option sl_V} : sl_Go xs N 111 15 [a0, some (.inl z), a2, a3] (.inl x :: st) σ Q ↔ sl_Go xs N 111 16 [a0, some (.inl z), some (.inl x), a3] st σ Q := gk_istore rfl ⟨Nat.le_of_ble_eq_true rfl, rfl⟩ rfl
theorem g111_15r {x : Int32} {z : sl_R} {a0 a2 a3 : Option sl_V} : sl_Go xs N 111 15 [a0, some (.inr (.inr z)), a2, a3] (.inl x :: st) σ Q ↔ sl_Go xs N 111 16 [a0, some (.inr (.inr z)), some (.inl x), a3] st σ Q := gk_istore rfl ⟨Nat.le_of_ble_eq_true rfl, rfl⟩ rfl
theorem g111_16 {x : Int32} {a0 a1 a3 : Option sl_V} : sl_Go xs N 111 16 [a0, a1, some (.inl x), a3] st σ Q ↔ sl_Go xs N 111 17 [a0, a1, some (.inl x), a3] (.inl x :: st) σ Q := gk_iload rfl rfl
theorem g111_17 {x : sl_R} {a1 a2 a3 : Option sl_V} : sl_Go xs N 111 17 [some (.inr (.inr x)), a1, a2, a3] st σ Q ↔ sl_Go xs N 111 18 [some (.inr (.inr x)), a1, a2, a3] (.inr (.inr x) :: st) σ Q := gk_aload rfl rfl
theorem g111_18 {L : sl_L} {i t : Nat} : sl_Go xs N 111 18 L (.inr (.inr (40, i, t)) :: st) σ Q ↔ sl_Go xs N 111 21 L (.inr (.inr (42, 0, 0)) :: st) σ Q := gk_get (g := .inr (42, 0, 0)) rfl rfl rfl
theorem g111_21 {x : Int32} {a0 a2 a3 : Option sl_V} : sl_Go xs N 111 21 [a0, some (.inl x), a2, a3] st σ Q ↔ sl_Go xs N 111 22 [a0, some (.inl x), a2, a3] (.inl x :: st) σ Q := gk_iload rfl rfl
theorem g111_22 {L : sl_L} {j : Int32} {r : sl_R} : sl_Go xs N 111 22 L (.inl j :: .inr (.inr r) :: st) σ Q ↔ (0 ≤ j.toInt ∧ j.toInt < sl_ilen N r) ∧ sl_Go xs N 111 23 L (.inl (sl_rd xs σ r j.toNatClampNeg) :: st) σ Q := gk_iald rfl
theorem g111_23 {L : sl_L} : sl_Go xs N 111 23 L st σ Q ↔ sl_Go xs N 111 24 L (.inl 1 :: st) σ Q := gk_const rfl
theorem g111_24 {L : sl_L} {x y : Int32} : sl_Go xs N 111 24 L (.inl y :: .inl x :: st) σ Q ↔ sl_Go xs N 111 25 L (.inl (x - y) :: st) σ Q := gk_bin (b := 9) rfl
theorem g111_25 {L : sl_L} {x y : Int32} : sl_Go xs N 111 25 L (.inl y :: .inl x :: st) σ Q ↔ (y ≤ x → sl_Go xs N 111 40 L st σ Q) ∧ (¬ y ≤ x → sl_Go xs N 111 28 L st σ Q) := gk_ige rfl
theorem g111_28 {x : sl_R} {a1 a2 a3 : Option sl_V} : sl_Go xs N 111 28 [some (.inr (.inr x)), a1, a2, a3] st σ Q ↔ sl_Go xs N 111 29 [some (.inr (.inr x)), a1, a2, a3] (.inr (.inr x) :: st) σ Q := gk_aload rfl rfl
theorem g111_29 {x : Int32} {a0 a2 a3 : Option sl_V} : sl_Go xs N 111 29 [a0, some (.inl x), a2, a3] st σ Q ↔ sl_Go xs N 111 30 [a0, some (.inl x), a2, a3] (.inl x :: st) σ Q := gk_iload rfl rfl
theorem g111_30 {x : Int32} {a0 a1 a3 : Option sl_V} : sl_Go xs N 111 30 [a0, a1, some (.inl x), a3] st σ Q ↔ sl_Go xs N 111 31 [a0, a1, some (.inl x), a3] (.inl x :: st) σ Q := gk_iload rfl rfl
theorem g111_31 {L : sl_L} {x0 : Int32} {x1 : Int32} {i t : Nat} : sl_Go xs N 111 31 L (.inl x1 :: .inl x0 :: .inr (.inr (40, i, t)) :: st) σ Q ↔ sl_cw st ≤ 8 ∧ sl_Go xs N 110 0 [some (.inr (.inr (40, i, t))), some (.inl x0), some (.inl x1), none, none, none, none, none, none] [] σ (fun r τ => sl_Go xs N 111 34 L (r.toList ++ st) τ Q) := gk_call rfl (Nat.le_add_left 3 st.length) rfl rfl rfl rfl (Nat.le_of_ble_eq_true rfl)
theorem g111_34n {x : Int32} {a0 a3 : Option sl_V} : sl_Go xs N 111 34 [a0, none, some (.inl x), a3] st σ Q ↔ sl_Go xs N 111 37 [a0, none, some (.inl (x + 1)), a3] st σ Q := gk_iinc rfl rfl rfl rfl
theorem g111_34i {x : Int32} {z : Int32} {a0 a3 : Option sl_V} : sl_Go xs N 111 34 [a0, some (.inl z), some (.inl x), a3] st σ Q ↔ sl_Go xs N 111 37 [a0, some (.inl z), some (.inl (x + 1)), a3] st σ Q := gk_iinc rfl rfl rfl rfl
theorem g111_34r {x : Int32} {z : sl_R} {a0 a3 : Option sl_V} : sl_Go xs N 111 34 [a0, some (.inr (.inr z)), some (.inl x), a3] st σ Q ↔ sl_Go xs N 111 37 [a0, some (.inr (.inr z)), some (.inl (x + 1)), a3] st σ Q := gk_iinc rfl rfl rfl rfl
theorem g111_37 {L : sl_L} : sl_Go xs N 111 37 L st σ Q ↔ sl_Go xs N 111 16 L st σ Q := gk_goto rfl
theorem g111_40n {x : Int32} {a2 a3 : Option sl_V} : sl_Go xs N 111 40 [none, some (.inl x), a2, a3] st σ Q ↔ sl_Go xs N 111 43 [none, some (.inl (x + 1)), a2, a3] st σ Q := gk_iinc rfl rfl rfl rfl
theorem g111_40i {x : Int32} {z : Int32} {a2 a3 : Option sl_V} : sl_Go xs N 111 40 [some (.inl z), some (.inl x), a2, a3] st σ Q ↔ sl_Go xs N 111 43 [some (.inl z), some (.inl (x + 1)), a2, a3] st σ Q := gk_iinc rfl rfl rfl rfl
theorem g111_40r {x : Int32} {z : sl_R} {a2 a3 : Option sl_V} : sl_Go xs N 111 40 [some (.inr (.inr z)), some (.inl x), a2, a3] st σ Q ↔ sl_Go xs N 111 43 [some (.inr (.inr z)), some (.inl (x + 1)), a2, a3] st σ Q := gk_iinc rfl rfl rfl rfl
theorem g111_43 {L : sl_L} : sl_Go xs N 111 43 L st σ Q ↔ sl_Go xs N 111 6 L st σ Q := gk_goto rfl
theorem g111_46 {L : sl_L} : sl_Go xs N 111 46 L st σ Q ↔ sl_Go xs N 111 47 L (.inl 0 :: st) σ Q := gk_const rfl
theorem g111_47n {x : Int32} {a1 a2 a3 : Option sl_V} : sl_Go xs N 111 47 [none, a1, a2, a3] (.inl x :: st) σ Q ↔ sl_Go xs N 111 48 [none, some (.inl x), a2, a3] st σ Q := gk_istore rfl ⟨Nat.le_of_ble_eq_true rfl, rfl⟩ rfl
theorem g111_47i {x : Int32} {z : Int32} {a1 a2 a3 : Option sl_V} : sl_Go xs N 111 47 [some (.inl z), a1, a2, a3] (.inl x :: st) σ Q ↔ sl_Go xs N 111 48 [some (.inl z), some (.inl x), a2, a3] st σ Q := gk_istore rfl ⟨Nat.le_of_ble_eq_true rfl, rfl⟩ rfl
theorem g111_47r {x : Int32} {z : sl_R} {a1 a2 a3 : Option sl_V} : sl_Go xs N 111 47 [some (.inr (.inr z)), a1, a2, a3] (.inl x :: st) σ Q ↔ sl_Go xs N 111 48 [some (.inr (.inr z)), some (.inl x), a2, a3] st σ Q := gk_istore rfl ⟨Nat.le_of_ble_eq_true rfl, rfl⟩ rfl
theorem g111_48 {x : Int32} {a0 a2 a3 : Option sl_V} : sl_Go xs N 111 48 [a0, some (.inl x), a2, a3] st σ Q ↔ sl_Go xs N 111 49 [a0, some (.inl x), a2, a3] (.inl x :: st) σ Q := gk_iload rfl rfl
theorem g111_49 {x : sl_R} {a1 a2 a3 : Option sl_V} : sl_Go xs N 111 49 [some (.inr (.inr x)), a1, a2, a3] st σ Q ↔ sl_Go xs N 111 50 [some (.inr (.inr x)), a1, a2, a3] (.inr (.inr x) :: st) σ Q := gk_aload rfl rfl
theorem g111_50 {L : sl_L} {i t : Nat} : sl_Go xs N 111 50 L (.inr (.inr (40, i, t)) :: st) σ Q ↔ sl_Go xs N 111 53 L (.inl (σ 6 0 1) :: st) σ Q := gk_get (g := .inl (6, 0, 1)) rfl rfl rfl
theorem g111_53 {L : sl_L} {x y : Int32} : sl_Go xs N 111 53 L (.inl y :: .inl x :: st) σ Q ↔ (y ≤ x → sl_Go xs N 111 194 L st σ Q) ∧ (¬ y ≤ x → sl_Go xs N 111 56 L st σ Q) := gk_ige rfl
theorem g111_56 {L : sl_L} : sl_Go xs N 111 56 L st σ Q ↔ sl_Go xs N 111 58 L (.inl 12 :: st) σ Q := gk_const rfl
theorem g111_58 {x : sl_R} {a1 a2 a3 : Option sl_V} : sl_Go xs N 111 58 [some (.inr (.inr x)), a1, a2, a3] st σ Q ↔ sl_Go xs N 111 59 [some (.inr (.inr x)), a1, a2, a3] (.inr (.inr x) :: st) σ Q := gk_aload rfl rfl
theorem g111_59 {L : sl_L} {i t : Nat} : sl_Go xs N 111 59 L (.inr (.inr (40, i, t)) :: st) σ Q ↔ sl_Go xs N 111 62 L (.inr (.inr (52, 0, 0)) :: st) σ Q := gk_get (g := .inr (52, 0, 0)) rfl rfl rfl
theorem g111_62 {x : Int32} {a0 a2 a3 : Option sl_V} : sl_Go xs N 111 62 [a0, some (.inl x), a2, a3] st σ Q ↔ sl_Go xs N 111 63 [a0, some (.inl x), a2, a3] (.inl x :: st) σ Q := gk_iload rfl rfl
theorem g111_63 {L : sl_L} {j : Int32} {r : sl_R} : sl_Go xs N 111 63 L (.inl j :: .inr (.inr r) :: st) σ Q ↔ (0 ≤ j.toInt ∧ j.toInt < sl_ilen N r) ∧ sl_Go xs N 111 64 L (.inl (sl_rd xs σ r j.toNatClampNeg) :: st) σ Q := gk_iald rfl
theorem g111_64 {L : sl_L} {x y : Int32} : sl_Go xs N 111 64 L (.inl y :: .inl x :: st) σ Q ↔ sl_Go xs N 111 65 L (.inl (x * y) :: st) σ Q := gk_bin (b := 10) rfl
theorem g111_65 {x : sl_R} {a1 a2 a3 : Option sl_V} : sl_Go xs N 111 65 [some (.inr (.inr x)), a1, a2, a3] st σ Q ↔ sl_Go xs N 111 66 [some (.inr (.inr x)), a1, a2, a3] (.inr (.inr x) :: st) σ Q := gk_aload rfl rfl
theorem g111_66 {L : sl_L} {i t : Nat} : sl_Go xs N 111 66 L (.inr (.inr (40, i, t)) :: st) σ Q ↔ sl_Go xs N 111 69 L (.inr (.inr (53, 0, 0)) :: st) σ Q := gk_get (g := .inr (53, 0, 0)) rfl rfl rfl
theorem g111_69 {x : Int32} {a0 a2 a3 : Option sl_V} : sl_Go xs N 111 69 [a0, some (.inl x), a2, a3] st σ Q ↔ sl_Go xs N 111 70 [a0, some (.inl x), a2, a3] (.inl x :: st) σ Q := gk_iload rfl rfl
theorem g111_70 {L : sl_L} {j : Int32} {r : sl_R} : sl_Go xs N 111 70 L (.inl j :: .inr (.inr r) :: st) σ Q ↔ (0 ≤ j.toInt ∧ j.toInt < sl_ilen N r) ∧ sl_Go xs N 111 71 L (.inl (sl_rd xs σ r j.toNatClampNeg) :: st) σ Q := gk_iald rfl
theorem g111_71 {L : sl_L} {x y : Int32} : sl_Go xs N 111 71 L (.inl y :: .inl x :: st) σ Q ↔ sl_Go xs N 111 72 L (.inl (x + y) :: st) σ Q := gk_bin (b := 8) rfl
theorem g111_72n {x : Int32} {a0 a2 a3 : Option sl_V} : sl_Go xs N 111 72 [a0, none, a2, a3] (.inl x :: st) σ Q ↔ sl_Go xs N 111 73 [a0, none, some (.inl x), a3] st σ Q := gk_istore rfl ⟨Nat.le_of_ble_eq_true rfl, rfl⟩ rfl
theorem g111_72i {x : Int32} {z : Int32} {a0 a2 a3 : Option sl_V} : sl_Go xs N 111 72 [a0, some (.inl z), a2, a3] (.inl x :: st) σ Q ↔ sl_Go xs N 111 73 [a0, some (.inl z), some (.inl x), a3] st σ Q := gk_istore rfl ⟨Nat.le_of_ble_eq_true rfl, rfl⟩ rfl
theorem g111_72r {x : Int32} {z : sl_R} {a0 a2 a3 : Option sl_V} : sl_Go xs N 111 72 [a0, some (.inr (.inr z)), a2, a3] (.inl x :: st) σ Q ↔ sl_Go xs N 111 73 [a0, some (.inr (.inr z)), some (.inl x), a3] st σ Q := gk_istore rfl ⟨Nat.le_of_ble_eq_true rfl, rfl⟩ rfl
theorem g111_73 {x : sl_R} {a1 a2 a3 : Option sl_V} : sl_Go xs N 111 73 [some (.inr (.inr x)), a1, a2, a3] st σ Q ↔ sl_Go xs N 111 74 [some (.inr (.inr x)), a1, a2, a3] (.inr (.inr x) :: st) σ Q := gk_aload rfl rfl
theorem g111_74 {L : sl_L} {i t : Nat} : sl_Go xs N 111 74 L (.inr (.inr (40, i, t)) :: st) σ Q ↔ sl_Go xs N 111 77 L (.inr (.inr (54, 0, 0)) :: st) σ Q := gk_get (g := .inr (54, 0, 0)) rfl rfl rfl
theorem g111_77 {x : Int32} {a0 a2 a3 : Option sl_V} : sl_Go xs N 111 77 [a0, some (.inl x), a2, a3] st σ Q ↔ sl_Go xs N 111 78 [a0, some (.inl x), a2, a3] (.inl x :: st) σ Q := gk_iload rfl rfl
theorem g111_78 {L : sl_L} {j : Int32} {r : sl_R} : sl_Go xs N 111 78 L (.inl j :: .inr (.inr r) :: st) σ Q ↔ (0 ≤ j.toInt ∧ j.toInt < sl_ilen N r) ∧ sl_Go xs N 111 79 L (.inl (sl_rd xs σ r j.toNatClampNeg) :: st) σ Q := gk_iald rfl
theorem g111_79 {x : sl_R} {a1 a2 a3 : Option sl_V} : sl_Go xs N 111 79 [some (.inr (.inr x)), a1, a2, a3] st σ Q ↔ sl_Go xs N 111 80 [some (.inr (.inr x)), a1, a2, a3] (.inr (.inr x) :: st) σ Q := gk_aload rfl rfl
theorem g111_80 {L : sl_L} {i t : Nat} : sl_Go xs N 111 80 L (.inr (.inr (40, i, t)) :: st) σ Q ↔ sl_Go xs N 111 83 L (.inr (.inr (47, 0, 0)) :: st) σ Q := gk_get (g := .inr (47, 0, 0)) rfl rfl rfl
theorem g111_83 {x : Int32} {a0 a1 a3 : Option sl_V} : sl_Go xs N 111 83 [a0, a1, some (.inl x), a3] st σ Q ↔ sl_Go xs N 111 84 [a0, a1, some (.inl x), a3] (.inl x :: st) σ Q := gk_iload rfl rfl
theorem g111_84 {L : sl_L} {j : Int32} {r : sl_R} : sl_Go xs N 111 84 L (.inl j :: .inr (.inr r) :: st) σ Q ↔ (0 ≤ j.toInt ∧ j.toInt < sl_ilen N r) ∧ sl_Go xs N 111 85 L (.inl (sl_rd xs σ r j.toNatClampNeg) :: st) σ Q := gk_iald rfl
theorem g111_85 {L : sl_L} {x y : Int32} : sl_Go xs N 111 85 L (.inl y :: .inl x :: st) σ Q ↔ (y ≤ x → sl_Go xs N 111 97 L st σ Q) ∧ (¬ y ≤ x → sl_Go xs N 111 88 L st σ Q) := gk_ige rfl
theorem g111_88 {x : sl_R} {a1 a2 a3 : Option sl_V} : sl_Go xs N 111 88 [some (.inr (.inr x)), a1, a2, a3] st σ Q ↔ sl_Go xs N 111 89 [some (.inr (.inr x)), a1, a2, a3] (.inr (.inr x) :: st) σ Q := gk_aload rfl rfl
theorem g111_89 {L : sl_L} {i t : Nat} : sl_Go xs N 111 89 L (.inr (.inr (40, i, t)) :: st) σ Q ↔ sl_Go xs N 111 92 L (.inr (.inr (54, 0, 0)) :: st) σ Q := gk_get (g := .inr (54, 0, 0)) rfl rfl rfl
theorem g111_92 {x : Int32} {a0 a2 a3 : Option sl_V} : sl_Go xs N 111 92 [a0, some (.inl x), a2, a3] st σ Q ↔ sl_Go xs N 111 93 [a0, some (.inl x), a2, a3] (.inl x :: st) σ Q := gk_iload rfl rfl
theorem g111_93 {L : sl_L} {j : Int32} {r : sl_R} : sl_Go xs N 111 93 L (.inl j :: .inr (.inr r) :: st) σ Q ↔ (0 ≤ j.toInt ∧ j.toInt < sl_ilen N r) ∧ sl_Go xs N 111 94 L (.inl (sl_rd xs σ r j.toNatClampNeg) :: st) σ Q := gk_iald rfl
theorem g111_94 {L : sl_L} : sl_Go xs N 111 94 L st σ Q ↔ sl_Go xs N 111 103 L st σ Q := gk_goto rfl
theorem g111_97 {x : sl_R} {a1 a2 a3 : Option sl_V} : sl_Go xs N 111 97 [some (.inr (.inr x)), a1, a2, a3] st σ Q ↔ sl_Go xs N 111 98 [some (.inr (.inr x)), a1, a2, a3] (.inr (.inr x) :: st) σ Q := gk_aload rfl rfl
theorem g111_98 {L : sl_L} {i t : Nat} : sl_Go xs N 111 98 L (.inr (.inr (40, i, t)) :: st) σ Q ↔ sl_Go xs N 111 101 L (.inr (.inr (47, 0, 0)) :: st) σ Q := gk_get (g := .inr (47, 0, 0)) rfl rfl rfl
theorem g111_101 {x : Int32} {a0 a1 a3 : Option sl_V} : sl_Go xs N 111 101 [a0, a1, some (.inl x), a3] st σ Q ↔ sl_Go xs N 111 102 [a0, a1, some (.inl x), a3] (.inl x :: st) σ Q := gk_iload rfl rfl
theorem g111_102 {L : sl_L} {j : Int32} {r : sl_R} : sl_Go xs N 111 102 L (.inl j :: .inr (.inr r) :: st) σ Q ↔ (0 ≤ j.toInt ∧ j.toInt < sl_ilen N r) ∧ sl_Go xs N 111 103 L (.inl (sl_rd xs σ r j.toNatClampNeg) :: st) σ Q := gk_iald rfl
theorem g111_103n {x : Int32} {a0 a1 a3 : Option sl_V} : sl_Go xs N 111 103 [a0, a1, none, a3] (.inl x :: st) σ Q ↔ sl_Go xs N 111 104 [a0, a1, none, some (.inl x)] st σ Q := gk_istore rfl ⟨Nat.le_of_ble_eq_true rfl, rfl⟩ rfl
theorem g111_103i {x : Int32} {z : Int32} {a0 a1 a3 : Option sl_V} : sl_Go xs N 111 103 [a0, a1, some (.inl z), a3] (.inl x :: st) σ Q ↔ sl_Go xs N 111 104 [a0, a1, some (.inl z), some (.inl x)] st σ Q := gk_istore rfl ⟨Nat.le_of_ble_eq_true rfl, rfl⟩ rfl
theorem g111_103r {x : Int32} {z : sl_R} {a0 a1 a3 : Option sl_V} : sl_Go xs N 111 103 [a0, a1, some (.inr (.inr z)), a3] (.inl x :: st) σ Q ↔ sl_Go xs N 111 104 [a0, a1, some (.inr (.inr z)), some (.inl x)] st σ Q := gk_istore rfl ⟨Nat.le_of_ble_eq_true rfl, rfl⟩ rfl
theorem g111_104 {x : sl_R} {a1 a2 a3 : Option sl_V} : sl_Go xs N 111 104 [some (.inr (.inr x)), a1, a2, a3] st σ Q ↔ sl_Go xs N 111 105 [some (.inr (.inr x)), a1, a2, a3] (.inr (.inr x) :: st) σ Q := gk_aload rfl rfl
theorem g111_105 {L : sl_L} {i t : Nat} : sl_Go xs N 111 105 L (.inr (.inr (40, i, t)) :: st) σ Q ↔ sl_Go xs N 111 108 L (.inr (.inr (47, 0, 0)) :: st) σ Q := gk_get (g := .inr (47, 0, 0)) rfl rfl rfl
theorem g111_108 {x : Int32} {a0 a1 a3 : Option sl_V} : sl_Go xs N 111 108 [a0, a1, some (.inl x), a3] st σ Q ↔ sl_Go xs N 111 109 [a0, a1, some (.inl x), a3] (.inl x :: st) σ Q := gk_iload rfl rfl
theorem g111_109 {L : sl_L} {x : sl_R} {y : Int32} : sl_Go xs N 111 109 L (.inl y :: .inr (.inr x) :: st) σ Q ↔ sl_Go xs N 111 110 L (.inl y :: .inr (.inr x) :: .inl y :: .inr (.inr x) :: st) σ Q := gk_dup2 rfl
theorem g111_110 {L : sl_L} {j : Int32} {r : sl_R} : sl_Go xs N 111 110 L (.inl j :: .inr (.inr r) :: st) σ Q ↔ (0 ≤ j.toInt ∧ j.toInt < sl_ilen N r) ∧ sl_Go xs N 111 111 L (.inl (sl_rd xs σ r j.toNatClampNeg) :: st) σ Q := gk_iald rfl
theorem g111_111 {x : Int32} {a0 a1 a2 : Option sl_V} : sl_Go xs N 111 111 [a0, a1, a2, some (.inl x)] st σ Q ↔ sl_Go xs N 111 112 [a0, a1, a2, some (.inl x)] (.inl x :: st) σ Q := gk_iload rfl rfl
theorem g111_112 {L : sl_L} {x y : Int32} : sl_Go xs N 111 112 L (.inl y :: .inl x :: st) σ Q ↔ sl_Go xs N 111 113 L (.inl (x - y) :: st) σ Q := gk_bin (b := 9) rfl
theorem g111_113 {L : sl_L} {j x : Int32} {r : sl_R} : sl_Go xs N 111 113 L (.inl x :: .inl j :: .inr (.inr r) :: st) σ Q ↔ (0 ≤ j.toInt ∧ j.toInt < sl_wlen r 0) ∧ sl_Go xs N 111 114 L st (sl_wr σ r j.toNatClampNeg x) Q := gk_iast rfl
theorem g111_114 {x : sl_R} {a1 a2 a3 : Option sl_V} : sl_Go xs N 111 114 [some (.inr (.inr x)), a1, a2, a3] st σ Q ↔ sl_Go xs N 111 115 [some (.inr (.inr x)), a1, a2, a3] (.inr (.inr x) :: st) σ Q := gk_aload rfl rfl
theorem g111_115i {L : sl_L} {x : Int32} : sl_Go xs N 111 115 L (.inl x :: st) σ Q ↔ sl_Go xs N 111 116 L (.inl x :: .inl x :: st) σ Q := gk_dupi rfl
theorem g111_115r {L : sl_L} {x : sl_R} : sl_Go xs N 111 115 L (.inr (.inr x) :: st) σ Q ↔ sl_Go xs N 111 116 L (.inr (.inr x) :: .inr (.inr x) :: st) σ Q := gk_dupr rfl
theorem g111_116 {L : sl_L} {i t : Nat} : sl_Go xs N 111 116 L (.inr (.inr (40, i, t)) :: st) σ Q ↔ sl_Go xs N 111 119 L (.inl (σ 4 0 7) :: st) σ Q := gk_get (g := .inl (4, 0, 7)) rfl rfl rfl
theorem g111_119 {x : Int32} {a0 a1 a2 : Option sl_V} : sl_Go xs N 111 119 [a0, a1, a2, some (.inl x)] st σ Q ↔ sl_Go xs N 111 120 [a0, a1, a2, some (.inl x)] (.inl x :: st) σ Q := gk_iload rfl rfl
theorem g111_120 {L : sl_L} {x y : Int32} : sl_Go xs N 111 120 L (.inl y :: .inl x :: st) σ Q ↔ sl_Go xs N 111 121 L (.inl (x + y) :: st) σ Q := gk_bin (b := 8) rfl
theorem g111_121 {L : sl_L} {x : Int32} {i t : Nat} : sl_Go xs N 111 121 L (.inl x :: .inr (.inr (40, i, t)) :: st) σ Q ↔ sl_Go xs N 111 124 L st (sl_up σ 4 0 7 x) Q := gk_put0 (q := (4, 0, 7)) rfl rfl rfl
theorem g111_124 {x : sl_R} {a1 a2 a3 : Option sl_V} : sl_Go xs N 111 124 [some (.inr (.inr x)), a1, a2, a3] st σ Q ↔ sl_Go xs N 111 125 [some (.inr (.inr x)), a1, a2, a3] (.inr (.inr x) :: st) σ Q := gk_aload rfl rfl
theorem g111_125 {L : sl_L} {i t : Nat} : sl_Go xs N 111 125 L (.inr (.inr (40, i, t)) :: st) σ Q ↔ sl_Go xs N 111 128 L (.inr (.inr (46, 0, 0)) :: st) σ Q := gk_get (g := .inr (46, 0, 0)) rfl rfl rfl
theorem g111_128 {x : sl_R} {a1 a2 a3 : Option sl_V} : sl_Go xs N 111 128 [some (.inr (.inr x)), a1, a2, a3] st σ Q ↔ sl_Go xs N 111 129 [some (.inr (.inr x)), a1, a2, a3] (.inr (.inr x) :: st) σ Q := gk_aload rfl rfl
theorem g111_129 {L : sl_L} {i t : Nat} : sl_Go xs N 111 129 L (.inr (.inr (40, i, t)) :: st) σ Q ↔ sl_Go xs N 111 132 L (.inr (.inr (52, 0, 0)) :: st) σ Q := gk_get (g := .inr (52, 0, 0)) rfl rfl rfl
theorem g111_132 {x : Int32} {a0 a2 a3 : Option sl_V} : sl_Go xs N 111 132 [a0, some (.inl x), a2, a3] st σ Q ↔ sl_Go xs N 111 133 [a0, some (.inl x), a2, a3] (.inl x :: st) σ Q := gk_iload rfl rfl
theorem g111_133 {L : sl_L} {j : Int32} {r : sl_R} : sl_Go xs N 111 133 L (.inl j :: .inr (.inr r) :: st) σ Q ↔ (0 ≤ j.toInt ∧ j.toInt < sl_ilen N r) ∧ sl_Go xs N 111 134 L (.inl (sl_rd xs σ r j.toNatClampNeg) :: st) σ Q := gk_iald rfl
theorem g111_134 {L : sl_L} {x : sl_R} {y : Int32} : sl_Go xs N 111 134 L (.inl y :: .inr (.inr x) :: st) σ Q ↔ sl_Go xs N 111 135 L (.inl y :: .inr (.inr x) :: .inl y :: .inr (.inr x) :: st) σ Q := gk_dup2 rfl
theorem g111_135 {L : sl_L} {j : Int32} {r : sl_R} : sl_Go xs N 111 135 L (.inl j :: .inr (.inr r) :: st) σ Q ↔ (0 ≤ j.toInt ∧ j.toInt < sl_ilen N r) ∧ sl_Go xs N 111 136 L (.inl (sl_rd xs σ r j.toNatClampNeg) :: st) σ Q := gk_iald rfl
theorem g111_136 {x : Int32} {a0 a1 a2 : Option sl_V} : sl_Go xs N 111 136 [a0, a1, a2, some (.inl x)] st σ Q ↔ sl_Go xs N 111 137 [a0, a1, a2, some (.inl x)] (.inl x :: st) σ Q := gk_iload rfl rfl
theorem g111_137 {L : sl_L} {x y : Int32} : sl_Go xs N 111 137 L (.inl y :: .inl x :: st) σ Q ↔ sl_Go xs N 111 138 L (.inl (x + y) :: st) σ Q := gk_bin (b := 8) rfl
theorem g111_138 {L : sl_L} {j x : Int32} {r : sl_R} : sl_Go xs N 111 138 L (.inl x :: .inl j :: .inr (.inr r) :: st) σ Q ↔ (0 ≤ j.toInt ∧ j.toInt < sl_wlen r 0) ∧ sl_Go xs N 111 139 L st (sl_wr σ r j.toNatClampNeg x) Q := gk_iast rfl
theorem g111_139 {x : Int32} {a0 a1 a2 : Option sl_V} : sl_Go xs N 111 139 [a0, a1, a2, some (.inl x)] st σ Q ↔ sl_Go xs N 111 140 [a0, a1, a2, some (.inl x)] (.inl x :: st) σ Q := gk_iload rfl rfl
theorem g111_140 {x : sl_R} {a1 a2 a3 : Option sl_V} : sl_Go xs N 111 140 [some (.inr (.inr x)), a1, a2, a3] st σ Q ↔ sl_Go xs N 111 141 [some (.inr (.inr x)), a1, a2, a3] (.inr (.inr x) :: st) σ Q := gk_aload rfl rfl
theorem g111_141 {L : sl_L} {i t : Nat} : sl_Go xs N 111 141 L (.inr (.inr (40, i, t)) :: st) σ Q ↔ sl_Go xs N 111 144 L (.inr (.inr (54, 0, 0)) :: st) σ Q := gk_get (g := .inr (54, 0, 0)) rfl rfl rfl
theorem g111_144 {x : Int32} {a0 a2 a3 : Option sl_V} : sl_Go xs N 111 144 [a0, some (.inl x), a2, a3] st σ Q ↔ sl_Go xs N 111 145 [a0, some (.inl x), a2, a3] (.inl x :: st) σ Q := gk_iload rfl rfl
theorem g111_145 {L : sl_L} {j : Int32} {r : sl_R} : sl_Go xs N 111 145 L (.inl j :: .inr (.inr r) :: st) σ Q ↔ (0 ≤ j.toInt ∧ j.toInt < sl_ilen N r) ∧ sl_Go xs N 111 146 L (.inl (sl_rd xs σ r j.toNatClampNeg) :: st) σ Q := gk_iald rfl
theorem g111_146 {L : sl_L} {x y : Int32} : sl_Go xs N 111 146 L (.inl y :: .inl x :: st) σ Q ↔ (¬ x = y → sl_Go xs N 111 152 L st σ Q) ∧ (x = y → sl_Go xs N 111 149 L st σ Q) := gk_ine rfl
theorem g111_149 {L : sl_L} : sl_Go xs N 111 149 L st σ Q ↔ sl_Go xs N 111 188 L st σ Q := gk_goto rfl
theorem g111_152 {x : sl_R} {a1 a2 a3 : Option sl_V} : sl_Go xs N 111 152 [some (.inr (.inr x)), a1, a2, a3] st σ Q ↔ sl_Go xs N 111 153 [some (.inr (.inr x)), a1, a2, a3] (.inr (.inr x) :: st) σ Q := gk_aload rfl rfl
theorem g111_153 {L : sl_L} {i t : Nat} : sl_Go xs N 111 153 L (.inr (.inr (40, i, t)) :: st) σ Q ↔ sl_Go xs N 111 156 L (.inr (.inr (56, 0, 0)) :: st) σ Q := gk_get (g := .inr (56, 0, 0)) rfl rfl rfl
theorem g111_156 {x : Int32} {a0 a2 a3 : Option sl_V} : sl_Go xs N 111 156 [a0, some (.inl x), a2, a3] st σ Q ↔ sl_Go xs N 111 157 [a0, some (.inl x), a2, a3] (.inl x :: st) σ Q := gk_iload rfl rfl
theorem g111_157 {L : sl_L} {j : Int32} {r : sl_R} : sl_Go xs N 111 157 L (.inl j :: .inr (.inr r) :: st) σ Q ↔ (0 ≤ j.toInt ∧ j.toInt < sl_ilen N r) ∧ sl_Go xs N 111 158 L (.inl (sl_rd xs σ r j.toNatClampNeg) :: st) σ Q := gk_iald rfl
theorem g111_158 {L : sl_L} {x : Int32} : sl_Go xs N 111 158 L (.inl x :: st) σ Q ↔ (0 ≤ x → sl_Go xs N 111 171 L st σ Q) ∧ (¬ 0 ≤ x → sl_Go xs N 111 161 L st σ Q) := gk_zge rfl
theorem g111_161 {x : sl_R} {a1 a2 a3 : Option sl_V} : sl_Go xs N 111 161 [some (.inr (.inr x)), a1, a2, a3] st σ Q ↔ sl_Go xs N 111 162 [some (.inr (.inr x)), a1, a2, a3] (.inr (.inr x) :: st) σ Q := gk_aload rfl rfl
theorem g111_162 {L : sl_L} {i t : Nat} : sl_Go xs N 111 162 L (.inr (.inr (40, i, t)) :: st) σ Q ↔ sl_Go xs N 111 165 L (.inr (.inr (56, 0, 0)) :: st) σ Q := gk_get (g := .inr (56, 0, 0)) rfl rfl rfl
theorem g111_165 {x : Int32} {a0 a2 a3 : Option sl_V} : sl_Go xs N 111 165 [a0, some (.inl x), a2, a3] st σ Q ↔ sl_Go xs N 111 166 [a0, some (.inl x), a2, a3] (.inl x :: st) σ Q := gk_iload rfl rfl
theorem g111_166 {x : sl_R} {a1 a2 a3 : Option sl_V} : sl_Go xs N 111 166 [some (.inr (.inr x)), a1, a2, a3] st σ Q ↔ sl_Go xs N 111 167 [some (.inr (.inr x)), a1, a2, a3] (.inr (.inr x) :: st) σ Q := gk_aload rfl rfl
theorem g111_167 {L : sl_L} {i t : Nat} : sl_Go xs N 111 167 L (.inr (.inr (40, i, t)) :: st) σ Q ↔ sl_Go xs N 111 170 L (.inl (σ 4 0 0) :: st) σ Q := gk_get (g := .inl (4, 0, 0)) rfl rfl rfl
theorem g111_170 {L : sl_L} {j x : Int32} {r : sl_R} : sl_Go xs N 111 170 L (.inl x :: .inl j :: .inr (.inr r) :: st) σ Q ↔ (0 ≤ j.toInt ∧ j.toInt < sl_wlen r 0) ∧ sl_Go xs N 111 171 L st (sl_wr σ r j.toNatClampNeg x) Q := gk_iast rfl
theorem g111_171 {x : sl_R} {a1 a2 a3 : Option sl_V} : sl_Go xs N 111 171 [some (.inr (.inr x)), a1, a2, a3] st σ Q ↔ sl_Go xs N 111 172 [some (.inr (.inr x)), a1, a2, a3] (.inr (.inr x) :: st) σ Q := gk_aload rfl rfl
theorem g111_172 {L : sl_L} {i t : Nat} : sl_Go xs N 111 172 L (.inr (.inr (40, i, t)) :: st) σ Q ↔ sl_Go xs N 111 175 L (.inr (.inr (55, 0, 0)) :: st) σ Q := gk_get (g := .inr (55, 0, 0)) rfl rfl rfl
theorem g111_175 {x : Int32} {a0 a2 a3 : Option sl_V} : sl_Go xs N 111 175 [a0, some (.inl x), a2, a3] st σ Q ↔ sl_Go xs N 111 176 [a0, some (.inl x), a2, a3] (.inl x :: st) σ Q := gk_iload rfl rfl
theorem g111_176 {L : sl_L} {x : sl_R} {y : Int32} : sl_Go xs N 111 176 L (.inl y :: .inr (.inr x) :: st) σ Q ↔ sl_Go xs N 111 177 L (.inl y :: .inr (.inr x) :: .inl y :: .inr (.inr x) :: st) σ Q := gk_dup2 rfl
theorem g111_177 {L : sl_L} {j : Int32} {r : sl_R} : sl_Go xs N 111 177 L (.inl j :: .inr (.inr r) :: st) σ Q ↔ (0 ≤ j.toInt ∧ j.toInt < sl_ilen N r) ∧ sl_Go xs N 111 178 L (.inl (sl_rd xs σ r j.toNatClampNeg) :: st) σ Q := gk_iald rfl
theorem g111_178 {x : sl_R} {a1 a2 a3 : Option sl_V} : sl_Go xs N 111 178 [some (.inr (.inr x)), a1, a2, a3] st σ Q ↔ sl_Go xs N 111 179 [some (.inr (.inr x)), a1, a2, a3] (.inr (.inr x) :: st) σ Q := gk_aload rfl rfl
theorem g111_179 {L : sl_L} {i t : Nat} : sl_Go xs N 111 179 L (.inr (.inr (40, i, t)) :: st) σ Q ↔ sl_Go xs N 111 182 L (.inr (.inr (54, 0, 0)) :: st) σ Q := gk_get (g := .inr (54, 0, 0)) rfl rfl rfl
theorem g111_182 {x : Int32} {a0 a2 a3 : Option sl_V} : sl_Go xs N 111 182 [a0, some (.inl x), a2, a3] st σ Q ↔ sl_Go xs N 111 183 [a0, some (.inl x), a2, a3] (.inl x :: st) σ Q := gk_iload rfl rfl
theorem g111_183 {L : sl_L} {j : Int32} {r : sl_R} : sl_Go xs N 111 183 L (.inl j :: .inr (.inr r) :: st) σ Q ↔ (0 ≤ j.toInt ∧ j.toInt < sl_ilen N r) ∧ sl_Go xs N 111 184 L (.inl (sl_rd xs σ r j.toNatClampNeg) :: st) σ Q := gk_iald rfl
theorem g111_184 {x : Int32} {a0 a1 a2 : Option sl_V} : sl_Go xs N 111 184 [a0, a1, a2, some (.inl x)] st σ Q ↔ sl_Go xs N 111 185 [a0, a1, a2, some (.inl x)] (.inl x :: st) σ Q := gk_iload rfl rfl
theorem g111_185 {L : sl_L} {x y : Int32} : sl_Go xs N 111 185 L (.inl y :: .inl x :: st) σ Q ↔ sl_Go xs N 111 186 L (.inl (x - y) :: st) σ Q := gk_bin (b := 9) rfl
theorem g111_186 {L : sl_L} {x y : Int32} : sl_Go xs N 111 186 L (.inl y :: .inl x :: st) σ Q ↔ sl_Go xs N 111 187 L (.inl (x + y) :: st) σ Q := gk_bin (b := 8) rfl
theorem g111_187 {L : sl_L} {j x : Int32} {r : sl_R} : sl_Go xs N 111 187 L (.inl x :: .inl j :: .inr (.inr r) :: st) σ Q ↔ (0 ≤ j.toInt ∧ j.toInt < sl_wlen r 0) ∧ sl_Go xs N 111 188 L st (sl_wr σ r j.toNatClampNeg x) Q := gk_iast rfl
theorem g111_188n {x : Int32} {a2 a3 : Option sl_V} : sl_Go xs N 111 188 [none, some (.inl x), a2, a3] st σ Q ↔ sl_Go xs N 111 191 [none, some (.inl (x + 1)), a2, a3] st σ Q := gk_iinc rfl rfl rfl rfl
theorem g111_188i {x : Int32} {z : Int32} {a2 a3 : Option sl_V} : sl_Go xs N 111 188 [some (.inl z), some (.inl x), a2, a3] st σ Q ↔ sl_Go xs N 111 191 [some (.inl z), some (.inl (x + 1)), a2, a3] st σ Q := gk_iinc rfl rfl rfl rfl
theorem g111_188r {x : Int32} {z : sl_R} {a2 a3 : Option sl_V} : sl_Go xs N 111 188 [some (.inr (.inr z)), some (.inl x), a2, a3] st σ Q ↔ sl_Go xs N 111 191 [some (.inr (.inr z)), some (.inl (x + 1)), a2, a3] st σ Q := gk_iinc rfl rfl rfl rfl
theorem g111_191 {L : sl_L} : sl_Go xs N 111 191 L st σ Q ↔ sl_Go xs N 111 48 L st σ Q := gk_goto rfl
theorem g111_194 {x : sl_R} {a1 a2 a3 : Option sl_V} : sl_Go xs N 111 194 [some (.inr (.inr x)), a1, a2, a3] st σ Q ↔ sl_Go xs N 111 195 [some (.inr (.inr x)), a1, a2, a3] (.inr (.inr x) :: st) σ Q := gk_aload rfl rfl
theorem g111_195 {x : sl_R} {a1 a2 a3 : Option sl_V} : sl_Go xs N 111 195 [some (.inr (.inr x)), a1, a2, a3] st σ Q ↔ sl_Go xs N 111 196 [some (.inr (.inr x)), a1, a2, a3] (.inr (.inr x) :: st) σ Q := gk_aload rfl rfl
theorem g111_196 {L : sl_L} {i t : Nat} : sl_Go xs N 111 196 L (.inr (.inr (40, i, t)) :: st) σ Q ↔ sl_cw st ≤ 8 ∧ sl_Go xs N 108 0 [some (.inr (.inr (40, i, t)))] [] σ (fun r τ => sl_Go xs N 111 199 L (r.toList ++ st) τ Q) := gk_call rfl (Nat.le_add_left 1 st.length) rfl rfl rfl rfl (Nat.le_of_ble_eq_true rfl)
theorem g111_199 {L : sl_L} {x0 : Int32} {i t : Nat} : sl_Go xs N 111 199 L (.inl x0 :: .inr (.inr (40, i, t)) :: st) σ Q ↔ sl_cw st ≤ 8 ∧ sl_Go xs N 92 0 [some (.inr (.inr (40, i, t))), some (.inl x0)] [] σ (fun r τ => sl_Go xs N 111 202 L (r.toList ++ st) τ Q) := gk_call rfl (Nat.le_add_left 2 st.length) rfl rfl rfl rfl (Nat.le_of_ble_eq_true rfl)
theorem g111_202 {x : sl_R} {a1 a2 a3 : Option sl_V} : sl_Go xs N 111 202 [some (.inr (.inr x)), a1, a2, a3] st σ Q ↔ sl_Go xs N 111 203 [some (.inr (.inr x)), a1, a2, a3] (.inr (.inr x) :: st) σ Q := gk_aload rfl rfl
theorem g111_203 {L : sl_L} {i t : Nat} : sl_Go xs N 111 203 L (.inr (.inr (40, i, t)) :: st) σ Q ↔ sl_Go xs N 111 206 L (.inl (σ 6 0 4) :: st) σ Q := gk_get (g := .inl (6, 0, 4)) rfl rfl rfl
theorem g111_206 {L : sl_L} {x y : Int32} : sl_Go xs N 111 206 L (.inl y :: .inl x :: st) σ Q ↔ (x ≤ y → sl_Go xs N 111 214 L st σ Q) ∧ (¬ x ≤ y → sl_Go xs N 111 209 L st σ Q) := gk_ile rfl
theorem g111_209 {x : sl_R} {a1 a2 a3 : Option sl_V} : sl_Go xs N 111 209 [some (.inr (.inr x)), a1, a2, a3] st σ Q ↔ sl_Go xs N 111 210 [some (.inr (.inr x)), a1, a2, a3] (.inr (.inr x) :: st) σ Q := gk_aload rfl rfl
theorem g111_210 {L : sl_L} : sl_Go xs N 111 210 L st σ Q ↔ sl_Go xs N 111 211 L (.inl 1 :: st) σ Q := gk_const rfl
theorem g111_211 {L : sl_L} {x : Int32} {i t : Nat} : sl_Go xs N 111 211 L (.inl x :: .inr (.inr (40, i, t)) :: st) σ Q ↔ sl_Go xs N 111 214 L st (sl_up σ 4 0 8 x) Q := gk_put0 (q := (4, 0, 8)) rfl rfl rfl
theorem g111_214 {x : sl_R} {a1 a2 a3 : Option sl_V} : sl_Go xs N 111 214 [some (.inr (.inr x)), a1, a2, a3] st σ Q ↔ sl_Go xs N 111 215 [some (.inr (.inr x)), a1, a2, a3] (.inr (.inr x) :: st) σ Q := gk_aload rfl rfl
theorem g111_215i {L : sl_L} {x : Int32} : sl_Go xs N 111 215 L (.inl x :: st) σ Q ↔ sl_Go xs N 111 216 L (.inl x :: .inl x :: st) σ Q := gk_dupi rfl
theorem g111_215r {L : sl_L} {x : sl_R} : sl_Go xs N 111 215 L (.inr (.inr x) :: st) σ Q ↔ sl_Go xs N 111 216 L (.inr (.inr x) :: .inr (.inr x) :: st) σ Q := gk_dupr rfl
theorem g111_216 {L : sl_L} {i t : Nat} : sl_Go xs N 111 216 L (.inr (.inr (40, i, t)) :: st) σ Q ↔ sl_Go xs N 111 219 L (.inl (σ 4 0 0) :: st) σ Q := gk_get (g := .inl (4, 0, 0)) rfl rfl rfl
theorem g111_219 {L : sl_L} : sl_Go xs N 111 219 L st σ Q ↔ sl_Go xs N 111 220 L (.inl 1 :: st) σ Q := gk_const rfl
theorem g111_220 {L : sl_L} {x y : Int32} : sl_Go xs N 111 220 L (.inl y :: .inl x :: st) σ Q ↔ sl_Go xs N 111 221 L (.inl (x + y) :: st) σ Q := gk_bin (b := 8) rfl
theorem g111_221 {L : sl_L} {x : Int32} {i t : Nat} : sl_Go xs N 111 221 L (.inl x :: .inr (.inr (40, i, t)) :: st) σ Q ↔ sl_Go xs N 111 224 L st (sl_up σ 4 0 0 x) Q := gk_put0 (q := (4, 0, 0)) rfl rfl rfl
theorem g111_224 {L : sl_L} : sl_Go xs N 111 224 L [] σ Q ↔ Q none σ := gk_vret rfl
theorem g112_0 {x : sl_R} {a1 a2 : Option sl_V} : sl_Go xs N 112 0 [some (.inr (.inr x)), a1, a2] st σ Q ↔ sl_Go xs N 112 1 [some (.inr (.inr x)), a1, a2] (.inr (.inr x) :: st) σ Q := gk_aload rfl rfl
theorem g112_1 {x : Int32} {a0 a2 : Option sl_V} : sl_Go xs N 112 1 [a0, some (.inl x), a2] st σ Q ↔ sl_Go xs N 112 2 [a0, some (.inl x), a2] (.inl x :: st) σ Q := gk_iload rfl rfl
theorem g112_2 {L : sl_L} : sl_Go xs N 112 2 L st σ Q ↔ sl_Go xs N 112 3 L (.inl 1 :: st) σ Q := gk_const rfl
theorem g112_3 {L : sl_L} : sl_Go xs N 112 3 L st σ Q ↔ sl_Go xs N 112 6 L (.inl 200 :: st) σ Q := gk_const rfl
theorem g112_6 {L : sl_L} {x0 : Int32} {x1 : Int32} {x2 : Int32} {i t : Nat} : sl_Go xs N 112 6 L (.inl x2 :: .inl x1 :: .inl x0 :: .inr (.inr (40, i, t)) :: st) σ Q ↔ sl_cw st ≤ 8 ∧ sl_Go xs N 91 0 [some (.inr (.inr (40, i, t))), some (.inl x0), some (.inl x1), some (.inl x2)] [] σ (fun r τ => sl_Go xs N 112 9 L (r.toList ++ st) τ Q) := gk_call rfl (Nat.le_add_left 4 st.length) rfl rfl rfl rfl (Nat.le_of_ble_eq_true rfl)
theorem g112_9 {L : sl_L} {x : Int32} : sl_Go xs N 112 9 L (.inl x :: st) σ Q ↔ (¬ x = 0 → sl_Go xs N 112 15 L st σ Q) ∧ (x = 0 → sl_Go xs N 112 12 L st σ Q) := gk_zne rfl
theorem g112_12 {L : sl_L} : sl_Go xs N 112 12 L st σ Q ↔ sl_Go xs N 112 14 L (.inl (-2) :: st) σ Q := gk_const rfl
theorem g112_14 {L : sl_L} {x : Int32} : sl_Go xs N 112 14 L [.inl x] σ Q ↔ Q (some (.inl x)) σ := gk_iret rfl
theorem g112_15 {x : sl_R} {a1 a2 : Option sl_V} : sl_Go xs N 112 15 [some (.inr (.inr x)), a1, a2] st σ Q ↔ sl_Go xs N 112 16 [some (.inr (.inr x)), a1, a2] (.inr (.inr x) :: st) σ Q := gk_aload rfl rfl
theorem g112_16 {L : sl_L} {i t : Nat} : sl_Go xs N 112 16 L (.inr (.inr (40, i, t)) :: st) σ Q ↔ sl_Go xs N 112 19 L (.inl (σ 4 0 0) :: st) σ Q := gk_get (g := .inl (4, 0, 0)) rfl rfl rfl
theorem g112_19 {x : Int32} {a0 a2 : Option sl_V} : sl_Go xs N 112 19 [a0, some (.inl x), a2] st σ Q ↔ sl_Go xs N 112 20 [a0, some (.inl x), a2] (.inl x :: st) σ Q := gk_iload rfl rfl
theorem g112_20 {L : sl_L} {x y : Int32} : sl_Go xs N 112 20 L (.inl y :: .inl x :: st) σ Q ↔ sl_Go xs N 112 21 L (.inl (x + y) :: st) σ Q := gk_bin (b := 8) rfl
theorem g112_21 {L : sl_L} : sl_Go xs N 112 21 L st σ Q ↔ sl_Go xs N 112 24 L (.inl 20000 :: st) σ Q := gk_const rfl
theorem g112_24 {L : sl_L} {x y : Int32} : sl_Go xs N 112 24 L (.inl y :: .inl x :: st) σ Q ↔ (x ≤ y → sl_Go xs N 112 30 L st σ Q) ∧ (¬ x ≤ y → sl_Go xs N 112 27 L st σ Q) := gk_ile rfl
theorem g112_27 {L : sl_L} : sl_Go xs N 112 27 L st σ Q ↔ sl_Go xs N 112 29 L (.inl (-4) :: st) σ Q := gk_const rfl
theorem g112_29 {L : sl_L} {x : Int32} : sl_Go xs N 112 29 L [.inl x] σ Q ↔ Q (some (.inl x)) σ := gk_iret rfl
theorem g112_30 {L : sl_L} : sl_Go xs N 112 30 L st σ Q ↔ sl_Go xs N 112 31 L (.inl 0 :: st) σ Q := gk_const rfl
theorem g112_31n {x : Int32} {a0 a2 : Option sl_V} : sl_Go xs N 112 31 [a0, none, a2] (.inl x :: st) σ Q ↔ sl_Go xs N 112 32 [a0, none, some (.inl x)] st σ Q := gk_istore rfl ⟨Nat.le_of_ble_eq_true rfl, rfl⟩ rfl
theorem g112_31i {x : Int32} {z : Int32} {a0 a2 : Option sl_V} : sl_Go xs N 112 31 [a0, some (.inl z), a2] (.inl x :: st) σ Q ↔ sl_Go xs N 112 32 [a0, some (.inl z), some (.inl x)] st σ Q := gk_istore rfl ⟨Nat.le_of_ble_eq_true rfl, rfl⟩ rfl
theorem g112_31r {x : Int32} {z : sl_R} {a0 a2 : Option sl_V} : sl_Go xs N 112 31 [a0, some (.inr (.inr z)), a2] (.inl x :: st) σ Q ↔ sl_Go xs N 112 32 [a0, some (.inr (.inr z)), some (.inl x)] st σ Q := gk_istore rfl ⟨Nat.le_of_ble_eq_true rfl, rfl⟩ rfl
theorem g112_32 {x : Int32} {a0 a1 : Option sl_V} : sl_Go xs N 112 32 [a0, a1, some (.inl x)] st σ Q ↔ sl_Go xs N 112 33 [a0, a1, some (.inl x)] (.inl x :: st) σ Q := gk_iload rfl rfl
theorem g112_33 {x : Int32} {a0 a2 : Option sl_V} : sl_Go xs N 112 33 [a0, some (.inl x), a2] st σ Q ↔ sl_Go xs N 112 34 [a0, some (.inl x), a2] (.inl x :: st) σ Q := gk_iload rfl rfl
theorem g112_34 {L : sl_L} {x y : Int32} : sl_Go xs N 112 34 L (.inl y :: .inl x :: st) σ Q ↔ (y ≤ x → sl_Go xs N 112 47 L st σ Q) ∧ (¬ y ≤ x → sl_Go xs N 112 37 L st σ Q) := gk_ige rfl
theorem g112_37 {x : sl_R} {a1 a2 : Option sl_V} : sl_Go xs N 112 37 [some (.inr (.inr x)), a1, a2] st σ Q ↔ sl_Go xs N 112 38 [some (.inr (.inr x)), a1, a2] (.inr (.inr x) :: st) σ Q := gk_aload rfl rfl
theorem g112_38 {L : sl_L} {i t : Nat} : sl_Go xs N 112 38 L (.inr (.inr (40, i, t)) :: st) σ Q ↔ sl_cw st ≤ 8 ∧ sl_Go xs N 111 0 [some (.inr (.inr (40, i, t))), none, none, none] [] σ (fun r τ => sl_Go xs N 112 41 L (r.toList ++ st) τ Q) := gk_call rfl (Nat.le_add_left 1 st.length) rfl rfl rfl rfl (Nat.le_of_ble_eq_true rfl)
theorem g112_41n {x : Int32} {a0 : Option sl_V} : sl_Go xs N 112 41 [a0, none, some (.inl x)] st σ Q ↔ sl_Go xs N 112 44 [a0, none, some (.inl (x + 1))] st σ Q := gk_iinc rfl rfl rfl rfl
theorem g112_41i {x : Int32} {z : Int32} {a0 : Option sl_V} : sl_Go xs N 112 41 [a0, some (.inl z), some (.inl x)] st σ Q ↔ sl_Go xs N 112 44 [a0, some (.inl z), some (.inl (x + 1))] st σ Q := gk_iinc rfl rfl rfl rfl
theorem g112_41r {x : Int32} {z : sl_R} {a0 : Option sl_V} : sl_Go xs N 112 41 [a0, some (.inr (.inr z)), some (.inl x)] st σ Q ↔ sl_Go xs N 112 44 [a0, some (.inr (.inr z)), some (.inl (x + 1))] st σ Q := gk_iinc rfl rfl rfl rfl
theorem g112_44 {L : sl_L} : sl_Go xs N 112 44 L st σ Q ↔ sl_Go xs N 112 32 L st σ Q := gk_goto rfl
theorem g112_47 {x : sl_R} {a1 a2 : Option sl_V} : sl_Go xs N 112 47 [some (.inr (.inr x)), a1, a2] st σ Q ↔ sl_Go xs N 112 48 [some (.inr (.inr x)), a1, a2] (.inr (.inr x) :: st) σ Q := gk_aload rfl rfl
theorem g112_48 {L : sl_L} {i t : Nat} : sl_Go xs N 112 48 L (.inr (.inr (40, i, t)) :: st) σ Q ↔ sl_Go xs N 112 51 L (.inl (σ 4 0 0) :: st) σ Q := gk_get (g := .inl (4, 0, 0)) rfl rfl rfl
theorem g112_51 {L : sl_L} {x : Int32} : sl_Go xs N 112 51 L [.inl x] σ Q ↔ Q (some (.inl x)) σ := gk_iret rfl
theorem g113_0 {x : sl_R} {a1 a2 a3 a4 : Option sl_V} : sl_Go xs N 113 0 [some (.inr (.inr x)), a1, a2, a3, a4] st σ Q ↔ sl_Go xs N 113 1 [some (.inr (.inr x)), a1, a2, a3, a4] (.inr (.inr x) :: st) σ Q := gk_aload rfl rfl
theorem g113_1 {x : Int32} {a0 a1 a2 a4 : Option sl_V} : sl_Go xs N 113 1 [a0, a1, a2, some (.inl x), a4] st σ Q ↔ sl_Go xs N 113 2 [a0, a1, a2, some (.inl x), a4] (.inl x :: st) σ Q := gk_iload rfl rfl
theorem g113_2 {L : sl_L} : sl_Go xs N 113 2 L st σ Q ↔ sl_Go xs N 113 3 L (.inl 1 :: st) σ Q := gk_const rfl
theorem g113_3 {L : sl_L} : sl_Go xs N 113 3 L st σ Q ↔ sl_Go xs N 113 5 L (.inl 8 :: st) σ Q := gk_const rfl
theorem g113_5 {L : sl_L} {x0 : Int32} {x1 : Int32} {x2 : Int32} {i t : Nat} : sl_Go xs N 113 5 L (.inl x2 :: .inl x1 :: .inl x0 :: .inr (.inr (40, i, t)) :: st) σ Q ↔ sl_cw st ≤ 8 ∧ sl_Go xs N 91 0 [some (.inr (.inr (40, i, t))), some (.inl x0), some (.inl x1), some (.inl x2)] [] σ (fun r τ => sl_Go xs N 113 8 L (r.toList ++ st) τ Q) := gk_call rfl (Nat.le_add_left 4 st.length) rfl rfl rfl rfl (Nat.le_of_ble_eq_true rfl)
theorem g113_8 {L : sl_L} {x : Int32} : sl_Go xs N 113 8 L (.inl x :: st) σ Q ↔ (¬ x = 0 → sl_Go xs N 113 14 L st σ Q) ∧ (x = 0 → sl_Go xs N 113 11 L st σ Q) := gk_zne rfl
theorem g113_11 {L : sl_L} : sl_Go xs N 113 11 L st σ Q ↔ sl_Go xs N 113 13 L (.inl (-2) :: st) σ Q := gk_const rfl
theorem g113_13 {L : sl_L} {x : Int32} : sl_Go xs N 113 13 L [.inl x] σ Q ↔ Q (some (.inl x)) σ := gk_iret rfl
theorem g113_14 {x : sl_R} {a1 a2 a3 a4 : Option sl_V} : sl_Go xs N 113 14 [some (.inr (.inr x)), a1, a2, a3, a4] st σ Q ↔ sl_Go xs N 113 15 [some (.inr (.inr x)), a1, a2, a3, a4] (.inr (.inr x) :: st) σ Q := gk_aload rfl rfl
theorem g113_15 {L : sl_L} {i t : Nat} : sl_Go xs N 113 15 L (.inr (.inr (40, i, t)) :: st) σ Q ↔ sl_Go xs N 113 18 L (.inl (σ 8 0 3) :: st) σ Q := gk_get (g := .inl (8, 0, 3)) rfl rfl rfl
theorem g113_18 {x : Int32} {a0 a1 a2 a4 : Option sl_V} : sl_Go xs N 113 18 [a0, a1, a2, some (.inl x), a4] st σ Q ↔ sl_Go xs N 113 19 [a0, a1, a2, some (.inl x), a4] (.inl x :: st) σ Q := gk_iload rfl rfl
theorem g113_19 {L : sl_L} {x y : Int32} : sl_Go xs N 113 19 L (.inl y :: .inl x :: st) σ Q ↔ sl_Go xs N 113 20 L (.inl (x + y) :: st) σ Q := gk_bin (b := 8) rfl
theorem g113_20 {L : sl_L} : sl_Go xs N 113 20 L st σ Q ↔ sl_Go xs N 113 22 L (.inl 120 :: st) σ Q := gk_const rfl
theorem g113_22 {L : sl_L} {x y : Int32} : sl_Go xs N 113 22 L (.inl y :: .inl x :: st) σ Q ↔ (x ≤ y → sl_Go xs N 113 28 L st σ Q) ∧ (¬ x ≤ y → sl_Go xs N 113 25 L st σ Q) := gk_ile rfl
theorem g113_25 {L : sl_L} : sl_Go xs N 113 25 L st σ Q ↔ sl_Go xs N 113 27 L (.inl (-4) :: st) σ Q := gk_const rfl
theorem g113_27 {L : sl_L} {x : Int32} : sl_Go xs N 113 27 L [.inl x] σ Q ↔ Q (some (.inl x)) σ := gk_iret rfl
theorem g113_28 {x : Int32} {a0 a1 a2 a4 : Option sl_V} : sl_Go xs N 113 28 [a0, a1, a2, some (.inl x), a4] st σ Q ↔ sl_Go xs N 113 29 [a0, a1, a2, some (.inl x), a4] (.inl x :: st) σ Q := gk_iload rfl rfl
theorem g113_29 {L : sl_L} : sl_Go xs N 113 29 L st σ Q ↔ sl_Go xs N 113 30 L (.inl 1 :: st) σ Q := gk_const rfl
theorem g113_30 {L : sl_L} {x y : Int32} : sl_Go xs N 113 30 L (.inl y :: .inl x :: st) σ Q ↔ sl_Go xs N 113 31 L (.inl (x - y) :: st) σ Q := gk_bin (b := 9) rfl
theorem g113_31n {x : Int32} {a0 a1 a2 a4 : Option sl_V} : sl_Go xs N 113 31 [a0, a1, a2, none, a4] (.inl x :: st) σ Q ↔ sl_Go xs N 113 33 [a0, a1, a2, none, some (.inl x)] st σ Q := gk_istore rfl ⟨Nat.le_of_ble_eq_true rfl, rfl⟩ rfl
theorem g113_31i {x : Int32} {z : Int32} {a0 a1 a2 a4 : Option sl_V} : sl_Go xs N 113 31 [a0, a1, a2, some (.inl z), a4] (.inl x :: st) σ Q ↔ sl_Go xs N 113 33 [a0, a1, a2, some (.inl z), some (.inl x)] st σ Q := gk_istore rfl ⟨Nat.le_of_ble_eq_true rfl, rfl⟩ rfl
theorem g113_31r {x : Int32} {z : sl_R} {a0 a1 a2 a4 : Option sl_V} : sl_Go xs N 113 31 [a0, a1, a2, some (.inr (.inr z)), a4] (.inl x :: st) σ Q ↔ sl_Go xs N 113 33 [a0, a1, a2, some (.inr (.inr z)), some (.inl x)] st σ Q := gk_istore rfl ⟨Nat.le_of_ble_eq_true rfl, rfl⟩ rfl
theorem g113_33 {x : Int32} {a0 a1 a2 a3 : Option sl_V} : sl_Go xs N 113 33 [a0, a1, a2, a3, some (.inl x)] st σ Q ↔ sl_Go xs N 113 35 [a0, a1, a2, a3, some (.inl x)] (.inl x :: st) σ Q := gk_iload rfl rfl
theorem g113_35 {L : sl_L} {x : Int32} : sl_Go xs N 113 35 L (.inl x :: st) σ Q ↔ (x < 0 → sl_Go xs N 113 72 L st σ Q) ∧ (¬ x < 0 → sl_Go xs N 113 38 L st σ Q) := gk_zlt rfl
theorem g113_38 {x : sl_R} {a1 a2 a3 a4 : Option sl_V} : sl_Go xs N 113 38 [some (.inr (.inr x)), a1, a2, a3, a4] st σ Q ↔ sl_Go xs N 113 39 [some (.inr (.inr x)), a1, a2, a3, a4] (.inr (.inr x) :: st) σ Q := gk_aload rfl rfl
theorem g113_39 {L : sl_L} {i t : Nat} : sl_Go xs N 113 39 L (.inr (.inr (40, i, t)) :: st) σ Q ↔ sl_Go xs N 113 42 L (.inr (.inr (57, 0, 0)) :: st) σ Q := gk_get (g := .inr (57, 0, 0)) rfl rfl rfl
theorem g113_42 {x : sl_R} {a1 a2 a3 a4 : Option sl_V} : sl_Go xs N 113 42 [some (.inr (.inr x)), a1, a2, a3, a4] st σ Q ↔ sl_Go xs N 113 43 [some (.inr (.inr x)), a1, a2, a3, a4] (.inr (.inr x) :: st) σ Q := gk_aload rfl rfl
theorem g113_43 {L : sl_L} {i t : Nat} : sl_Go xs N 113 43 L (.inr (.inr (40, i, t)) :: st) σ Q ↔ sl_Go xs N 113 46 L (.inl (σ 8 0 3) :: st) σ Q := gk_get (g := .inl (8, 0, 3)) rfl rfl rfl
theorem g113_46 {x : Int64} {a0 a2 a3 a4 : Option sl_V} : sl_Go xs N 113 46 [a0, some (.inr (.inl x)), a2, a3, a4] st σ Q ↔ sl_Go xs N 113 47 [a0, some (.inr (.inl x)), a2, a3, a4] (.inr (.inl x) :: st) σ Q := gk_lload rfl rfl
theorem g113_47 {L : sl_L} : sl_Go xs N 113 47 L st σ Q ↔ sl_Go xs N 113 49 L (.inl 8 :: st) σ Q := gk_const rfl
theorem g113_49 {x : Int32} {a0 a1 a2 a3 : Option sl_V} : sl_Go xs N 113 49 [a0, a1, a2, a3, some (.inl x)] st σ Q ↔ sl_Go xs N 113 51 [a0, a1, a2, a3, some (.inl x)] (.inl x :: st) σ Q := gk_iload rfl rfl
theorem g113_51 {L : sl_L} {x y : Int32} : sl_Go xs N 113 51 L (.inl y :: .inl x :: st) σ Q ↔ sl_Go xs N 113 52 L (.inl (x * y) :: st) σ Q := gk_bin (b := 10) rfl
theorem g113_52 {L : sl_L} {x : Int64} {y : Int32} : sl_Go xs N 113 52 L (.inl y :: .inr (.inl x) :: st) σ Q ↔ sl_Go xs N 113 53 L (.inr (.inl (x >>> (y.toInt64 &&& 63))) :: st) σ Q := gk_lsh (b := 1) rfl
theorem g113_53 {L : sl_L} {x : Int64} : sl_Go xs N 113 53 L (.inr (.inl x) :: st) σ Q ↔ sl_Go xs N 113 54 L (.inl x.toInt32 :: st) σ Q := gk_l2i rfl
theorem g113_54 {L : sl_L} {x : Int32} : sl_Go xs N 113 54 L (.inl x :: st) σ Q ↔ sl_Go xs N 113 55 L (.inl x.toInt8.toInt32 :: st) σ Q := gk_i2b rfl
theorem g113_55 {L : sl_L} {j x : Int32} {r : sl_R} : sl_Go xs N 113 55 L (.inl x :: .inl j :: .inr (.inr r) :: st) σ Q ↔ (0 ≤ j.toInt ∧ j.toInt < sl_wlen r 0) ∧ sl_Go xs N 113 56 L st (sl_wr σ r j.toNatClampNeg x) Q := gk_iast rfl
theorem g113_56 {x : sl_R} {a1 a2 a3 a4 : Option sl_V} : sl_Go xs N 113 56 [some (.inr (.inr x)), a1, a2, a3, a4] st σ Q ↔ sl_Go xs N 113 57 [some (.inr (.inr x)), a1, a2, a3, a4] (.inr (.inr x) :: st) σ Q := gk_aload rfl rfl
theorem g113_57i {L : sl_L} {x : Int32} : sl_Go xs N 113 57 L (.inl x :: st) σ Q ↔ sl_Go xs N 113 58 L (.inl x :: .inl x :: st) σ Q := gk_dupi rfl
theorem g113_57r {L : sl_L} {x : sl_R} : sl_Go xs N 113 57 L (.inr (.inr x) :: st) σ Q ↔ sl_Go xs N 113 58 L (.inr (.inr x) :: .inr (.inr x) :: st) σ Q := gk_dupr rfl
theorem g113_58 {L : sl_L} {i t : Nat} : sl_Go xs N 113 58 L (.inr (.inr (40, i, t)) :: st) σ Q ↔ sl_Go xs N 113 61 L (.inl (σ 8 0 3) :: st) σ Q := gk_get (g := .inl (8, 0, 3)) rfl rfl rfl
theorem g113_61 {L : sl_L} : sl_Go xs N 113 61 L st σ Q ↔ sl_Go xs N 113 62 L (.inl 1 :: st) σ Q := gk_const rfl
theorem g113_62 {L : sl_L} {x y : Int32} : sl_Go xs N 113 62 L (.inl y :: .inl x :: st) σ Q ↔ sl_Go xs N 113 63 L (.inl (x + y) :: st) σ Q := gk_bin (b := 8) rfl
theorem g113_63 {L : sl_L} {x : Int32} {i t : Nat} : sl_Go xs N 113 63 L (.inl x :: .inr (.inr (40, i, t)) :: st) σ Q ↔ sl_Go xs N 113 66 L st (sl_up σ 8 0 3 x) Q := gk_put0 (q := (8, 0, 3)) rfl rfl rfl
theorem g113_66n {x : Int32} {a0 a1 a2 : Option sl_V} : sl_Go xs N 113 66 [a0, a1, a2, none, some (.inl x)] st σ Q ↔ sl_Go xs N 113 69 [a0, a1, a2, none, some (.inl (x + (-1)))] st σ Q := gk_iinc rfl rfl rfl rfl
theorem g113_66i {x : Int32} {z : Int32} {a0 a1 a2 : Option sl_V} : sl_Go xs N 113 66 [a0, a1, a2, some (.inl z), some (.inl x)] st σ Q ↔ sl_Go xs N 113 69 [a0, a1, a2, some (.inl z), some (.inl (x + (-1)))] st σ Q := gk_iinc rfl rfl rfl rfl
theorem g113_66r {x : Int32} {z : sl_R} {a0 a1 a2 : Option sl_V} : sl_Go xs N 113 66 [a0, a1, a2, some (.inr (.inr z)), some (.inl x)] st σ Q ↔ sl_Go xs N 113 69 [a0, a1, a2, some (.inr (.inr z)), some (.inl (x + (-1)))] st σ Q := gk_iinc rfl rfl rfl rfl
theorem g113_69 {L : sl_L} : sl_Go xs N 113 69 L st σ Q ↔ sl_Go xs N 113 33 L st σ Q := gk_goto rfl
theorem g113_72 {x : sl_R} {a1 a2 a3 a4 : Option sl_V} : sl_Go xs N 113 72 [some (.inr (.inr x)), a1, a2, a3, a4] st σ Q ↔ sl_Go xs N 113 73 [some (.inr (.inr x)), a1, a2, a3, a4] (.inr (.inr x) :: st) σ Q := gk_aload rfl rfl
theorem g113_73 {L : sl_L} {i t : Nat} : sl_Go xs N 113 73 L (.inr (.inr (40, i, t)) :: st) σ Q ↔ sl_Go xs N 113 76 L (.inl (σ 8 0 3) :: st) σ Q := gk_get (g := .inl (8, 0, 3)) rfl rfl rfl
theorem g113_76 {L : sl_L} {x : Int32} : sl_Go xs N 113 76 L [.inl x] σ Q ↔ Q (some (.inl x)) σ := gk_iret rfl
theorem g114_0 {x : sl_R} : sl_Go xs N 114 0 [some (.inr (.inr x))] st σ Q ↔ sl_Go xs N 114 1 [some (.inr (.inr x))] (.inr (.inr x) :: st) σ Q := gk_aload rfl rfl
theorem g114_1 {L : sl_L} {i t : Nat} : sl_Go xs N 114 1 L (.inr (.inr (40, i, t)) :: st) σ Q ↔ sl_Go xs N 114 4 L (.inl (σ 8 0 4) :: st) σ Q := gk_get (g := .inl (8, 0, 4)) rfl rfl rfl
theorem g114_4 {x : sl_R} : sl_Go xs N 114 4 [some (.inr (.inr x))] st σ Q ↔ sl_Go xs N 114 5 [some (.inr (.inr x))] (.inr (.inr x) :: st) σ Q := gk_aload rfl rfl
theorem g114_5 {L : sl_L} {i t : Nat} : sl_Go xs N 114 5 L (.inr (.inr (40, i, t)) :: st) σ Q ↔ sl_Go xs N 114 8 L (.inl (σ 8 0 7) :: st) σ Q := gk_get (g := .inl (8, 0, 7)) rfl rfl rfl
theorem g114_8 {L : sl_L} {x y : Int32} : sl_Go xs N 114 8 L (.inl y :: .inl x :: st) σ Q ↔ (y ≤ x → sl_Go xs N 114 23 L st σ Q) ∧ (¬ y ≤ x → sl_Go xs N 114 11 L st σ Q) := gk_ige rfl
theorem g114_11 {x : sl_R} : sl_Go xs N 114 11 [some (.inr (.inr x))] st σ Q ↔ sl_Go xs N 114 12 [some (.inr (.inr x))] (.inr (.inr x) :: st) σ Q := gk_aload rfl rfl
theorem g114_12 {L : sl_L} {i t : Nat} : sl_Go xs N 114 12 L (.inr (.inr (40, i, t)) :: st) σ Q ↔ sl_Go xs N 114 15 L (.inr (.inr (57, 0, 0)) :: st) σ Q := gk_get (g := .inr (57, 0, 0)) rfl rfl rfl
theorem g114_15 {x : sl_R} : sl_Go xs N 114 15 [some (.inr (.inr x))] st σ Q ↔ sl_Go xs N 114 16 [some (.inr (.inr x))] (.inr (.inr x) :: st) σ Q := gk_aload rfl rfl
theorem g114_16 {L : sl_L} {i t : Nat} : sl_Go xs N 114 16 L (.inr (.inr (40, i, t)) :: st) σ Q ↔ sl_Go xs N 114 19 L (.inl (σ 8 0 4) :: st) σ Q := gk_get (g := .inl (8, 0, 4)) rfl rfl rfl
theorem g114_19 {L : sl_L} {j : Int32} {r : sl_R} : sl_Go xs N 114 19 L (.inl j :: .inr (.inr r) :: st) σ Q ↔ (0 ≤ j.toInt ∧ j.toInt < sl_ilen N r) ∧ sl_Go xs N 114 20 L (.inl (sl_rd xs σ r j.toNatClampNeg) :: st) σ Q := gk_iald rfl
theorem g114_20 {L : sl_L} : sl_Go xs N 114 20 L st σ Q ↔ sl_Go xs N 114 24 L st σ Q := gk_goto rfl
theorem g114_23 {L : sl_L} : sl_Go xs N 114 23 L st σ Q ↔ sl_Go xs N 114 24 L (.inl (-1) :: st) σ Q := gk_const rfl
theorem g114_24 {L : sl_L} {x : Int32} : sl_Go xs N 114 24 L [.inl x] σ Q ↔ Q (some (.inl x)) σ := gk_iret rfl
theorem g115_0 {x : sl_R} : sl_Go xs N 115 0 [some (.inr (.inr x))] st σ Q ↔ sl_Go xs N 115 1 [some (.inr (.inr x))] (.inr (.inr x) :: st) σ Q := gk_aload rfl rfl
theorem g115_1 {x : sl_R} : sl_Go xs N 115 1 [some (.inr (.inr x))] st σ Q ↔ sl_Go xs N 115 2 [some (.inr (.inr x))] (.inr (.inr x) :: st) σ Q := gk_aload rfl rfl
theorem g115_2 {L : sl_L} {i t : Nat} : sl_Go xs N 115 2 L (.inr (.inr (40, i, t)) :: st) σ Q ↔ sl_cw st ≤ 8 ∧ sl_Go xs N 114 0 [some (.inr (.inr (40, i, t)))] [] σ (fun r τ => sl_Go xs N 115 5 L (r.toList ++ st) τ Q) := gk_call rfl (Nat.le_add_left 1 st.length) rfl rfl rfl rfl (Nat.le_of_ble_eq_true rfl)
theorem g115_5 {L : sl_L} : sl_Go xs N 115 5 L st σ Q ↔ sl_Go xs N 115 7 L (.inl 48 :: st) σ Q := gk_const rfl
theorem g115_7 {L : sl_L} : sl_Go xs N 115 7 L st σ Q ↔ sl_Go xs N 115 9 L (.inl 57 :: st) σ Q := gk_const rfl
theorem g115_9 {L : sl_L} {x0 : Int32} {x1 : Int32} {x2 : Int32} {i t : Nat} : sl_Go xs N 115 9 L (.inl x2 :: .inl x1 :: .inl x0 :: .inr (.inr (40, i, t)) :: st) σ Q ↔ sl_cw st ≤ 8 ∧ sl_Go xs N 91 0 [some (.inr (.inr (40, i, t))), some (.inl x0), some (.inl x1), some (.inl x2)] [] σ (fun r τ => sl_Go xs N 115 12 L (r.toList ++ st) τ Q) := gk_call rfl (Nat.le_add_left 4 st.length) rfl rfl rfl rfl (Nat.le_of_ble_eq_true rfl)
theorem g115_12 {L : sl_L} {x : Int32} : sl_Go xs N 115 12 L [.inl x] σ Q ↔ (x = 0 ∨ x = 1) ∧ Q (some (.inl x)) σ := gk_zret rfl
theorem g116_0 {x : sl_R} {a1 : Option sl_V} : sl_Go xs N 116 0 [some (.inr (.inr x)), a1] st σ Q ↔ sl_Go xs N 116 1 [some (.inr (.inr x)), a1] (.inr (.inr x) :: st) σ Q := gk_aload rfl rfl
theorem g116_1 {L : sl_L} {i t : Nat} : sl_Go xs N 116 1 L (.inr (.inr (40, i, t)) :: st) σ Q ↔ sl_cw st ≤ 8 ∧ sl_Go xs N 114 0 [some (.inr (.inr (40, i, t)))] [] σ (fun r τ => sl_Go xs N 116 4 L (r.toList ++ st) τ Q) := gk_call rfl (Nat.le_add_left 1 st.length) rfl rfl rfl rfl (Nat.le_of_ble_eq_true rfl)
theorem g116_4 {x : Int32} {a0 : Option sl_V} : sl_Go xs N 116 4 [a0, some (.inl x)] st σ Q ↔ sl_Go xs N 116 5 [a0, some (.inl x)] (.inl x :: st) σ Q := gk_iload rfl rfl
theorem g116_5 {L : sl_L} {x y : Int32} : sl_Go xs N 116 5 L (.inl y :: .inl x :: st) σ Q ↔ (x = y → sl_Go xs N 116 10 L st σ Q) ∧ (¬ x = y → sl_Go xs N 116 8 L st σ Q) := gk_ieq rfl
theorem g116_8 {L : sl_L} : sl_Go xs N 116 8 L st σ Q ↔ sl_Go xs N 116 9 L (.inl 0 :: st) σ Q := gk_const rfl
theorem g116_9 {L : sl_L} {x : Int32} : sl_Go xs N 116 9 L [.inl x] σ Q ↔ (x = 0 ∨ x = 1) ∧ Q (some (.inl x)) σ := gk_zret rfl
theorem g116_10 {x : sl_R} {a1 : Option sl_V} : sl_Go xs N 116 10 [some (.inr (.inr x)), a1] st σ Q ↔ sl_Go xs N 116 11 [some (.inr (.inr x)), a1] (.inr (.inr x) :: st) σ Q := gk_aload rfl rfl
theorem g116_11i {L : sl_L} {x : Int32} : sl_Go xs N 116 11 L (.inl x :: st) σ Q ↔ sl_Go xs N 116 12 L (.inl x :: .inl x :: st) σ Q := gk_dupi rfl
theorem g116_11r {L : sl_L} {x : sl_R} : sl_Go xs N 116 11 L (.inr (.inr x) :: st) σ Q ↔ sl_Go xs N 116 12 L (.inr (.inr x) :: .inr (.inr x) :: st) σ Q := gk_dupr rfl
theorem g116_12 {L : sl_L} {i t : Nat} : sl_Go xs N 116 12 L (.inr (.inr (40, i, t)) :: st) σ Q ↔ sl_Go xs N 116 15 L (.inl (σ 8 0 4) :: st) σ Q := gk_get (g := .inl (8, 0, 4)) rfl rfl rfl
theorem g116_15 {L : sl_L} : sl_Go xs N 116 15 L st σ Q ↔ sl_Go xs N 116 16 L (.inl 1 :: st) σ Q := gk_const rfl
theorem g116_16 {L : sl_L} {x y : Int32} : sl_Go xs N 116 16 L (.inl y :: .inl x :: st) σ Q ↔ sl_Go xs N 116 17 L (.inl (x + y) :: st) σ Q := gk_bin (b := 8) rfl
theorem g116_17 {L : sl_L} {x : Int32} {i t : Nat} : sl_Go xs N 116 17 L (.inl x :: .inr (.inr (40, i, t)) :: st) σ Q ↔ sl_Go xs N 116 20 L st (sl_up σ 8 0 4 x) Q := gk_put0 (q := (8, 0, 4)) rfl rfl rfl
theorem g116_20 {L : sl_L} : sl_Go xs N 116 20 L st σ Q ↔ sl_Go xs N 116 21 L (.inl 1 :: st) σ Q := gk_const rfl
theorem g116_21 {L : sl_L} {x : Int32} : sl_Go xs N 116 21 L [.inl x] σ Q ↔ (x = 0 ∨ x = 1) ∧ Q (some (.inl x)) σ := gk_zret rfl
theorem g117_0 {x : sl_R} : sl_Go xs N 117 0 [some (.inr (.inr x))] st σ Q ↔ sl_Go xs N 117 1 [some (.inr (.inr x))] (.inr (.inr x) :: st) σ Q := gk_aload rfl rfl
theorem g117_1 {L : sl_L} {i t : Nat} : sl_Go xs N 117 1 L (.inr (.inr (40, i, t)) :: st) σ Q ↔ sl_cw st ≤ 8 ∧ sl_Go xs N 115 0 [some (.inr (.inr (40, i, t)))] [] σ (fun r τ => sl_Go xs N 117 4 L (r.toList ++ st) τ Q) := gk_call rfl (Nat.le_add_left 1 st.length) rfl rfl rfl rfl (Nat.le_of_ble_eq_true rfl)
theorem g117_4 {L : sl_L} {x : Int32} : sl_Go xs N 117 4 L (.inl x :: st) σ Q ↔ (¬ x = 0 → sl_Go xs N 117 9 L st σ Q) ∧ (x = 0 → sl_Go xs N 117 7 L st σ Q) := gk_zne rfl
theorem g117_7 {L : sl_L} : sl_Go xs N 117 7 L st σ Q ↔ sl_Go xs N 117 8 L (.inl 0 :: st) σ Q := gk_const rfl
theorem g117_8 {L : sl_L} {x : Int32} : sl_Go xs N 117 8 L [.inl x] σ Q ↔ (x = 0 ∨ x = 1) ∧ Q (some (.inl x)) σ := gk_zret rfl
theorem g117_9 {x : sl_R} : sl_Go xs N 117 9 [some (.inr (.inr x))] st σ Q ↔ sl_Go xs N 117 10 [some (.inr (.inr x))] (.inr (.inr x) :: st) σ Q := gk_aload rfl rfl
theorem g117_10 {x : sl_R} : sl_Go xs N 117 10 [some (.inr (.inr x))] st σ Q ↔ sl_Go xs N 117 11 [some (.inr (.inr x))] (.inr (.inr x) :: st) σ Q := gk_aload rfl rfl
theorem g117_11 {L : sl_L} {i t : Nat} : sl_Go xs N 117 11 L (.inr (.inr (40, i, t)) :: st) σ Q ↔ sl_cw st ≤ 8 ∧ sl_Go xs N 114 0 [some (.inr (.inr (40, i, t)))] [] σ (fun r τ => sl_Go xs N 117 14 L (r.toList ++ st) τ Q) := gk_call rfl (Nat.le_add_left 1 st.length) rfl rfl rfl rfl (Nat.le_of_ble_eq_true rfl)
theorem g117_14 {L : sl_L} : sl_Go xs N 117 14 L st σ Q ↔ sl_Go xs N 117 16 L (.inl 48 :: st) σ Q := gk_const rfl
theorem g117_16 {L : sl_L} {x y : Int32} : sl_Go xs N 117 16 L (.inl y :: .inl x :: st) σ Q ↔ sl_Go xs N 117 17 L (.inl (x - y) :: st) σ Q := gk_bin (b := 9) rfl
theorem g117_17 {L : sl_L} {x : Int32} {i t : Nat} : sl_Go xs N 117 17 L (.inl x :: .inr (.inr (40, i, t)) :: st) σ Q ↔ sl_Go xs N 117 20 L st (sl_up σ 8 0 5 x) Q := gk_put0 (q := (8, 0, 5)) rfl rfl rfl
theorem g117_20 {x : sl_R} : sl_Go xs N 117 20 [some (.inr (.inr x))] st σ Q ↔ sl_Go xs N 117 21 [some (.inr (.inr x))] (.inr (.inr x) :: st) σ Q := gk_aload rfl rfl
theorem g117_21i {L : sl_L} {x : Int32} : sl_Go xs N 117 21 L (.inl x :: st) σ Q ↔ sl_Go xs N 117 22 L (.inl x :: .inl x :: st) σ Q := gk_dupi rfl
theorem g117_21r {L : sl_L} {x : sl_R} : sl_Go xs N 117 21 L (.inr (.inr x) :: st) σ Q ↔ sl_Go xs N 117 22 L (.inr (.inr x) :: .inr (.inr x) :: st) σ Q := gk_dupr rfl
theorem g117_22 {L : sl_L} {i t : Nat} : sl_Go xs N 117 22 L (.inr (.inr (40, i, t)) :: st) σ Q ↔ sl_Go xs N 117 25 L (.inl (σ 8 0 4) :: st) σ Q := gk_get (g := .inl (8, 0, 4)) rfl rfl rfl
theorem g117_25 {L : sl_L} : sl_Go xs N 117 25 L st σ Q ↔ sl_Go xs N 117 26 L (.inl 1 :: st) σ Q := gk_const rfl
theorem g117_26 {L : sl_L} {x y : Int32} : sl_Go xs N 117 26 L (.inl y :: .inl x :: st) σ Q ↔ sl_Go xs N 117 27 L (.inl (x + y) :: st) σ Q := gk_bin (b := 8) rfl
theorem g117_27 {L : sl_L} {x : Int32} {i t : Nat} : sl_Go xs N 117 27 L (.inl x :: .inr (.inr (40, i, t)) :: st) σ Q ↔ sl_Go xs N 117 30 L st (sl_up σ 8 0 4 x) Q := gk_put0 (q := (8, 0, 4)) rfl rfl rfl
theorem g117_30 {x : sl_R} : sl_Go xs N 117 30 [some (.inr (.inr x))] st σ Q ↔ sl_Go xs N 117 31 [some (.inr (.inr x))] (.inr (.inr x) :: st) σ Q := gk_aload rfl rfl
theorem g117_31 {L : sl_L} {i t : Nat} : sl_Go xs N 117 31 L (.inr (.inr (40, i, t)) :: st) σ Q ↔ sl_cw st ≤ 8 ∧ sl_Go xs N 115 0 [some (.inr (.inr (40, i, t)))] [] σ (fun r τ => sl_Go xs N 117 34 L (r.toList ++ st) τ Q) := gk_call rfl (Nat.le_add_left 1 st.length) rfl rfl rfl rfl (Nat.le_of_ble_eq_true rfl)
theorem g117_34 {L : sl_L} {x : Int32} : sl_Go xs N 117 34 L (.inl x :: st) σ Q ↔ (¬ x = 0 → sl_Go xs N 117 39 L st σ Q) ∧ (x = 0 → sl_Go xs N 117 37 L st σ Q) := gk_zne rfl
theorem g117_37 {L : sl_L} : sl_Go xs N 117 37 L st σ Q ↔ sl_Go xs N 117 38 L (.inl 1 :: st) σ Q := gk_const rfl
theorem g117_38 {L : sl_L} {x : Int32} : sl_Go xs N 117 38 L [.inl x] σ Q ↔ (x = 0 ∨ x = 1) ∧ Q (some (.inl x)) σ := gk_zret rfl
theorem g117_39 {x : sl_R} : sl_Go xs N 117 39 [some (.inr (.inr x))] st σ Q ↔ sl_Go xs N 117 40 [some (.inr (.inr x))] (.inr (.inr x) :: st) σ Q := gk_aload rfl rfl
theorem g117_40 {L : sl_L} : sl_Go xs N 117 40 L st σ Q ↔ sl_Go xs N 117 42 L (.inl 10 :: st) σ Q := gk_const rfl
theorem g117_42 {x : sl_R} : sl_Go xs N 117 42 [some (.inr (.inr x))] st σ Q ↔ sl_Go xs N 117 43 [some (.inr (.inr x))] (.inr (.inr x) :: st) σ Q := gk_aload rfl rfl
theorem g117_43 {L : sl_L} {i t : Nat} : sl_Go xs N 117 43 L (.inr (.inr (40, i, t)) :: st) σ Q ↔ sl_Go xs N 117 46 L (.inl (σ 8 0 5) :: st) σ Q := gk_get (g := .inl (8, 0, 5)) rfl rfl rfl
theorem g117_46 {L : sl_L} {x y : Int32} : sl_Go xs N 117 46 L (.inl y :: .inl x :: st) σ Q ↔ sl_Go xs N 117 47 L (.inl (x * y) :: st) σ Q := gk_bin (b := 10) rfl
theorem g117_47 {x : sl_R} : sl_Go xs N 117 47 [some (.inr (.inr x))] st σ Q ↔ sl_Go xs N 117 48 [some (.inr (.inr x))] (.inr (.inr x) :: st) σ Q := gk_aload rfl rfl
theorem g117_48 {L : sl_L} {i t : Nat} : sl_Go xs N 117 48 L (.inr (.inr (40, i, t)) :: st) σ Q ↔ sl_cw st ≤ 8 ∧ sl_Go xs N 114 0 [some (.inr (.inr (40, i, t)))] [] σ (fun r τ => sl_Go xs N 117 51 L (r.toList ++ st) τ Q) := gk_call rfl (Nat.le_add_left 1 st.length) rfl rfl rfl rfl (Nat.le_of_ble_eq_true rfl)
theorem g117_51 {L : sl_L} {x y : Int32} : sl_Go xs N 117 51 L (.inl y :: .inl x :: st) σ Q ↔ sl_Go xs N 117 52 L (.inl (x + y) :: st) σ Q := gk_bin (b := 8) rfl
theorem g117_52 {L : sl_L} : sl_Go xs N 117 52 L st σ Q ↔ sl_Go xs N 117 54 L (.inl 48 :: st) σ Q := gk_const rfl
theorem g117_54 {L : sl_L} {x y : Int32} : sl_Go xs N 117 54 L (.inl y :: .inl x :: st) σ Q ↔ sl_Go xs N 117 55 L (.inl (x - y) :: st) σ Q := gk_bin (b := 9) rfl
theorem g117_55 {L : sl_L} {x : Int32} {i t : Nat} : sl_Go xs N 117 55 L (.inl x :: .inr (.inr (40, i, t)) :: st) σ Q ↔ sl_Go xs N 117 58 L st (sl_up σ 8 0 5 x) Q := gk_put0 (q := (8, 0, 5)) rfl rfl rfl
theorem g117_58 {x : sl_R} : sl_Go xs N 117 58 [some (.inr (.inr x))] st σ Q ↔ sl_Go xs N 117 59 [some (.inr (.inr x))] (.inr (.inr x) :: st) σ Q := gk_aload rfl rfl
theorem g117_59i {L : sl_L} {x : Int32} : sl_Go xs N 117 59 L (.inl x :: st) σ Q ↔ sl_Go xs N 117 60 L (.inl x :: .inl x :: st) σ Q := gk_dupi rfl
theorem g117_59r {L : sl_L} {x : sl_R} : sl_Go xs N 117 59 L (.inr (.inr x) :: st) σ Q ↔ sl_Go xs N 117 60 L (.inr (.inr x) :: .inr (.inr x) :: st) σ Q := gk_dupr rfl
theorem g117_60 {L : sl_L} {i t : Nat} : sl_Go xs N 117 60 L (.inr (.inr (40, i, t)) :: st) σ Q ↔ sl_Go xs N 117 63 L (.inl (σ 8 0 4) :: st) σ Q := gk_get (g := .inl (8, 0, 4)) rfl rfl rfl
theorem g117_63 {L : sl_L} : sl_Go xs N 117 63 L st σ Q ↔ sl_Go xs N 117 64 L (.inl 1 :: st) σ Q := gk_const rfl
theorem g117_64 {L : sl_L} {x y : Int32} : sl_Go xs N 117 64 L (.inl y :: .inl x :: st) σ Q ↔ sl_Go xs N 117 65 L (.inl (x + y) :: st) σ Q := gk_bin (b := 8) rfl
theorem g117_65 {L : sl_L} {x : Int32} {i t : Nat} : sl_Go xs N 117 65 L (.inl x :: .inr (.inr (40, i, t)) :: st) σ Q ↔ sl_Go xs N 117 68 L st (sl_up σ 8 0 4 x) Q := gk_put0 (q := (8, 0, 4)) rfl rfl rfl
theorem g117_68 {L : sl_L} : sl_Go xs N 117 68 L st σ Q ↔ sl_Go xs N 117 69 L (.inl 1 :: st) σ Q := gk_const rfl
theorem g117_69 {L : sl_L} {x : Int32} : sl_Go xs N 117 69 L [.inl x] σ Q ↔ (x = 0 ∨ x = 1) ∧ Q (some (.inl x)) σ := gk_zret rfl
theorem g118_0 {x : sl_R} {a1 a2 a3 a4 : Option sl_V} : sl_Go xs N 118 0 [some (.inr (.inr x)), a1, a2, a3, a4] st σ Q ↔ sl_Go xs N 118 1 [some (.inr (.inr x)), a1, a2, a3, a4] (.inr (.inr x) :: st) σ Q := gk_aload rfl rfl
theorem g118_1 {L : sl_L} {i t : Nat} : sl_Go xs N 118 1 L (.inr (.inr (40, i, t)) :: st) σ Q ↔ sl_cw st ≤ 8 ∧ sl_Go xs N 114 0 [some (.inr (.inr (40, i, t)))] [] σ (fun r τ => sl_Go xs N 118 4 L (r.toList ++ st) τ Q) := gk_call rfl (Nat.le_add_left 1 st.length) rfl rfl rfl rfl (Nat.le_of_ble_eq_true rfl)
theorem g118_4n {x : Int32} {a0 a2 a3 a4 : Option sl_V} : sl_Go xs N 118 4 [a0, none, a2, a3, a4] (.inl x :: st) σ Q ↔ sl_Go xs N 118 5 [a0, none, some (.inl x), a3, a4] st σ Q := gk_istore rfl ⟨Nat.le_of_ble_eq_true rfl, rfl⟩ rfl
theorem g118_4i {x : Int32} {z : Int32} {a0 a2 a3 a4 : Option sl_V} : sl_Go xs N 118 4 [a0, some (.inl z), a2, a3, a4] (.inl x :: st) σ Q ↔ sl_Go xs N 118 5 [a0, some (.inl z), some (.inl x), a3, a4] st σ Q := gk_istore rfl ⟨Nat.le_of_ble_eq_true rfl, rfl⟩ rfl
theorem g118_4r {x : Int32} {z : sl_R} {a0 a2 a3 a4 : Option sl_V} : sl_Go xs N 118 4 [a0, some (.inr (.inr z)), a2, a3, a4] (.inl x :: st) σ Q ↔ sl_Go xs N 118 5 [a0, some (.inr (.inr z)), some (.inl x), a3, a4] st σ Q := gk_istore rfl ⟨Nat.le_of_ble_eq_true rfl, rfl⟩ rfl
theorem g118_5 {x : Int32} {a0 a1 a3 a4 : Option sl_V} : sl_Go xs N 118 5 [a0, a1, some (.inl x), a3, a4] st σ Q ↔ sl_Go xs N 118 6 [a0, a1, some (.inl x), a3, a4] (.inl x :: st) σ Q := gk_iload rfl rfl
theorem g118_6 {L : sl_L} : sl_Go xs N 118 6 L st σ Q ↔ sl_Go xs N 118 8 L (.inl 115 :: st) σ Q := gk_const rfl
theorem g118_8 {L : sl_L} {x y : Int32} : sl_Go xs N 118 8 L (.inl y :: .inl x :: st) σ Q ↔ (x = y → sl_Go xs N 118 23 L st σ Q) ∧ (¬ x = y → sl_Go xs N 118 11 L st σ Q) := gk_ieq rfl
theorem g118_11 {x : Int32} {a0 a1 a3 a4 : Option sl_V} : sl_Go xs N 118 11 [a0, a1, some (.inl x), a3, a4] st σ Q ↔ sl_Go xs N 118 12 [a0, a1, some (.inl x), a3, a4] (.inl x :: st) σ Q := gk_iload rfl rfl
theorem g118_12 {L : sl_L} : sl_Go xs N 118 12 L st σ Q ↔ sl_Go xs N 118 14 L (.inl 108 :: st) σ Q := gk_const rfl
theorem g118_14 {L : sl_L} {x y : Int32} : sl_Go xs N 118 14 L (.inl y :: .inl x :: st) σ Q ↔ (x = y → sl_Go xs N 118 23 L st σ Q) ∧ (¬ x = y → sl_Go xs N 118 17 L st σ Q) := gk_ieq rfl
theorem g118_17 {x : Int32} {a0 a1 a3 a4 : Option sl_V} : sl_Go xs N 118 17 [a0, a1, some (.inl x), a3, a4] st σ Q ↔ sl_Go xs N 118 18 [a0, a1, some (.inl x), a3, a4] (.inl x :: st) σ Q := gk_iload rfl rfl
theorem g118_18 {L : sl_L} : sl_Go xs N 118 18 L st σ Q ↔ sl_Go xs N 118 20 L (.inl 114 :: st) σ Q := gk_const rfl
theorem g118_20 {L : sl_L} {x y : Int32} : sl_Go xs N 118 20 L (.inl y :: .inl x :: st) σ Q ↔ (¬ x = y → sl_Go xs N 118 36 L st σ Q) ∧ (x = y → sl_Go xs N 118 23 L st σ Q) := gk_ine rfl
theorem g118_23 {x : Int32} {a0 a2 a3 a4 : Option sl_V} : sl_Go xs N 118 23 [a0, some (.inl x), a2, a3, a4] st σ Q ↔ sl_Go xs N 118 24 [a0, some (.inl x), a2, a3, a4] (.inl x :: st) σ Q := gk_iload rfl rfl
theorem g118_24 {L : sl_L} {x : Int32} : sl_Go xs N 118 24 L (.inl x :: st) σ Q ↔ (x = 0 → sl_Go xs N 118 38 L st σ Q) ∧ (¬ x = 0 → sl_Go xs N 118 27 L st σ Q) := gk_zeq rfl
theorem g118_27 {x : sl_R} {a1 a2 a3 a4 : Option sl_V} : sl_Go xs N 118 27 [some (.inr (.inr x)), a1, a2, a3, a4] st σ Q ↔ sl_Go xs N 118 28 [some (.inr (.inr x)), a1, a2, a3, a4] (.inr (.inr x) :: st) σ Q := gk_aload rfl rfl
theorem g118_28 {L : sl_L} {i t : Nat} : sl_Go xs N 118 28 L (.inr (.inr (40, i, t)) :: st) σ Q ↔ sl_Go xs N 118 31 L (.inl (σ 8 0 6) :: st) σ Q := gk_get (g := .inl (8, 0, 6)) rfl rfl rfl
theorem g118_31 {L : sl_L} : sl_Go xs N 118 31 L st σ Q ↔ sl_Go xs N 118 33 L (.inl 12 :: st) σ Q := gk_const rfl
theorem g118_33 {L : sl_L} {x y : Int32} : sl_Go xs N 118 33 L (.inl y :: .inl x :: st) σ Q ↔ (¬ x = y → sl_Go xs N 118 38 L st σ Q) ∧ (x = y → sl_Go xs N 118 36 L st σ Q) := gk_ine rfl
theorem g118_36 {L : sl_L} : sl_Go xs N 118 36 L st σ Q ↔ sl_Go xs N 118 37 L (.inl 0 :: st) σ Q := gk_const rfl
theorem g118_37 {L : sl_L} {x : Int32} : sl_Go xs N 118 37 L [.inl x] σ Q ↔ (x = 0 ∨ x = 1) ∧ Q (some (.inl x)) σ := gk_zret rfl
theorem g118_38 {x : sl_R} {a1 a2 a3 a4 : Option sl_V} : sl_Go xs N 118 38 [some (.inr (.inr x)), a1, a2, a3, a4] st σ Q ↔ sl_Go xs N 118 39 [some (.inr (.inr x)), a1, a2, a3, a4] (.inr (.inr x) :: st) σ Q := gk_aload rfl rfl
theorem g118_39i {L : sl_L} {x : Int32} : sl_Go xs N 118 39 L (.inl x :: st) σ Q ↔ sl_Go xs N 118 40 L (.inl x :: .inl x :: st) σ Q := gk_dupi rfl
theorem g118_39r {L : sl_L} {x : sl_R} : sl_Go xs N 118 39 L (.inr (.inr x) :: st) σ Q ↔ sl_Go xs N 118 40 L (.inr (.inr x) :: .inr (.inr x) :: st) σ Q := gk_dupr rfl
theorem g118_40 {L : sl_L} {i t : Nat} : sl_Go xs N 118 40 L (.inr (.inr (40, i, t)) :: st) σ Q ↔ sl_Go xs N 118 43 L (.inl (σ 8 0 4) :: st) σ Q := gk_get (g := .inl (8, 0, 4)) rfl rfl rfl
theorem g118_43 {L : sl_L} : sl_Go xs N 118 43 L st σ Q ↔ sl_Go xs N 118 44 L (.inl 1 :: st) σ Q := gk_const rfl
theorem g118_44 {L : sl_L} {x y : Int32} : sl_Go xs N 118 44 L (.inl y :: .inl x :: st) σ Q ↔ sl_Go xs N 118 45 L (.inl (x + y) :: st) σ Q := gk_bin (b := 8) rfl
theorem g118_45 {L : sl_L} {x : Int32} {i t : Nat} : sl_Go xs N 118 45 L (.inl x :: .inr (.inr (40, i, t)) :: st) σ Q ↔ sl_Go xs N 118 48 L st (sl_up σ 8 0 4 x) Q := gk_put0 (q := (8, 0, 4)) rfl rfl rfl
theorem g118_48 {x : sl_R} {a1 a2 a3 a4 : Option sl_V} : sl_Go xs N 118 48 [some (.inr (.inr x)), a1, a2, a3, a4] st σ Q ↔ sl_Go xs N 118 49 [some (.inr (.inr x)), a1, a2, a3, a4] (.inr (.inr x) :: st) σ Q := gk_aload rfl rfl
theorem g118_49 {L : sl_L} {i t : Nat} : sl_Go xs N 118 49 L (.inr (.inr (40, i, t)) :: st) σ Q ↔ sl_cw st ≤ 8 ∧ sl_Go xs N 117 0 [some (.inr (.inr (40, i, t)))] [] σ (fun r τ => sl_Go xs N 118 52 L (r.toList ++ st) τ Q) := gk_call rfl (Nat.le_add_left 1 st.length) rfl rfl rfl rfl (Nat.le_of_ble_eq_true rfl)
theorem g118_52 {L : sl_L} {x : Int32} : sl_Go xs N 118 52 L (.inl x :: st) σ Q ↔ (¬ x = 0 → sl_Go xs N 118 57 L st σ Q) ∧ (x = 0 → sl_Go xs N 118 55 L st σ Q) := gk_zne rfl
theorem g118_55 {L : sl_L} : sl_Go xs N 118 55 L st σ Q ↔ sl_Go xs N 118 56 L (.inl 0 :: st) σ Q := gk_const rfl
theorem g118_56 {L : sl_L} {x : Int32} : sl_Go xs N 118 56 L [.inl x] σ Q ↔ (x = 0 ∨ x = 1) ∧ Q (some (.inl x)) σ := gk_zret rfl
theorem g118_57 {x : sl_R} {a1 a2 a3 a4 : Option sl_V} : sl_Go xs N 118 57 [some (.inr (.inr x)), a1, a2, a3, a4] st σ Q ↔ sl_Go xs N 118 58 [some (.inr (.inr x)), a1, a2, a3, a4] (.inr (.inr x) :: st) σ Q := gk_aload rfl rfl
theorem g118_58 {L : sl_L} {i t : Nat} : sl_Go xs N 118 58 L (.inr (.inr (40, i, t)) :: st) σ Q ↔ sl_Go xs N 118 61 L (.inl (σ 8 0 5) :: st) σ Q := gk_get (g := .inl (8, 0, 5)) rfl rfl rfl
theorem g118_61n {x : Int32} {a0 a1 a3 a4 : Option sl_V} : sl_Go xs N 118 61 [a0, a1, none, a3, a4] (.inl x :: st) σ Q ↔ sl_Go xs N 118 62 [a0, a1, none, some (.inl x), a4] st σ Q := gk_istore rfl ⟨Nat.le_of_ble_eq_true rfl, rfl⟩ rfl
theorem g118_61i {x : Int32} {z : Int32} {a0 a1 a3 a4 : Option sl_V} : sl_Go xs N 118 61 [a0, a1, some (.inl z), a3, a4] (.inl x :: st) σ Q ↔ sl_Go xs N 118 62 [a0, a1, some (.inl z), some (.inl x), a4] st σ Q := gk_istore rfl ⟨Nat.le_of_ble_eq_true rfl, rfl⟩ rfl
theorem g118_61r {x : Int32} {z : sl_R} {a0 a1 a3 a4 : Option sl_V} : sl_Go xs N 118 61 [a0, a1, some (.inr (.inr z)), a3, a4] (.inl x :: st) σ Q ↔ sl_Go xs N 118 62 [a0, a1, some (.inr (.inr z)), some (.inl x), a4] st σ Q := gk_istore rfl ⟨Nat.le_of_ble_eq_true rfl, rfl⟩ rfl
theorem g118_62 {L : sl_L} : sl_Go xs N 118 62 L st σ Q ↔ sl_Go xs N 118 63 L (.inl 0 :: st) σ Q := gk_const rfl
theorem g118_63n {x : Int32} {a0 a1 a2 a4 : Option sl_V} : sl_Go xs N 118 63 [a0, a1, a2, none, a4] (.inl x :: st) σ Q ↔ sl_Go xs N 118 65 [a0, a1, a2, none, some (.inl x)] st σ Q := gk_istore rfl ⟨Nat.le_of_ble_eq_true rfl, rfl⟩ rfl
theorem g118_63i {x : Int32} {z : Int32} {a0 a1 a2 a4 : Option sl_V} : sl_Go xs N 118 63 [a0, a1, a2, some (.inl z), a4] (.inl x :: st) σ Q ↔ sl_Go xs N 118 65 [a0, a1, a2, some (.inl z), some (.inl x)] st σ Q := gk_istore rfl ⟨Nat.le_of_ble_eq_true rfl, rfl⟩ rfl
theorem g118_63r {x : Int32} {z : sl_R} {a0 a1 a2 a4 : Option sl_V} : sl_Go xs N 118 63 [a0, a1, a2, some (.inr (.inr z)), a4] (.inl x :: st) σ Q ↔ sl_Go xs N 118 65 [a0, a1, a2, some (.inr (.inr z)), some (.inl x)] st σ Q := gk_istore rfl ⟨Nat.le_of_ble_eq_true rfl, rfl⟩ rfl
theorem g118_65 {x : Int32} {a0 a1 a3 a4 : Option sl_V} : sl_Go xs N 118 65 [a0, a1, some (.inl x), a3, a4] st σ Q ↔ sl_Go xs N 118 66 [a0, a1, some (.inl x), a3, a4] (.inl x :: st) σ Q := gk_iload rfl rfl
theorem g118_66 {L : sl_L} : sl_Go xs N 118 66 L st σ Q ↔ sl_Go xs N 118 68 L (.inl 115 :: st) σ Q := gk_const rfl
theorem g118_68 {L : sl_L} {x y : Int32} : sl_Go xs N 118 68 L (.inl y :: .inl x :: st) σ Q ↔ (x = y → sl_Go xs N 118 125 L st σ Q) ∧ (¬ x = y → sl_Go xs N 118 71 L st σ Q) := gk_ieq rfl
theorem g118_71 {x : sl_R} {a1 a2 a3 a4 : Option sl_V} : sl_Go xs N 118 71 [some (.inr (.inr x)), a1, a2, a3, a4] st σ Q ↔ sl_Go xs N 118 72 [some (.inr (.inr x)), a1, a2, a3, a4] (.inr (.inr x) :: st) σ Q := gk_aload rfl rfl
theorem g118_72 {L : sl_L} : sl_Go xs N 118 72 L st σ Q ↔ sl_Go xs N 118 74 L (.inl 120 :: st) σ Q := gk_const rfl
theorem g118_74 {L : sl_L} {x0 : Int32} {i t : Nat} : sl_Go xs N 118 74 L (.inl x0 :: .inr (.inr (40, i, t)) :: st) σ Q ↔ sl_cw st ≤ 8 ∧ sl_Go xs N 116 0 [some (.inr (.inr (40, i, t))), some (.inl x0)] [] σ (fun r τ => sl_Go xs N 118 77 L (r.toList ++ st) τ Q) := gk_call rfl (Nat.le_add_left 2 st.length) rfl rfl rfl rfl (Nat.le_of_ble_eq_true rfl)
theorem g118_77 {L : sl_L} {x : Int32} : sl_Go xs N 118 77 L (.inl x :: st) σ Q ↔ (x = 0 → sl_Go xs N 118 87 L st σ Q) ∧ (¬ x = 0 → sl_Go xs N 118 80 L st σ Q) := gk_zeq rfl
theorem g118_80 {x : sl_R} {a1 a2 a3 a4 : Option sl_V} : sl_Go xs N 118 80 [some (.inr (.inr x)), a1, a2, a3, a4] st σ Q ↔ sl_Go xs N 118 81 [some (.inr (.inr x)), a1, a2, a3, a4] (.inr (.inr x) :: st) σ Q := gk_aload rfl rfl
theorem g118_81 {L : sl_L} {i t : Nat} : sl_Go xs N 118 81 L (.inr (.inr (40, i, t)) :: st) σ Q ↔ sl_cw st ≤ 8 ∧ sl_Go xs N 117 0 [some (.inr (.inr (40, i, t)))] [] σ (fun r τ => sl_Go xs N 118 84 L (r.toList ++ st) τ Q) := gk_call rfl (Nat.le_add_left 1 st.length) rfl rfl rfl rfl (Nat.le_of_ble_eq_true rfl)
theorem g118_84 {L : sl_L} {x : Int32} : sl_Go xs N 118 84 L (.inl x :: st) σ Q ↔ (¬ x = 0 → sl_Go xs N 118 89 L st σ Q) ∧ (x = 0 → sl_Go xs N 118 87 L st σ Q) := gk_zne rfl
theorem g118_87 {L : sl_L} : sl_Go xs N 118 87 L st σ Q ↔ sl_Go xs N 118 88 L (.inl 0 :: st) σ Q := gk_const rfl
theorem g118_88 {L : sl_L} {x : Int32} : sl_Go xs N 118 88 L [.inl x] σ Q ↔ (x = 0 ∨ x = 1) ∧ Q (some (.inl x)) σ := gk_zret rfl
theorem g118_89 {x : sl_R} {a1 a2 a3 a4 : Option sl_V} : sl_Go xs N 118 89 [some (.inr (.inr x)), a1, a2, a3, a4] st σ Q ↔ sl_Go xs N 118 90 [some (.inr (.inr x)), a1, a2, a3, a4] (.inr (.inr x) :: st) σ Q := gk_aload rfl rfl
theorem g118_90 {L : sl_L} {i t : Nat} : sl_Go xs N 118 90 L (.inr (.inr (40, i, t)) :: st) σ Q ↔ sl_Go xs N 118 93 L (.inl (σ 8 0 5) :: st) σ Q := gk_get (g := .inl (8, 0, 5)) rfl rfl rfl
theorem g118_93 {L : sl_L} : sl_Go xs N 118 93 L st σ Q ↔ sl_Go xs N 118 95 L (.inl 50 :: st) σ Q := gk_const rfl
theorem g118_95 {L : sl_L} {x y : Int32} : sl_Go xs N 118 95 L (.inl y :: .inl x :: st) σ Q ↔ (x ≤ y → sl_Go xs N 118 103 L st σ Q) ∧ (¬ x ≤ y → sl_Go xs N 118 98 L st σ Q) := gk_ile rfl
theorem g118_98 {L : sl_L} : sl_Go xs N 118 98 L st σ Q ↔ sl_Go xs N 118 100 L (.inl 50 :: st) σ Q := gk_const rfl
theorem g118_100 {L : sl_L} : sl_Go xs N 118 100 L st σ Q ↔ sl_Go xs N 118 107 L st σ Q := gk_goto rfl
theorem g118_103 {x : sl_R} {a1 a2 a3 a4 : Option sl_V} : sl_Go xs N 118 103 [some (.inr (.inr x)), a1, a2, a3, a4] st σ Q ↔ sl_Go xs N 118 104 [some (.inr (.inr x)), a1, a2, a3, a4] (.inr (.inr x) :: st) σ Q := gk_aload rfl rfl
theorem g118_104 {L : sl_L} {i t : Nat} : sl_Go xs N 118 104 L (.inr (.inr (40, i, t)) :: st) σ Q ↔ sl_Go xs N 118 107 L (.inl (σ 8 0 5) :: st) σ Q := gk_get (g := .inl (8, 0, 5)) rfl rfl rfl
theorem g118_107n {x : Int32} {a0 a1 a2 a4 : Option sl_V} : sl_Go xs N 118 107 [a0, a1, a2, none, a4] (.inl x :: st) σ Q ↔ sl_Go xs N 118 109 [a0, a1, a2, none, some (.inl x)] st σ Q := gk_istore rfl ⟨Nat.le_of_ble_eq_true rfl, rfl⟩ rfl
theorem g118_107i {x : Int32} {z : Int32} {a0 a1 a2 a4 : Option sl_V} : sl_Go xs N 118 107 [a0, a1, a2, some (.inl z), a4] (.inl x :: st) σ Q ↔ sl_Go xs N 118 109 [a0, a1, a2, some (.inl z), some (.inl x)] st σ Q := gk_istore rfl ⟨Nat.le_of_ble_eq_true rfl, rfl⟩ rfl
theorem g118_107r {x : Int32} {z : sl_R} {a0 a1 a2 a4 : Option sl_V} : sl_Go xs N 118 107 [a0, a1, a2, some (.inr (.inr z)), a4] (.inl x :: st) σ Q ↔ sl_Go xs N 118 109 [a0, a1, a2, some (.inr (.inr z)), some (.inl x)] st σ Q := gk_istore rfl ⟨Nat.le_of_ble_eq_true rfl, rfl⟩ rfl
theorem g118_109 {x : Int32} {a0 a1 a3 a4 : Option sl_V} : sl_Go xs N 118 109 [a0, a1, some (.inl x), a3, a4] st σ Q ↔ sl_Go xs N 118 110 [a0, a1, some (.inl x), a3, a4] (.inl x :: st) σ Q := gk_iload rfl rfl
theorem g118_110 {L : sl_L} : sl_Go xs N 118 110 L st σ Q ↔ sl_Go xs N 118 112 L (.inl 108 :: st) σ Q := gk_const rfl
theorem g118_112 {L : sl_L} {x y : Int32} : sl_Go xs N 118 112 L (.inl y :: .inl x :: st) σ Q ↔ (¬ x = y → sl_Go xs N 118 121 L st σ Q) ∧ (x = y → sl_Go xs N 118 115 L st σ Q) := gk_ine rfl
theorem g118_115 {x : Int32} {a0 a1 a2 a3 : Option sl_V} : sl_Go xs N 118 115 [a0, a1, a2, a3, some (.inl x)] st σ Q ↔ sl_Go xs N 118 117 [a0, a1, a2, a3, some (.inl x)] (.inl x :: st) σ Q := gk_iload rfl rfl
theorem g118_117 {L : sl_L} {x : Int32} : sl_Go xs N 118 117 L (.inl x :: st) σ Q ↔ sl_Go xs N 118 118 L (.inl (-x) :: st) σ Q := gk_ineg rfl
theorem g118_118 {L : sl_L} : sl_Go xs N 118 118 L st σ Q ↔ sl_Go xs N 118 123 L st σ Q := gk_goto rfl
theorem g118_121 {x : Int32} {a0 a1 a2 a3 : Option sl_V} : sl_Go xs N 118 121 [a0, a1, a2, a3, some (.inl x)] st σ Q ↔ sl_Go xs N 118 123 [a0, a1, a2, a3, some (.inl x)] (.inl x :: st) σ Q := gk_iload rfl rfl
theorem g118_123n {x : Int32} {a0 a1 a2 a4 : Option sl_V} : sl_Go xs N 118 123 [a0, a1, a2, none, a4] (.inl x :: st) σ Q ↔ sl_Go xs N 118 125 [a0, a1, a2, none, some (.inl x)] st σ Q := gk_istore rfl ⟨Nat.le_of_ble_eq_true rfl, rfl⟩ rfl
theorem g118_123i {x : Int32} {z : Int32} {a0 a1 a2 a4 : Option sl_V} : sl_Go xs N 118 123 [a0, a1, a2, some (.inl z), a4] (.inl x :: st) σ Q ↔ sl_Go xs N 118 125 [a0, a1, a2, some (.inl z), some (.inl x)] st σ Q := gk_istore rfl ⟨Nat.le_of_ble_eq_true rfl, rfl⟩ rfl
theorem g118_123r {x : Int32} {z : sl_R} {a0 a1 a2 a4 : Option sl_V} : sl_Go xs N 118 123 [a0, a1, a2, some (.inr (.inr z)), a4] (.inl x :: st) σ Q ↔ sl_Go xs N 118 125 [a0, a1, a2, some (.inr (.inr z)), some (.inl x)] st σ Q := gk_istore rfl ⟨Nat.le_of_ble_eq_true rfl, rfl⟩ rfl
theorem g118_125 {x : sl_R} {a1 a2 a3 a4 : Option sl_V} : sl_Go xs N 118 125 [some (.inr (.inr x)), a1, a2, a3, a4] st σ Q ↔ sl_Go xs N 118 126 [some (.inr (.inr x)), a1, a2, a3, a4] (.inr (.inr x) :: st) σ Q := gk_aload rfl rfl
theorem g118_126 {L : sl_L} : sl_Go xs N 118 126 L st σ Q ↔ sl_Go xs N 118 128 L (.inl 59 :: st) σ Q := gk_const rfl
theorem g118_128 {L : sl_L} {x0 : Int32} {i t : Nat} : sl_Go xs N 118 128 L (.inl x0 :: .inr (.inr (40, i, t)) :: st) σ Q ↔ sl_cw st ≤ 8 ∧ sl_Go xs N 116 0 [some (.inr (.inr (40, i, t))), some (.inl x0)] [] σ (fun r τ => sl_Go xs N 118 131 L (r.toList ++ st) τ Q) := gk_call rfl (Nat.le_add_left 2 st.length) rfl rfl rfl rfl (Nat.le_of_ble_eq_true rfl)
theorem g118_131 {L : sl_L} {x : Int32} : sl_Go xs N 118 131 L (.inl x :: st) σ Q ↔ (¬ x = 0 → sl_Go xs N 118 136 L st σ Q) ∧ (x = 0 → sl_Go xs N 118 134 L st σ Q) := gk_zne rfl
theorem g118_134 {L : sl_L} : sl_Go xs N 118 134 L st σ Q ↔ sl_Go xs N 118 135 L (.inl 0 :: st) σ Q := gk_const rfl
theorem g118_135 {L : sl_L} {x : Int32} : sl_Go xs N 118 135 L [.inl x] σ Q ↔ (x = 0 ∨ x = 1) ∧ Q (some (.inl x)) σ := gk_zret rfl
theorem g118_136 {x : Int32} {a0 a2 a3 a4 : Option sl_V} : sl_Go xs N 118 136 [a0, some (.inl x), a2, a3, a4] st σ Q ↔ sl_Go xs N 118 137 [a0, some (.inl x), a2, a3, a4] (.inl x :: st) σ Q := gk_iload rfl rfl
theorem g118_137 {L : sl_L} {x : Int32} : sl_Go xs N 118 137 L (.inl x :: st) σ Q ↔ (x = 0 → sl_Go xs N 118 177 L st σ Q) ∧ (¬ x = 0 → sl_Go xs N 118 140 L st σ Q) := gk_zeq rfl
theorem g118_140 {x : sl_R} {a1 a2 a3 a4 : Option sl_V} : sl_Go xs N 118 140 [some (.inr (.inr x)), a1, a2, a3, a4] st σ Q ↔ sl_Go xs N 118 141 [some (.inr (.inr x)), a1, a2, a3, a4] (.inr (.inr x) :: st) σ Q := gk_aload rfl rfl
theorem g118_141 {L : sl_L} {i t : Nat} : sl_Go xs N 118 141 L (.inr (.inr (40, i, t)) :: st) σ Q ↔ sl_Go xs N 118 144 L (.inr (.inr (59, 0, 0)) :: st) σ Q := gk_get (g := .inr (59, 0, 0)) rfl rfl rfl
theorem g118_144 {L : sl_L} : sl_Go xs N 118 144 L st σ Q ↔ sl_Go xs N 118 146 L (.inl 72 :: st) σ Q := gk_const rfl
theorem g118_146 {x : sl_R} {a1 a2 a3 a4 : Option sl_V} : sl_Go xs N 118 146 [some (.inr (.inr x)), a1, a2, a3, a4] st σ Q ↔ sl_Go xs N 118 147 [some (.inr (.inr x)), a1, a2, a3, a4] (.inr (.inr x) :: st) σ Q := gk_aload rfl rfl
theorem g118_147 {L : sl_L} {i t : Nat} : sl_Go xs N 118 147 L (.inr (.inr (40, i, t)) :: st) σ Q ↔ sl_Go xs N 118 150 L (.inl (σ 8 0 6) :: st) σ Q := gk_get (g := .inl (8, 0, 6)) rfl rfl rfl
theorem g118_150 {L : sl_L} {x y : Int32} : sl_Go xs N 118 150 L (.inl y :: .inl x :: st) σ Q ↔ sl_Go xs N 118 151 L (.inl (x + y) :: st) σ Q := gk_bin (b := 8) rfl
theorem g118_151 {x : Int32} {a0 a1 a2 a4 : Option sl_V} : sl_Go xs N 118 151 [a0, a1, a2, some (.inl x), a4] st σ Q ↔ sl_Go xs N 118 152 [a0, a1, a2, some (.inl x), a4] (.inl x :: st) σ Q := gk_iload rfl rfl
theorem g118_152 {L : sl_L} {j x : Int32} {r : sl_R} : sl_Go xs N 118 152 L (.inl x :: .inl j :: .inr (.inr r) :: st) σ Q ↔ (0 ≤ j.toInt ∧ j.toInt < sl_wlen r 0) ∧ sl_Go xs N 118 153 L st (sl_wr σ r j.toNatClampNeg x) Q := gk_iast rfl
theorem g118_153 {x : sl_R} {a1 a2 a3 a4 : Option sl_V} : sl_Go xs N 118 153 [some (.inr (.inr x)), a1, a2, a3, a4] st σ Q ↔ sl_Go xs N 118 154 [some (.inr (.inr x)), a1, a2, a3, a4] (.inr (.inr x) :: st) σ Q := gk_aload rfl rfl
theorem g118_154 {L : sl_L} {i t : Nat} : sl_Go xs N 118 154 L (.inr (.inr (40, i, t)) :: st) σ Q ↔ sl_Go xs N 118 157 L (.inr (.inr (60, 0, 0)) :: st) σ Q := gk_get (g := .inr (60, 0, 0)) rfl rfl rfl
theorem g118_157 {L : sl_L} : sl_Go xs N 118 157 L st σ Q ↔ sl_Go xs N 118 159 L (.inl 72 :: st) σ Q := gk_const rfl
theorem g118_159 {x : sl_R} {a1 a2 a3 a4 : Option sl_V} : sl_Go xs N 118 159 [some (.inr (.inr x)), a1, a2, a3, a4] st σ Q ↔ sl_Go xs N 118 160 [some (.inr (.inr x)), a1, a2, a3, a4] (.inr (.inr x) :: st) σ Q := gk_aload rfl rfl
theorem g118_160 {L : sl_L} {i t : Nat} : sl_Go xs N 118 160 L (.inr (.inr (40, i, t)) :: st) σ Q ↔ sl_Go xs N 118 163 L (.inl (σ 8 0 6) :: st) σ Q := gk_get (g := .inl (8, 0, 6)) rfl rfl rfl
theorem g118_163 {L : sl_L} {x y : Int32} : sl_Go xs N 118 163 L (.inl y :: .inl x :: st) σ Q ↔ sl_Go xs N 118 164 L (.inl (x + y) :: st) σ Q := gk_bin (b := 8) rfl
theorem g118_164 {x : Int32} {a0 a1 a2 a3 : Option sl_V} : sl_Go xs N 118 164 [a0, a1, a2, a3, some (.inl x)] st σ Q ↔ sl_Go xs N 118 166 [a0, a1, a2, a3, some (.inl x)] (.inl x :: st) σ Q := gk_iload rfl rfl
theorem g118_166 {L : sl_L} {j x : Int32} {r : sl_R} : sl_Go xs N 118 166 L (.inl x :: .inl j :: .inr (.inr r) :: st) σ Q ↔ (0 ≤ j.toInt ∧ j.toInt < sl_wlen r 0) ∧ sl_Go xs N 118 167 L st (sl_wr σ r j.toNatClampNeg x) Q := gk_iast rfl
theorem g118_167 {x : sl_R} {a1 a2 a3 a4 : Option sl_V} : sl_Go xs N 118 167 [some (.inr (.inr x)), a1, a2, a3, a4] st σ Q ↔ sl_Go xs N 118 168 [some (.inr (.inr x)), a1, a2, a3, a4] (.inr (.inr x) :: st) σ Q := gk_aload rfl rfl
theorem g118_168i {L : sl_L} {x : Int32} : sl_Go xs N 118 168 L (.inl x :: st) σ Q ↔ sl_Go xs N 118 169 L (.inl x :: .inl x :: st) σ Q := gk_dupi rfl
theorem g118_168r {L : sl_L} {x : sl_R} : sl_Go xs N 118 168 L (.inr (.inr x) :: st) σ Q ↔ sl_Go xs N 118 169 L (.inr (.inr x) :: .inr (.inr x) :: st) σ Q := gk_dupr rfl
theorem g118_169 {L : sl_L} {i t : Nat} : sl_Go xs N 118 169 L (.inr (.inr (40, i, t)) :: st) σ Q ↔ sl_Go xs N 118 172 L (.inl (σ 8 0 6) :: st) σ Q := gk_get (g := .inl (8, 0, 6)) rfl rfl rfl
theorem g118_172 {L : sl_L} : sl_Go xs N 118 172 L st σ Q ↔ sl_Go xs N 118 173 L (.inl 1 :: st) σ Q := gk_const rfl
theorem g118_173 {L : sl_L} {x y : Int32} : sl_Go xs N 118 173 L (.inl y :: .inl x :: st) σ Q ↔ sl_Go xs N 118 174 L (.inl (x + y) :: st) σ Q := gk_bin (b := 8) rfl
theorem g118_174 {L : sl_L} {x : Int32} {i t : Nat} : sl_Go xs N 118 174 L (.inl x :: .inr (.inr (40, i, t)) :: st) σ Q ↔ sl_Go xs N 118 177 L st (sl_up σ 8 0 6 x) Q := gk_put0 (q := (8, 0, 6)) rfl rfl rfl
theorem g118_177 {L : sl_L} : sl_Go xs N 118 177 L st σ Q ↔ sl_Go xs N 118 178 L (.inl 1 :: st) σ Q := gk_const rfl
theorem g118_178 {L : sl_L} {x : Int32} : sl_Go xs N 118 178 L [.inl x] σ Q ↔ (x = 0 ∨ x = 1) ∧ Q (some (.inl x)) σ := gk_zret rfl
end SLI
