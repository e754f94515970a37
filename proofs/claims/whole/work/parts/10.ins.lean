section SLI
variable {xs : Nat → Int32} {N : Nat} {st : List sl_V} {σ : sl_S} {Q : Option sl_V → sl_S → Prop}
theorem g0_0 {L : sl_L} : sl_Go xs N 0 0 L st σ Q ↔ sl_Go xs N 0 1 L (.inl 0 :: st) σ Q := gk_const rfl
theorem g0_1n {x : Int32} {a0 a2 a3 a4 : Option sl_V} : sl_Go xs N 0 1 [a0, none, a2, a3, a4] (.inl x :: st) σ Q ↔ sl_Go xs N 0 2 [a0, none, some (.inl x), a3, a4] st σ Q := gk_istore rfl ⟨Nat.le_of_ble_eq_true rfl, rfl⟩ rfl
theorem g0_1i {x : Int32} {z : Int32} {a0 a2 a3 a4 : Option sl_V} : sl_Go xs N 0 1 [a0, some (.inl z), a2, a3, a4] (.inl x :: st) σ Q ↔ sl_Go xs N 0 2 [a0, some (.inl z), some (.inl x), a3, a4] st σ Q := gk_istore rfl ⟨Nat.le_of_ble_eq_true rfl, rfl⟩ rfl
theorem g0_1r {x : Int32} {z : sl_R} {a0 a2 a3 a4 : Option sl_V} : sl_Go xs N 0 1 [a0, some (.inr (.inr z)), a2, a3, a4] (.inl x :: st) σ Q ↔ sl_Go xs N 0 2 [a0, some (.inr (.inr z)), some (.inl x), a3, a4] st σ Q := gk_istore rfl ⟨Nat.le_of_ble_eq_true rfl, rfl⟩ rfl
theorem g0_2 {x : Int32} {a0 a1 a3 a4 : Option sl_V} : sl_Go xs N 0 2 [a0, a1, some (.inl x), a3, a4] st σ Q ↔ sl_Go xs N 0 3 [a0, a1, some (.inl x), a3, a4] (.inl x :: st) σ Q := gk_iload rfl rfl
theorem g0_3 {x : Int32} {a0 a2 a3 a4 : Option sl_V} : sl_Go xs N 0 3 [a0, some (.inl x), a2, a3, a4] st σ Q ↔ sl_Go xs N 0 4 [a0, some (.inl x), a2, a3, a4] (.inl x :: st) σ Q := gk_iload rfl rfl
theorem g0_4 {L : sl_L} {x y : Int32} : sl_Go xs N 0 4 L (.inl y :: .inl x :: st) σ Q ↔ (y ≤ x → sl_Go xs N 0 27 L st σ Q) ∧ (¬ y ≤ x → sl_Go xs N 0 7 L st σ Q) := gk_ige rfl
theorem g0_7 {x : sl_R} {a1 a2 a3 a4 : Option sl_V} : sl_Go xs N 0 7 [some (.inr (.inr x)), a1, a2, a3, a4] st σ Q ↔ sl_Go xs N 0 8 [some (.inr (.inr x)), a1, a2, a3, a4] (.inr (.inr x) :: st) σ Q := gk_aload rfl rfl
theorem g0_8 {L : sl_L} {i t : Nat} : sl_Go xs N 0 8 L (.inr (.inr (22, i, t)) :: st) σ Q ↔ sl_Go xs N 0 11 L (.inr (.inr (25, 0, 0)) :: st) σ Q := gk_get (g := .inr (25, 0, 0)) rfl rfl rfl
theorem g0_11 {x : Int32} {a0 a1 a3 a4 : Option sl_V} : sl_Go xs N 0 11 [a0, a1, some (.inl x), a3, a4] st σ Q ↔ sl_Go xs N 0 12 [a0, a1, some (.inl x), a3, a4] (.inl x :: st) σ Q := gk_iload rfl rfl
theorem g0_12 {x : Int32} {a0 a1 a3 a4 : Option sl_V} : sl_Go xs N 0 12 [a0, a1, some (.inl x), a3, a4] st σ Q ↔ sl_Go xs N 0 13 [a0, a1, some (.inl x), a3, a4] (.inl x :: st) σ Q := gk_iload rfl rfl
theorem g0_13 {L : sl_L} {j x : Int32} {r : sl_R} : sl_Go xs N 0 13 L (.inl x :: .inl j :: .inr (.inr r) :: st) σ Q ↔ (0 ≤ j.toInt ∧ j.toInt < sl_wlen r 0) ∧ sl_Go xs N 0 14 L st (sl_wr σ r j.toNatClampNeg x) Q := gk_iast rfl
theorem g0_14 {x : sl_R} {a1 a2 a3 a4 : Option sl_V} : sl_Go xs N 0 14 [some (.inr (.inr x)), a1, a2, a3, a4] st σ Q ↔ sl_Go xs N 0 15 [some (.inr (.inr x)), a1, a2, a3, a4] (.inr (.inr x) :: st) σ Q := gk_aload rfl rfl
theorem g0_15 {L : sl_L} {i t : Nat} : sl_Go xs N 0 15 L (.inr (.inr (22, i, t)) :: st) σ Q ↔ sl_Go xs N 0 18 L (.inr (.inr (24, 0, 0)) :: st) σ Q := gk_get (g := .inr (24, 0, 0)) rfl rfl rfl
theorem g0_18 {x : Int32} {a0 a1 a3 a4 : Option sl_V} : sl_Go xs N 0 18 [a0, a1, some (.inl x), a3, a4] st σ Q ↔ sl_Go xs N 0 19 [a0, a1, some (.inl x), a3, a4] (.inl x :: st) σ Q := gk_iload rfl rfl
theorem g0_19 {x : Int32} {a0 a1 a3 a4 : Option sl_V} : sl_Go xs N 0 19 [a0, a1, some (.inl x), a3, a4] st σ Q ↔ sl_Go xs N 0 20 [a0, a1, some (.inl x), a3, a4] (.inl x :: st) σ Q := gk_iload rfl rfl
theorem g0_20 {L : sl_L} {j x : Int32} {r : sl_R} : sl_Go xs N 0 20 L (.inl x :: .inl j :: .inr (.inr r) :: st) σ Q ↔ (0 ≤ j.toInt ∧ j.toInt < sl_wlen r 0) ∧ sl_Go xs N 0 21 L st (sl_wr σ r j.toNatClampNeg x) Q := gk_iast rfl
theorem g0_21n {x : Int32} {a0 a3 a4 : Option sl_V} : sl_Go xs N 0 21 [a0, none, some (.inl x), a3, a4] st σ Q ↔ sl_Go xs N 0 24 [a0, none, some (.inl (x + 1)), a3, a4] st σ Q := gk_iinc rfl rfl rfl rfl
theorem g0_21i {x : Int32} {z : Int32} {a0 a3 a4 : Option sl_V} : sl_Go xs N 0 21 [a0, some (.inl z), some (.inl x), a3, a4] st σ Q ↔ sl_Go xs N 0 24 [a0, some (.inl z), some (.inl (x + 1)), a3, a4] st σ Q := gk_iinc rfl rfl rfl rfl
theorem g0_21r {x : Int32} {z : sl_R} {a0 a3 a4 : Option sl_V} : sl_Go xs N 0 21 [a0, some (.inr (.inr z)), some (.inl x), a3, a4] st σ Q ↔ sl_Go xs N 0 24 [a0, some (.inr (.inr z)), some (.inl (x + 1)), a3, a4] st σ Q := gk_iinc rfl rfl rfl rfl
theorem g0_24 {L : sl_L} : sl_Go xs N 0 24 L st σ Q ↔ sl_Go xs N 0 2 L st σ Q := gk_goto rfl
theorem g0_27 {x : sl_R} {a1 a2 a3 a4 : Option sl_V} : sl_Go xs N 0 27 [some (.inr (.inr x)), a1, a2, a3, a4] st σ Q ↔ sl_Go xs N 0 28 [some (.inr (.inr x)), a1, a2, a3, a4] (.inr (.inr x) :: st) σ Q := gk_aload rfl rfl
theorem g0_28 {x : Int32} {a0 a2 a3 a4 : Option sl_V} : sl_Go xs N 0 28 [a0, some (.inl x), a2, a3, a4] st σ Q ↔ sl_Go xs N 0 29 [a0, some (.inl x), a2, a3, a4] (.inl x :: st) σ Q := gk_iload rfl rfl
theorem g0_29 {L : sl_L} {o : sl_R} {x0 : Int32} : sl_Go xs N 0 29 L (.inl x0 :: .inr (.inr o) :: st) σ Q ↔ sl_cw st ≤ 8 ∧ sl_Go xs N 1 0 [some (.inr (.inr o)), some (.inl x0), none, none, none] [] σ (fun r τ => sl_Go xs N 0 32 L (r.toList ++ st) τ Q) := gk_call rfl (Nat.le_add_left 2 st.length) rfl rfl rfl
theorem g0_32n {x : Int32} {a0 a2 a3 a4 : Option sl_V} : sl_Go xs N 0 32 [a0, none, a2, a3, a4] (.inl x :: st) σ Q ↔ sl_Go xs N 0 33 [a0, none, some (.inl x), a3, a4] st σ Q := gk_istore rfl ⟨Nat.le_of_ble_eq_true rfl, rfl⟩ rfl
theorem g0_32i {x : Int32} {z : Int32} {a0 a2 a3 a4 : Option sl_V} : sl_Go xs N 0 32 [a0, some (.inl z), a2, a3, a4] (.inl x :: st) σ Q ↔ sl_Go xs N 0 33 [a0, some (.inl z), some (.inl x), a3, a4] st σ Q := gk_istore rfl ⟨Nat.le_of_ble_eq_true rfl, rfl⟩ rfl
theorem g0_32r {x : Int32} {z : sl_R} {a0 a2 a3 a4 : Option sl_V} : sl_Go xs N 0 32 [a0, some (.inr (.inr z)), a2, a3, a4] (.inl x :: st) σ Q ↔ sl_Go xs N 0 33 [a0, some (.inr (.inr z)), some (.inl x), a3, a4] st σ Q := gk_istore rfl ⟨Nat.le_of_ble_eq_true rfl, rfl⟩ rfl
theorem g0_33 {L : sl_L} : sl_Go xs N 0 33 L st σ Q ↔ sl_Go xs N 0 34 L (.inl 1 :: st) σ Q := gk_const rfl
theorem g0_34n {x : Int32} {a0 a1 a3 a4 : Option sl_V} : sl_Go xs N 0 34 [a0, a1, none, a3, a4] (.inl x :: st) σ Q ↔ sl_Go xs N 0 35 [a0, a1, none, some (.inl x), a4] st σ Q := gk_istore rfl ⟨Nat.le_of_ble_eq_true rfl, rfl⟩ rfl
theorem g0_34i {x : Int32} {z : Int32} {a0 a1 a3 a4 : Option sl_V} : sl_Go xs N 0 34 [a0, a1, some (.inl z), a3, a4] (.inl x :: st) σ Q ↔ sl_Go xs N 0 35 [a0, a1, some (.inl z), some (.inl x), a4] st σ Q := gk_istore rfl ⟨Nat.le_of_ble_eq_true rfl, rfl⟩ rfl
theorem g0_34r {x : Int32} {z : sl_R} {a0 a1 a3 a4 : Option sl_V} : sl_Go xs N 0 34 [a0, a1, some (.inr (.inr z)), a3, a4] (.inl x :: st) σ Q ↔ sl_Go xs N 0 35 [a0, a1, some (.inr (.inr z)), some (.inl x), a4] st σ Q := gk_istore rfl ⟨Nat.le_of_ble_eq_true rfl, rfl⟩ rfl
theorem g0_35 {x : Int32} {a0 a1 a2 a4 : Option sl_V} : sl_Go xs N 0 35 [a0, a1, a2, some (.inl x), a4] st σ Q ↔ sl_Go xs N 0 36 [a0, a1, a2, some (.inl x), a4] (.inl x :: st) σ Q := gk_iload rfl rfl
theorem g0_36 {L : sl_L} : sl_Go xs N 0 36 L st σ Q ↔ sl_Go xs N 0 38 L (.inl 120 :: st) σ Q := gk_const rfl
theorem g0_38 {L : sl_L} {x y : Int32} : sl_Go xs N 0 38 L (.inl y :: .inl x :: st) σ Q ↔ (y ≤ x → sl_Go xs N 0 85 L st σ Q) ∧ (¬ y ≤ x → sl_Go xs N 0 41 L st σ Q) := gk_ige rfl
theorem g0_41 {x : sl_R} {a1 a2 a3 a4 : Option sl_V} : sl_Go xs N 0 41 [some (.inr (.inr x)), a1, a2, a3, a4] st σ Q ↔ sl_Go xs N 0 42 [some (.inr (.inr x)), a1, a2, a3, a4] (.inr (.inr x) :: st) σ Q := gk_aload rfl rfl
theorem g0_42 {x : Int32} {a0 a2 a3 a4 : Option sl_V} : sl_Go xs N 0 42 [a0, some (.inl x), a2, a3, a4] st σ Q ↔ sl_Go xs N 0 43 [a0, some (.inl x), a2, a3, a4] (.inl x :: st) σ Q := gk_iload rfl rfl
theorem g0_43 {L : sl_L} {o : sl_R} {x0 : Int32} : sl_Go xs N 0 43 L (.inl x0 :: .inr (.inr o) :: st) σ Q ↔ sl_cw st ≤ 8 ∧ sl_Go xs N 2 0 [some (.inr (.inr o)), some (.inl x0), none, none, none, none] [] σ (fun r τ => sl_Go xs N 0 46 L (r.toList ++ st) τ Q) := gk_call rfl (Nat.le_add_left 2 st.length) rfl rfl rfl
theorem g0_46 {L : sl_L} {x : Int32} : sl_Go xs N 0 46 L (.inl x :: st) σ Q ↔ (x = 0 → sl_Go xs N 0 85 L st σ Q) ∧ (¬ x = 0 → sl_Go xs N 0 49 L st σ Q) := gk_zeq rfl
theorem g0_49 {x : sl_R} {a1 a2 a3 a4 : Option sl_V} : sl_Go xs N 0 49 [some (.inr (.inr x)), a1, a2, a3, a4] st σ Q ↔ sl_Go xs N 0 50 [some (.inr (.inr x)), a1, a2, a3, a4] (.inr (.inr x) :: st) σ Q := gk_aload rfl rfl
theorem g0_50 {x : Int32} {a0 a2 a3 a4 : Option sl_V} : sl_Go xs N 0 50 [a0, some (.inl x), a2, a3, a4] st σ Q ↔ sl_Go xs N 0 51 [a0, some (.inl x), a2, a3, a4] (.inl x :: st) σ Q := gk_iload rfl rfl
theorem g0_51 {L : sl_L} {o : sl_R} {x0 : Int32} : sl_Go xs N 0 51 L (.inl x0 :: .inr (.inr o) :: st) σ Q ↔ sl_cw st ≤ 8 ∧ sl_Go xs N 1 0 [some (.inr (.inr o)), some (.inl x0), none, none, none] [] σ (fun r τ => sl_Go xs N 0 54 L (r.toList ++ st) τ Q) := gk_call rfl (Nat.le_add_left 2 st.length) rfl rfl rfl
theorem g0_54n {x : Int32} {a0 a1 a2 a4 : Option sl_V} : sl_Go xs N 0 54 [a0, a1, a2, none, a4] (.inl x :: st) σ Q ↔ sl_Go xs N 0 56 [a0, a1, a2, none, some (.inl x)] st σ Q := gk_istore rfl ⟨Nat.le_of_ble_eq_true rfl, rfl⟩ rfl
theorem g0_54i {x : Int32} {z : Int32} {a0 a1 a2 a4 : Option sl_V} : sl_Go xs N 0 54 [a0, a1, a2, some (.inl z), a4] (.inl x :: st) σ Q ↔ sl_Go xs N 0 56 [a0, a1, a2, some (.inl z), some (.inl x)] st σ Q := gk_istore rfl ⟨Nat.le_of_ble_eq_true rfl, rfl⟩ rfl
theorem g0_54r {x : Int32} {z : sl_R} {a0 a1 a2 a4 : Option sl_V} : sl_Go xs N 0 54 [a0, a1, a2, some (.inr (.inr z)), a4] (.inl x :: st) σ Q ↔ sl_Go xs N 0 56 [a0, a1, a2, some (.inr (.inr z)), some (.inl x)] st σ Q := gk_istore rfl ⟨Nat.le_of_ble_eq_true rfl, rfl⟩ rfl
theorem g0_56 {x : Int32} {a0 a1 a2 a3 : Option sl_V} : sl_Go xs N 0 56 [a0, a1, a2, a3, some (.inl x)] st σ Q ↔ sl_Go xs N 0 58 [a0, a1, a2, a3, some (.inl x)] (.inl x :: st) σ Q := gk_iload rfl rfl
theorem g0_58 {x : Int32} {a0 a1 a3 a4 : Option sl_V} : sl_Go xs N 0 58 [a0, a1, some (.inl x), a3, a4] st σ Q ↔ sl_Go xs N 0 59 [a0, a1, some (.inl x), a3, a4] (.inl x :: st) σ Q := gk_iload rfl rfl
theorem g0_59 {L : sl_L} {x y : Int32} : sl_Go xs N 0 59 L (.inl y :: .inl x :: st) σ Q ↔ (y ≤ x → sl_Go xs N 0 79 L st σ Q) ∧ (¬ y ≤ x → sl_Go xs N 0 62 L st σ Q) := gk_ige rfl
theorem g0_62 {x : Int32} {a0 a1 a2 a3 : Option sl_V} : sl_Go xs N 0 62 [a0, a1, a2, a3, some (.inl x)] st σ Q ↔ sl_Go xs N 0 64 [a0, a1, a2, a3, some (.inl x)] (.inl x :: st) σ Q := gk_iload rfl rfl
theorem g0_64n {x : Int32} {a0 a2 a3 a4 : Option sl_V} : sl_Go xs N 0 64 [a0, none, a2, a3, a4] (.inl x :: st) σ Q ↔ sl_Go xs N 0 65 [a0, none, some (.inl x), a3, a4] st σ Q := gk_istore rfl ⟨Nat.le_of_ble_eq_true rfl, rfl⟩ rfl
theorem g0_64i {x : Int32} {z : Int32} {a0 a2 a3 a4 : Option sl_V} : sl_Go xs N 0 64 [a0, some (.inl z), a2, a3, a4] (.inl x :: st) σ Q ↔ sl_Go xs N 0 65 [a0, some (.inl z), some (.inl x), a3, a4] st σ Q := gk_istore rfl ⟨Nat.le_of_ble_eq_true rfl, rfl⟩ rfl
theorem g0_64r {x : Int32} {z : sl_R} {a0 a2 a3 a4 : Option sl_V} : sl_Go xs N 0 64 [a0, some (.inr (.inr z)), a2, a3, a4] (.inl x :: st) σ Q ↔ sl_Go xs N 0 65 [a0, some (.inr (.inr z)), some (.inl x), a3, a4] st σ Q := gk_istore rfl ⟨Nat.le_of_ble_eq_true rfl, rfl⟩ rfl
theorem g0_65 {x : sl_R} {a1 a2 a3 a4 : Option sl_V} : sl_Go xs N 0 65 [some (.inr (.inr x)), a1, a2, a3, a4] st σ Q ↔ sl_Go xs N 0 66 [some (.inr (.inr x)), a1, a2, a3, a4] (.inr (.inr x) :: st) σ Q := gk_aload rfl rfl
theorem g0_66 {L : sl_L} {i t : Nat} : sl_Go xs N 0 66 L (.inr (.inr (22, i, t)) :: st) σ Q ↔ sl_Go xs N 0 69 L (.inr (.inr (25, 0, 0)) :: st) σ Q := gk_get (g := .inr (25, 0, 0)) rfl rfl rfl
theorem g0_69 {L : sl_L} : sl_Go xs N 0 69 L st σ Q ↔ sl_Go xs N 0 70 L (.inl 0 :: st) σ Q := gk_const rfl
theorem g0_70 {x : sl_R} {a1 a2 a3 a4 : Option sl_V} : sl_Go xs N 0 70 [some (.inr (.inr x)), a1, a2, a3, a4] st σ Q ↔ sl_Go xs N 0 71 [some (.inr (.inr x)), a1, a2, a3, a4] (.inr (.inr x) :: st) σ Q := gk_aload rfl rfl
theorem g0_71 {L : sl_L} {i t : Nat} : sl_Go xs N 0 71 L (.inr (.inr (22, i, t)) :: st) σ Q ↔ sl_Go xs N 0 74 L (.inr (.inr (24, 0, 0)) :: st) σ Q := gk_get (g := .inr (24, 0, 0)) rfl rfl rfl
theorem g0_74 {L : sl_L} : sl_Go xs N 0 74 L st σ Q ↔ sl_Go xs N 0 75 L (.inl 0 :: st) σ Q := gk_const rfl
theorem g0_75 {L : sl_L} : sl_Go xs N 0 75 L st σ Q ↔ sl_Go xs N 0 76 L (.inl 5 :: st) σ Q := gk_const rfl
theorem g0_76 {L : sl_L} {i j n : Int32} {q r : sl_R} : sl_Go xs N 0 76 L (.inl n :: .inl j :: .inr (.inr r) :: .inl i :: .inr (.inr q) :: st) σ Q ↔ (0 ≤ n.toInt ∧ 0 ≤ i.toInt ∧ 0 ≤ j.toInt ∧ i.toInt + n.toInt ≤ sl_wlen q 0 ∧ j.toInt + n.toInt ≤ sl_wlen r 0 ∧ sl_cw st ≤ 8) ∧ sl_Go xs N 0 79 L st (sl_cp σ q r i.toNatClampNeg j.toNatClampNeg n.toNatClampNeg) Q := gk_copy rfl
theorem g0_79n {x : Int32} {a0 a1 a4 : Option sl_V} : sl_Go xs N 0 79 [a0, a1, none, some (.inl x), a4] st σ Q ↔ sl_Go xs N 0 82 [a0, a1, none, some (.inl (x + 1)), a4] st σ Q := gk_iinc rfl rfl rfl rfl
theorem g0_79i {x : Int32} {z : Int32} {a0 a1 a4 : Option sl_V} : sl_Go xs N 0 79 [a0, a1, some (.inl z), some (.inl x), a4] st σ Q ↔ sl_Go xs N 0 82 [a0, a1, some (.inl z), some (.inl (x + 1)), a4] st σ Q := gk_iinc rfl rfl rfl rfl
theorem g0_79r {x : Int32} {z : sl_R} {a0 a1 a4 : Option sl_V} : sl_Go xs N 0 79 [a0, a1, some (.inr (.inr z)), some (.inl x), a4] st σ Q ↔ sl_Go xs N 0 82 [a0, a1, some (.inr (.inr z)), some (.inl (x + 1)), a4] st σ Q := gk_iinc rfl rfl rfl rfl
theorem g0_82 {L : sl_L} : sl_Go xs N 0 82 L st σ Q ↔ sl_Go xs N 0 35 L st σ Q := gk_goto rfl
theorem g0_85 {x : Int32} {a0 a1 a3 a4 : Option sl_V} : sl_Go xs N 0 85 [a0, a1, some (.inl x), a3, a4] st σ Q ↔ sl_Go xs N 0 86 [a0, a1, some (.inl x), a3, a4] (.inl x :: st) σ Q := gk_iload rfl rfl
theorem g0_86 {L : sl_L} {x : Int32} : sl_Go xs N 0 86 L [.inl x] σ Q ↔ Q (some (.inl x)) σ := gk_iret rfl
theorem g1_0 {L : sl_L} : sl_Go xs N 1 0 L st σ Q ↔ sl_Go xs N 1 1 L (.inl 0 :: st) σ Q := gk_const rfl
theorem g1_1n {x : Int32} {a0 a2 a3 a4 : Option sl_V} : sl_Go xs N 1 1 [a0, none, a2, a3, a4] (.inl x :: st) σ Q ↔ sl_Go xs N 1 2 [a0, none, some (.inl x), a3, a4] st σ Q := gk_istore rfl ⟨Nat.le_of_ble_eq_true rfl, rfl⟩ rfl
theorem g1_1i {x : Int32} {z : Int32} {a0 a2 a3 a4 : Option sl_V} : sl_Go xs N 1 1 [a0, some (.inl z), a2, a3, a4] (.inl x :: st) σ Q ↔ sl_Go xs N 1 2 [a0, some (.inl z), some (.inl x), a3, a4] st σ Q := gk_istore rfl ⟨Nat.le_of_ble_eq_true rfl, rfl⟩ rfl
theorem g1_1r {x : Int32} {z : sl_R} {a0 a2 a3 a4 : Option sl_V} : sl_Go xs N 1 1 [a0, some (.inr (.inr z)), a2, a3, a4] (.inl x :: st) σ Q ↔ sl_Go xs N 1 2 [a0, some (.inr (.inr z)), some (.inl x), a3, a4] st σ Q := gk_istore rfl ⟨Nat.le_of_ble_eq_true rfl, rfl⟩ rfl
theorem g1_2 {L : sl_L} : sl_Go xs N 1 2 L st σ Q ↔ sl_Go xs N 1 3 L (.inl 0 :: st) σ Q := gk_const rfl
theorem g1_3n {x : Int32} {a0 a1 a3 a4 : Option sl_V} : sl_Go xs N 1 3 [a0, a1, none, a3, a4] (.inl x :: st) σ Q ↔ sl_Go xs N 1 4 [a0, a1, none, some (.inl x), a4] st σ Q := gk_istore rfl ⟨Nat.le_of_ble_eq_true rfl, rfl⟩ rfl
theorem g1_3i {x : Int32} {z : Int32} {a0 a1 a3 a4 : Option sl_V} : sl_Go xs N 1 3 [a0, a1, some (.inl z), a3, a4] (.inl x :: st) σ Q ↔ sl_Go xs N 1 4 [a0, a1, some (.inl z), some (.inl x), a4] st σ Q := gk_istore rfl ⟨Nat.le_of_ble_eq_true rfl, rfl⟩ rfl
theorem g1_3r {x : Int32} {z : sl_R} {a0 a1 a3 a4 : Option sl_V} : sl_Go xs N 1 3 [a0, a1, some (.inr (.inr z)), a3, a4] (.inl x :: st) σ Q ↔ sl_Go xs N 1 4 [a0, a1, some (.inr (.inr z)), some (.inl x), a4] st σ Q := gk_istore rfl ⟨Nat.le_of_ble_eq_true rfl, rfl⟩ rfl
theorem g1_4 {x : Int32} {a0 a1 a2 a4 : Option sl_V} : sl_Go xs N 1 4 [a0, a1, a2, some (.inl x), a4] st σ Q ↔ sl_Go xs N 1 5 [a0, a1, a2, some (.inl x), a4] (.inl x :: st) σ Q := gk_iload rfl rfl
theorem g1_5 {x : Int32} {a0 a2 a3 a4 : Option sl_V} : sl_Go xs N 1 5 [a0, some (.inl x), a2, a3, a4] st σ Q ↔ sl_Go xs N 1 6 [a0, some (.inl x), a2, a3, a4] (.inl x :: st) σ Q := gk_iload rfl rfl
theorem g1_6 {L : sl_L} {x y : Int32} : sl_Go xs N 1 6 L (.inl y :: .inl x :: st) σ Q ↔ (y ≤ x → sl_Go xs N 1 24 L st σ Q) ∧ (¬ y ≤ x → sl_Go xs N 1 9 L st σ Q) := gk_ige rfl
theorem g1_9 {x : Int32} {a0 a1 a3 a4 : Option sl_V} : sl_Go xs N 1 9 [a0, a1, some (.inl x), a3, a4] st σ Q ↔ sl_Go xs N 1 10 [a0, a1, some (.inl x), a3, a4] (.inl x :: st) σ Q := gk_iload rfl rfl
theorem g1_10 {x : sl_R} {a1 a2 a3 a4 : Option sl_V} : sl_Go xs N 1 10 [some (.inr (.inr x)), a1, a2, a3, a4] st σ Q ↔ sl_Go xs N 1 11 [some (.inr (.inr x)), a1, a2, a3, a4] (.inr (.inr x) :: st) σ Q := gk_aload rfl rfl
theorem g1_11 {L : sl_L} {i t : Nat} : sl_Go xs N 1 11 L (.inr (.inr (22, i, t)) :: st) σ Q ↔ sl_Go xs N 1 14 L (.inr (.inr (23, 0, 0)) :: st) σ Q := gk_get (g := .inr (23, 0, 0)) rfl rfl rfl
theorem g1_14 {x : Int32} {a0 a1 a2 a4 : Option sl_V} : sl_Go xs N 1 14 [a0, a1, a2, some (.inl x), a4] st σ Q ↔ sl_Go xs N 1 15 [a0, a1, a2, some (.inl x), a4] (.inl x :: st) σ Q := gk_iload rfl rfl
theorem g1_15 {L : sl_L} {j : Int32} {r : sl_R} : sl_Go xs N 1 15 L (.inl j :: .inr (.inr r) :: st) σ Q ↔ (0 ≤ j.toInt ∧ j.toInt < sl_ilen N r) ∧ sl_Go xs N 1 16 L (.inl (sl_rd xs σ r j.toNatClampNeg) :: st) σ Q := gk_iald rfl
theorem g1_16 {L : sl_L} {x y : Int32} : sl_Go xs N 1 16 L (.inl y :: .inl x :: st) σ Q ↔ sl_Go xs N 1 17 L (.inl (x + y) :: st) σ Q := gk_bin (b := 8) rfl
theorem g1_17n {x : Int32} {a0 a2 a3 a4 : Option sl_V} : sl_Go xs N 1 17 [a0, none, a2, a3, a4] (.inl x :: st) σ Q ↔ sl_Go xs N 1 18 [a0, none, some (.inl x), a3, a4] st σ Q := gk_istore rfl ⟨Nat.le_of_ble_eq_true rfl, rfl⟩ rfl
theorem g1_17i {x : Int32} {z : Int32} {a0 a2 a3 a4 : Option sl_V} : sl_Go xs N 1 17 [a0, some (.inl z), a2, a3, a4] (.inl x :: st) σ Q ↔ sl_Go xs N 1 18 [a0, some (.inl z), some (.inl x), a3, a4] st σ Q := gk_istore rfl ⟨Nat.le_of_ble_eq_true rfl, rfl⟩ rfl
theorem g1_17r {x : Int32} {z : sl_R} {a0 a2 a3 a4 : Option sl_V} : sl_Go xs N 1 17 [a0, some (.inr (.inr z)), a2, a3, a4] (.inl x :: st) σ Q ↔ sl_Go xs N 1 18 [a0, some (.inr (.inr z)), some (.inl x), a3, a4] st σ Q := gk_istore rfl ⟨Nat.le_of_ble_eq_true rfl, rfl⟩ rfl
theorem g1_18n {x : Int32} {a0 a1 a4 : Option sl_V} : sl_Go xs N 1 18 [a0, a1, none, some (.inl x), a4] st σ Q ↔ sl_Go xs N 1 21 [a0, a1, none, some (.inl (x + 1)), a4] st σ Q := gk_iinc rfl rfl rfl rfl
theorem g1_18i {x : Int32} {z : Int32} {a0 a1 a4 : Option sl_V} : sl_Go xs N 1 18 [a0, a1, some (.inl z), some (.inl x), a4] st σ Q ↔ sl_Go xs N 1 21 [a0, a1, some (.inl z), some (.inl (x + 1)), a4] st σ Q := gk_iinc rfl rfl rfl rfl
theorem g1_18r {x : Int32} {z : sl_R} {a0 a1 a4 : Option sl_V} : sl_Go xs N 1 18 [a0, a1, some (.inr (.inr z)), some (.inl x), a4] st σ Q ↔ sl_Go xs N 1 21 [a0, a1, some (.inr (.inr z)), some (.inl (x + 1)), a4] st σ Q := gk_iinc rfl rfl rfl rfl
theorem g1_21 {L : sl_L} : sl_Go xs N 1 21 L st σ Q ↔ sl_Go xs N 1 4 L st σ Q := gk_goto rfl
theorem g1_24 {x : Int32} {a0 a1 a3 a4 : Option sl_V} : sl_Go xs N 1 24 [a0, a1, some (.inl x), a3, a4] st σ Q ↔ sl_Go xs N 1 25 [a0, a1, some (.inl x), a3, a4] (.inl x :: st) σ Q := gk_iload rfl rfl
theorem g1_25 {L : sl_L} {x0 : Int32} : sl_Go xs N 1 25 L (.inl x0 :: st) σ Q ↔ sl_cw st ≤ 8 ∧ sl_Go xs N 159 0 [some (.inl x0)] [] σ (fun r τ => sl_Go xs N 1 28 L (r.toList ++ st) τ Q) := gk_call rfl (Nat.le_add_left 1 st.length) rfl rfl rfl
theorem g1_28n {x : Int32} {a0 a1 a3 a4 : Option sl_V} : sl_Go xs N 1 28 [a0, a1, none, a3, a4] (.inl x :: st) σ Q ↔ sl_Go xs N 1 29 [a0, a1, none, some (.inl x), a4] st σ Q := gk_istore rfl ⟨Nat.le_of_ble_eq_true rfl, rfl⟩ rfl
theorem g1_28i {x : Int32} {z : Int32} {a0 a1 a3 a4 : Option sl_V} : sl_Go xs N 1 28 [a0, a1, some (.inl z), a3, a4] (.inl x :: st) σ Q ↔ sl_Go xs N 1 29 [a0, a1, some (.inl z), some (.inl x), a4] st σ Q := gk_istore rfl ⟨Nat.le_of_ble_eq_true rfl, rfl⟩ rfl
theorem g1_28r {x : Int32} {z : sl_R} {a0 a1 a3 a4 : Option sl_V} : sl_Go xs N 1 28 [a0, a1, some (.inr (.inr z)), a3, a4] (.inl x :: st) σ Q ↔ sl_Go xs N 1 29 [a0, a1, some (.inr (.inr z)), some (.inl x), a4] st σ Q := gk_istore rfl ⟨Nat.le_of_ble_eq_true rfl, rfl⟩ rfl
theorem g1_29 {L : sl_L} : sl_Go xs N 1 29 L st σ Q ↔ sl_Go xs N 1 30 L (.inl 0 :: st) σ Q := gk_const rfl
theorem g1_30n {x : Int32} {a0 a1 a2 a4 : Option sl_V} : sl_Go xs N 1 30 [a0, a1, a2, none, a4] (.inl x :: st) σ Q ↔ sl_Go xs N 1 32 [a0, a1, a2, none, some (.inl x)] st σ Q := gk_istore rfl ⟨Nat.le_of_ble_eq_true rfl, rfl⟩ rfl
theorem g1_30i {x : Int32} {z : Int32} {a0 a1 a2 a4 : Option sl_V} : sl_Go xs N 1 30 [a0, a1, a2, some (.inl z), a4] (.inl x :: st) σ Q ↔ sl_Go xs N 1 32 [a0, a1, a2, some (.inl z), some (.inl x)] st σ Q := gk_istore rfl ⟨Nat.le_of_ble_eq_true rfl, rfl⟩ rfl
theorem g1_30r {x : Int32} {z : sl_R} {a0 a1 a2 a4 : Option sl_V} : sl_Go xs N 1 30 [a0, a1, a2, some (.inr (.inr z)), a4] (.inl x :: st) σ Q ↔ sl_Go xs N 1 32 [a0, a1, a2, some (.inr (.inr z)), some (.inl x)] st σ Q := gk_istore rfl ⟨Nat.le_of_ble_eq_true rfl, rfl⟩ rfl
theorem g1_32 {x : Int32} {a0 a1 a2 a3 : Option sl_V} : sl_Go xs N 1 32 [a0, a1, a2, a3, some (.inl x)] st σ Q ↔ sl_Go xs N 1 34 [a0, a1, a2, a3, some (.inl x)] (.inl x :: st) σ Q := gk_iload rfl rfl
theorem g1_34 {x : Int32} {a0 a2 a3 a4 : Option sl_V} : sl_Go xs N 1 34 [a0, some (.inl x), a2, a3, a4] st σ Q ↔ sl_Go xs N 1 35 [a0, some (.inl x), a2, a3, a4] (.inl x :: st) σ Q := gk_iload rfl rfl
theorem g1_35 {L : sl_L} {x y : Int32} : sl_Go xs N 1 35 L (.inl y :: .inl x :: st) σ Q ↔ (y ≤ x → sl_Go xs N 1 68 L st σ Q) ∧ (¬ y ≤ x → sl_Go xs N 1 38 L st σ Q) := gk_ige rfl
theorem g1_38 {x : Int32} {a0 a1 a3 a4 : Option sl_V} : sl_Go xs N 1 38 [a0, a1, some (.inl x), a3, a4] st σ Q ↔ sl_Go xs N 1 39 [a0, a1, some (.inl x), a3, a4] (.inl x :: st) σ Q := gk_iload rfl rfl
theorem g1_39 {x : sl_R} {a1 a2 a3 a4 : Option sl_V} : sl_Go xs N 1 39 [some (.inr (.inr x)), a1, a2, a3, a4] st σ Q ↔ sl_Go xs N 1 40 [some (.inr (.inr x)), a1, a2, a3, a4] (.inr (.inr x) :: st) σ Q := gk_aload rfl rfl
theorem g1_40 {L : sl_L} {i t : Nat} : sl_Go xs N 1 40 L (.inr (.inr (22, i, t)) :: st) σ Q ↔ sl_Go xs N 1 43 L (.inr (.inr (23, 0, 0)) :: st) σ Q := gk_get (g := .inr (23, 0, 0)) rfl rfl rfl
theorem g1_43 {x : sl_R} {a1 a2 a3 a4 : Option sl_V} : sl_Go xs N 1 43 [some (.inr (.inr x)), a1, a2, a3, a4] st σ Q ↔ sl_Go xs N 1 44 [some (.inr (.inr x)), a1, a2, a3, a4] (.inr (.inr x) :: st) σ Q := gk_aload rfl rfl
theorem g1_44 {L : sl_L} {i t : Nat} : sl_Go xs N 1 44 L (.inr (.inr (22, i, t)) :: st) σ Q ↔ sl_Go xs N 1 47 L (.inr (.inr (25, 0, 0)) :: st) σ Q := gk_get (g := .inr (25, 0, 0)) rfl rfl rfl
theorem g1_47 {x : Int32} {a0 a1 a2 a3 : Option sl_V} : sl_Go xs N 1 47 [a0, a1, a2, a3, some (.inl x)] st σ Q ↔ sl_Go xs N 1 49 [a0, a1, a2, a3, some (.inl x)] (.inl x :: st) σ Q := gk_iload rfl rfl
theorem g1_49 {L : sl_L} {j : Int32} {r : sl_R} : sl_Go xs N 1 49 L (.inl j :: .inr (.inr r) :: st) σ Q ↔ (0 ≤ j.toInt ∧ j.toInt < sl_ilen N r) ∧ sl_Go xs N 1 50 L (.inl (sl_rd xs σ r j.toNatClampNeg) :: st) σ Q := gk_iald rfl
theorem g1_50 {L : sl_L} {j : Int32} {r : sl_R} : sl_Go xs N 1 50 L (.inl j :: .inr (.inr r) :: st) σ Q ↔ (0 ≤ j.toInt ∧ j.toInt < sl_ilen N r) ∧ sl_Go xs N 1 51 L (.inl (sl_rd xs σ r j.toNatClampNeg) :: st) σ Q := gk_iald rfl
theorem g1_51 {L : sl_L} {x y : Int32} : sl_Go xs N 1 51 L (.inl y :: .inl x :: st) σ Q ↔ sl_Go xs N 1 52 L (.inl (x - y) :: st) σ Q := gk_bin (b := 9) rfl
theorem g1_52n {x : Int32} {a0 a2 a3 a4 : Option sl_V} : sl_Go xs N 1 52 [a0, none, a2, a3, a4] (.inl x :: st) σ Q ↔ sl_Go xs N 1 53 [a0, none, some (.inl x), a3, a4] st σ Q := gk_istore rfl ⟨Nat.le_of_ble_eq_true rfl, rfl⟩ rfl
theorem g1_52i {x : Int32} {z : Int32} {a0 a2 a3 a4 : Option sl_V} : sl_Go xs N 1 52 [a0, some (.inl z), a2, a3, a4] (.inl x :: st) σ Q ↔ sl_Go xs N 1 53 [a0, some (.inl z), some (.inl x), a3, a4] st σ Q := gk_istore rfl ⟨Nat.le_of_ble_eq_true rfl, rfl⟩ rfl
theorem g1_52r {x : Int32} {z : sl_R} {a0 a2 a3 a4 : Option sl_V} : sl_Go xs N 1 52 [a0, some (.inr (.inr z)), a2, a3, a4] (.inl x :: st) σ Q ↔ sl_Go xs N 1 53 [a0, some (.inr (.inr z)), some (.inl x), a3, a4] st σ Q := gk_istore rfl ⟨Nat.le_of_ble_eq_true rfl, rfl⟩ rfl
theorem g1_53 {x : Int32} {a0 a1 a2 a4 : Option sl_V} : sl_Go xs N 1 53 [a0, a1, a2, some (.inl x), a4] st σ Q ↔ sl_Go xs N 1 54 [a0, a1, a2, some (.inl x), a4] (.inl x :: st) σ Q := gk_iload rfl rfl
theorem g1_54 {x : Int32} {a0 a1 a3 a4 : Option sl_V} : sl_Go xs N 1 54 [a0, a1, some (.inl x), a3, a4] st σ Q ↔ sl_Go xs N 1 55 [a0, a1, some (.inl x), a3, a4] (.inl x :: st) σ Q := gk_iload rfl rfl
theorem g1_55 {L : sl_L} {x0 : Int32} : sl_Go xs N 1 55 L (.inl x0 :: st) σ Q ↔ sl_cw st ≤ 8 ∧ sl_Go xs N 159 0 [some (.inl x0)] [] σ (fun r τ => sl_Go xs N 1 58 L (r.toList ++ st) τ Q) := gk_call rfl (Nat.le_add_left 1 st.length) rfl rfl rfl
theorem g1_58 {L : sl_L} {x0 : Int32} {x1 : Int32} : sl_Go xs N 1 58 L (.inl x1 :: .inl x0 :: st) σ Q ↔ sl_cw st ≤ 8 ∧ sl_Go xs N 161 0 [some (.inl x0), some (.inl x1)] [] σ (fun r τ => sl_Go xs N 1 61 L (r.toList ++ st) τ Q) := gk_call rfl (Nat.le_add_left 2 st.length) rfl rfl rfl
theorem g1_61n {x : Int32} {a0 a1 a3 a4 : Option sl_V} : sl_Go xs N 1 61 [a0, a1, none, a3, a4] (.inl x :: st) σ Q ↔ sl_Go xs N 1 62 [a0, a1, none, some (.inl x), a4] st σ Q := gk_istore rfl ⟨Nat.le_of_ble_eq_true rfl, rfl⟩ rfl
theorem g1_61i {x : Int32} {z : Int32} {a0 a1 a3 a4 : Option sl_V} : sl_Go xs N 1 61 [a0, a1, some (.inl z), a3, a4] (.inl x :: st) σ Q ↔ sl_Go xs N 1 62 [a0, a1, some (.inl z), some (.inl x), a4] st σ Q := gk_istore rfl ⟨Nat.le_of_ble_eq_true rfl, rfl⟩ rfl
theorem g1_61r {x : Int32} {z : sl_R} {a0 a1 a3 a4 : Option sl_V} : sl_Go xs N 1 61 [a0, a1, some (.inr (.inr z)), a3, a4] (.inl x :: st) σ Q ↔ sl_Go xs N 1 62 [a0, a1, some (.inr (.inr z)), some (.inl x), a4] st σ Q := gk_istore rfl ⟨Nat.le_of_ble_eq_true rfl, rfl⟩ rfl
theorem g1_62n {x : Int32} {a0 a1 a2 : Option sl_V} : sl_Go xs N 1 62 [a0, a1, a2, none, some (.inl x)] st σ Q ↔ sl_Go xs N 1 65 [a0, a1, a2, none, some (.inl (x + 1))] st σ Q := gk_iinc rfl rfl rfl rfl
theorem g1_62i {x : Int32} {z : Int32} {a0 a1 a2 : Option sl_V} : sl_Go xs N 1 62 [a0, a1, a2, some (.inl z), some (.inl x)] st σ Q ↔ sl_Go xs N 1 65 [a0, a1, a2, some (.inl z), some (.inl (x + 1))] st σ Q := gk_iinc rfl rfl rfl rfl
theorem g1_62r {x : Int32} {z : sl_R} {a0 a1 a2 : Option sl_V} : sl_Go xs N 1 62 [a0, a1, a2, some (.inr (.inr z)), some (.inl x)] st σ Q ↔ sl_Go xs N 1 65 [a0, a1, a2, some (.inr (.inr z)), some (.inl (x + 1))] st σ Q := gk_iinc rfl rfl rfl rfl
theorem g1_65 {L : sl_L} : sl_Go xs N 1 65 L st σ Q ↔ sl_Go xs N 1 32 L st σ Q := gk_goto rfl
theorem g1_68 {x : Int32} {a0 a1 a2 a4 : Option sl_V} : sl_Go xs N 1 68 [a0, a1, a2, some (.inl x), a4] st σ Q ↔ sl_Go xs N 1 69 [a0, a1, a2, some (.inl x), a4] (.inl x :: st) σ Q := gk_iload rfl rfl
theorem g1_69 {L : sl_L} {x : Int32} : sl_Go xs N 1 69 L [.inl x] σ Q ↔ Q (some (.inl x)) σ := gk_iret rfl
theorem g2_0 {x : Int32} {a0 a2 a3 a4 a5 : Option sl_V} : sl_Go xs N 2 0 [a0, some (.inl x), a2, a3, a4, a5] st σ Q ↔ sl_Go xs N 2 1 [a0, some (.inl x), a2, a3, a4, a5] (.inl x :: st) σ Q := gk_iload rfl rfl
theorem g2_1 {L : sl_L} : sl_Go xs N 2 1 L st σ Q ↔ sl_Go xs N 2 2 L (.inl 2 :: st) σ Q := gk_const rfl
theorem g2_2 {L : sl_L} {x y : Int32} : sl_Go xs N 2 2 L (.inl y :: .inl x :: st) σ Q ↔ sl_Go xs N 2 3 L (.inl (x - y) :: st) σ Q := gk_bin (b := 9) rfl
theorem g2_3n {x : Int32} {a0 a2 a3 a4 a5 : Option sl_V} : sl_Go xs N 2 3 [a0, none, a2, a3, a4, a5] (.inl x :: st) σ Q ↔ sl_Go xs N 2 4 [a0, none, some (.inl x), a3, a4, a5] st σ Q := gk_istore rfl ⟨Nat.le_of_ble_eq_true rfl, rfl⟩ rfl
theorem g2_3i {x : Int32} {z : Int32} {a0 a2 a3 a4 a5 : Option sl_V} : sl_Go xs N 2 3 [a0, some (.inl z), a2, a3, a4, a5] (.inl x :: st) σ Q ↔ sl_Go xs N 2 4 [a0, some (.inl z), some (.inl x), a3, a4, a5] st σ Q := gk_istore rfl ⟨Nat.le_of_ble_eq_true rfl, rfl⟩ rfl
theorem g2_3r {x : Int32} {z : sl_R} {a0 a2 a3 a4 a5 : Option sl_V} : sl_Go xs N 2 3 [a0, some (.inr (.inr z)), a2, a3, a4, a5] (.inl x :: st) σ Q ↔ sl_Go xs N 2 4 [a0, some (.inr (.inr z)), some (.inl x), a3, a4, a5] st σ Q := gk_istore rfl ⟨Nat.le_of_ble_eq_true rfl, rfl⟩ rfl
theorem g2_4 {x : Int32} {a0 a1 a3 a4 a5 : Option sl_V} : sl_Go xs N 2 4 [a0, a1, some (.inl x), a3, a4, a5] st σ Q ↔ sl_Go xs N 2 5 [a0, a1, some (.inl x), a3, a4, a5] (.inl x :: st) σ Q := gk_iload rfl rfl
theorem g2_5 {L : sl_L} {x : Int32} : sl_Go xs N 2 5 L (.inl x :: st) σ Q ↔ (x < 0 → sl_Go xs N 2 31 L st σ Q) ∧ (¬ x < 0 → sl_Go xs N 2 8 L st σ Q) := gk_zlt rfl
theorem g2_8 {x : sl_R} {a1 a2 a3 a4 a5 : Option sl_V} : sl_Go xs N 2 8 [some (.inr (.inr x)), a1, a2, a3, a4, a5] st σ Q ↔ sl_Go xs N 2 9 [some (.inr (.inr x)), a1, a2, a3, a4, a5] (.inr (.inr x) :: st) σ Q := gk_aload rfl rfl
theorem g2_9 {L : sl_L} {i t : Nat} : sl_Go xs N 2 9 L (.inr (.inr (22, i, t)) :: st) σ Q ↔ sl_Go xs N 2 12 L (.inr (.inr (25, 0, 0)) :: st) σ Q := gk_get (g := .inr (25, 0, 0)) rfl rfl rfl
theorem g2_12 {x : Int32} {a0 a1 a3 a4 a5 : Option sl_V} : sl_Go xs N 2 12 [a0, a1, some (.inl x), a3, a4, a5] st σ Q ↔ sl_Go xs N 2 13 [a0, a1, some (.inl x), a3, a4, a5] (.inl x :: st) σ Q := gk_iload rfl rfl
theorem g2_13 {L : sl_L} {j : Int32} {r : sl_R} : sl_Go xs N 2 13 L (.inl j :: .inr (.inr r) :: st) σ Q ↔ (0 ≤ j.toInt ∧ j.toInt < sl_ilen N r) ∧ sl_Go xs N 2 14 L (.inl (sl_rd xs σ r j.toNatClampNeg) :: st) σ Q := gk_iald rfl
theorem g2_14 {x : sl_R} {a1 a2 a3 a4 a5 : Option sl_V} : sl_Go xs N 2 14 [some (.inr (.inr x)), a1, a2, a3, a4, a5] st σ Q ↔ sl_Go xs N 2 15 [some (.inr (.inr x)), a1, a2, a3, a4, a5] (.inr (.inr x) :: st) σ Q := gk_aload rfl rfl
theorem g2_15 {L : sl_L} {i t : Nat} : sl_Go xs N 2 15 L (.inr (.inr (22, i, t)) :: st) σ Q ↔ sl_Go xs N 2 18 L (.inr (.inr (25, 0, 0)) :: st) σ Q := gk_get (g := .inr (25, 0, 0)) rfl rfl rfl
theorem g2_18 {x : Int32} {a0 a1 a3 a4 a5 : Option sl_V} : sl_Go xs N 2 18 [a0, a1, some (.inl x), a3, a4, a5] st σ Q ↔ sl_Go xs N 2 19 [a0, a1, some (.inl x), a3, a4, a5] (.inl x :: st) σ Q := gk_iload rfl rfl
theorem g2_19 {L : sl_L} : sl_Go xs N 2 19 L st σ Q ↔ sl_Go xs N 2 20 L (.inl 1 :: st) σ Q := gk_const rfl
theorem g2_20 {L : sl_L} {x y : Int32} : sl_Go xs N 2 20 L (.inl y :: .inl x :: st) σ Q ↔ sl_Go xs N 2 21 L (.inl (x + y) :: st) σ Q := gk_bin (b := 8) rfl
theorem g2_21 {L : sl_L} {j : Int32} {r : sl_R} : sl_Go xs N 2 21 L (.inl j :: .inr (.inr r) :: st) σ Q ↔ (0 ≤ j.toInt ∧ j.toInt < sl_ilen N r) ∧ sl_Go xs N 2 22 L (.inl (sl_rd xs σ r j.toNatClampNeg) :: st) σ Q := gk_iald rfl
theorem g2_22 {L : sl_L} {x y : Int32} : sl_Go xs N 2 22 L (.inl y :: .inl x :: st) σ Q ↔ (x ≤ y → sl_Go xs N 2 31 L st σ Q) ∧ (¬ x ≤ y → sl_Go xs N 2 25 L st σ Q) := gk_ile rfl
theorem g2_25n {x : Int32} {a0 a3 a4 a5 : Option sl_V} : sl_Go xs N 2 25 [a0, none, some (.inl x), a3, a4, a5] st σ Q ↔ sl_Go xs N 2 28 [a0, none, some (.inl (x + (-1))), a3, a4, a5] st σ Q := gk_iinc rfl rfl rfl rfl
theorem g2_25i {x : Int32} {z : Int32} {a0 a3 a4 a5 : Option sl_V} : sl_Go xs N 2 25 [a0, some (.inl z), some (.inl x), a3, a4, a5] st σ Q ↔ sl_Go xs N 2 28 [a0, some (.inl z), some (.inl (x + (-1))), a3, a4, a5] st σ Q := gk_iinc rfl rfl rfl rfl
theorem g2_25r {x : Int32} {z : sl_R} {a0 a3 a4 a5 : Option sl_V} : sl_Go xs N 2 25 [a0, some (.inr (.inr z)), some (.inl x), a3, a4, a5] st σ Q ↔ sl_Go xs N 2 28 [a0, some (.inr (.inr z)), some (.inl (x + (-1))), a3, a4, a5] st σ Q := gk_iinc rfl rfl rfl rfl
theorem g2_28 {L : sl_L} : sl_Go xs N 2 28 L st σ Q ↔ sl_Go xs N 2 4 L st σ Q := gk_goto rfl
theorem g2_31 {x : Int32} {a0 a1 a3 a4 a5 : Option sl_V} : sl_Go xs N 2 31 [a0, a1, some (.inl x), a3, a4, a5] st σ Q ↔ sl_Go xs N 2 32 [a0, a1, some (.inl x), a3, a4, a5] (.inl x :: st) σ Q := gk_iload rfl rfl
theorem g2_32 {L : sl_L} {x : Int32} : sl_Go xs N 2 32 L (.inl x :: st) σ Q ↔ (0 ≤ x → sl_Go xs N 2 37 L st σ Q) ∧ (¬ 0 ≤ x → sl_Go xs N 2 35 L st σ Q) := gk_zge rfl
theorem g2_35 {L : sl_L} : sl_Go xs N 2 35 L st σ Q ↔ sl_Go xs N 2 36 L (.inl 0 :: st) σ Q := gk_const rfl
theorem g2_36 {L : sl_L} {x : Int32} : sl_Go xs N 2 36 L [.inl x] σ Q ↔ (x = 0 ∨ x = 1) ∧ Q (some (.inl x)) σ := gk_zret rfl
theorem g2_37 {x : Int32} {a0 a2 a3 a4 a5 : Option sl_V} : sl_Go xs N 2 37 [a0, some (.inl x), a2, a3, a4, a5] st σ Q ↔ sl_Go xs N 2 38 [a0, some (.inl x), a2, a3, a4, a5] (.inl x :: st) σ Q := gk_iload rfl rfl
theorem g2_38 {L : sl_L} : sl_Go xs N 2 38 L st σ Q ↔ sl_Go xs N 2 39 L (.inl 1 :: st) σ Q := gk_const rfl
theorem g2_39 {L : sl_L} {x y : Int32} : sl_Go xs N 2 39 L (.inl y :: .inl x :: st) σ Q ↔ sl_Go xs N 2 40 L (.inl (x - y) :: st) σ Q := gk_bin (b := 9) rfl
theorem g2_40n {x : Int32} {a0 a1 a3 a4 a5 : Option sl_V} : sl_Go xs N 2 40 [a0, a1, none, a3, a4, a5] (.inl x :: st) σ Q ↔ sl_Go xs N 2 41 [a0, a1, none, some (.inl x), a4, a5] st σ Q := gk_istore rfl ⟨Nat.le_of_ble_eq_true rfl, rfl⟩ rfl
theorem g2_40i {x : Int32} {z : Int32} {a0 a1 a3 a4 a5 : Option sl_V} : sl_Go xs N 2 40 [a0, a1, some (.inl z), a3, a4, a5] (.inl x :: st) σ Q ↔ sl_Go xs N 2 41 [a0, a1, some (.inl z), some (.inl x), a4, a5] st σ Q := gk_istore rfl ⟨Nat.le_of_ble_eq_true rfl, rfl⟩ rfl
theorem g2_40r {x : Int32} {z : sl_R} {a0 a1 a3 a4 a5 : Option sl_V} : sl_Go xs N 2 40 [a0, a1, some (.inr (.inr z)), a3, a4, a5] (.inl x :: st) σ Q ↔ sl_Go xs N 2 41 [a0, a1, some (.inr (.inr z)), some (.inl x), a4, a5] st σ Q := gk_istore rfl ⟨Nat.le_of_ble_eq_true rfl, rfl⟩ rfl
theorem g2_41 {x : Int32} {a0 a1 a2 a4 a5 : Option sl_V} : sl_Go xs N 2 41 [a0, a1, a2, some (.inl x), a4, a5] st σ Q ↔ sl_Go xs N 2 42 [a0, a1, a2, some (.inl x), a4, a5] (.inl x :: st) σ Q := gk_iload rfl rfl
theorem g2_42 {x : Int32} {a0 a1 a3 a4 a5 : Option sl_V} : sl_Go xs N 2 42 [a0, a1, some (.inl x), a3, a4, a5] st σ Q ↔ sl_Go xs N 2 43 [a0, a1, some (.inl x), a3, a4, a5] (.inl x :: st) σ Q := gk_iload rfl rfl
theorem g2_43 {L : sl_L} {x y : Int32} : sl_Go xs N 2 43 L (.inl y :: .inl x :: st) σ Q ↔ (x ≤ y → sl_Go xs N 2 67 L st σ Q) ∧ (¬ x ≤ y → sl_Go xs N 2 46 L st σ Q) := gk_ile rfl
theorem g2_46 {x : sl_R} {a1 a2 a3 a4 a5 : Option sl_V} : sl_Go xs N 2 46 [some (.inr (.inr x)), a1, a2, a3, a4, a5] st σ Q ↔ sl_Go xs N 2 47 [some (.inr (.inr x)), a1, a2, a3, a4, a5] (.inr (.inr x) :: st) σ Q := gk_aload rfl rfl
theorem g2_47 {L : sl_L} {i t : Nat} : sl_Go xs N 2 47 L (.inr (.inr (22, i, t)) :: st) σ Q ↔ sl_Go xs N 2 50 L (.inr (.inr (25, 0, 0)) :: st) σ Q := gk_get (g := .inr (25, 0, 0)) rfl rfl rfl
theorem g2_50 {x : Int32} {a0 a1 a2 a4 a5 : Option sl_V} : sl_Go xs N 2 50 [a0, a1, a2, some (.inl x), a4, a5] st σ Q ↔ sl_Go xs N 2 51 [a0, a1, a2, some (.inl x), a4, a5] (.inl x :: st) σ Q := gk_iload rfl rfl
theorem g2_51 {L : sl_L} {j : Int32} {r : sl_R} : sl_Go xs N 2 51 L (.inl j :: .inr (.inr r) :: st) σ Q ↔ (0 ≤ j.toInt ∧ j.toInt < sl_ilen N r) ∧ sl_Go xs N 2 52 L (.inl (sl_rd xs σ r j.toNatClampNeg) :: st) σ Q := gk_iald rfl
theorem g2_52 {x : sl_R} {a1 a2 a3 a4 a5 : Option sl_V} : sl_Go xs N 2 52 [some (.inr (.inr x)), a1, a2, a3, a4, a5] st σ Q ↔ sl_Go xs N 2 53 [some (.inr (.inr x)), a1, a2, a3, a4, a5] (.inr (.inr x) :: st) σ Q := gk_aload rfl rfl
theorem g2_53 {L : sl_L} {i t : Nat} : sl_Go xs N 2 53 L (.inr (.inr (22, i, t)) :: st) σ Q ↔ sl_Go xs N 2 56 L (.inr (.inr (25, 0, 0)) :: st) σ Q := gk_get (g := .inr (25, 0, 0)) rfl rfl rfl
theorem g2_56 {x : Int32} {a0 a1 a3 a4 a5 : Option sl_V} : sl_Go xs N 2 56 [a0, a1, some (.inl x), a3, a4, a5] st σ Q ↔ sl_Go xs N 2 57 [a0, a1, some (.inl x), a3, a4, a5] (.inl x :: st) σ Q := gk_iload rfl rfl
theorem g2_57 {L : sl_L} {j : Int32} {r : sl_R} : sl_Go xs N 2 57 L (.inl j :: .inr (.inr r) :: st) σ Q ↔ (0 ≤ j.toInt ∧ j.toInt < sl_ilen N r) ∧ sl_Go xs N 2 58 L (.inl (sl_rd xs σ r j.toNatClampNeg) :: st) σ Q := gk_iald rfl
theorem g2_58 {L : sl_L} {x y : Int32} : sl_Go xs N 2 58 L (.inl y :: .inl x :: st) σ Q ↔ (y ≤ x → sl_Go xs N 2 67 L st σ Q) ∧ (¬ y ≤ x → sl_Go xs N 2 61 L st σ Q) := gk_ige rfl
theorem g2_61n {x : Int32} {a0 a1 a4 a5 : Option sl_V} : sl_Go xs N 2 61 [a0, a1, none, some (.inl x), a4, a5] st σ Q ↔ sl_Go xs N 2 64 [a0, a1, none, some (.inl (x + (-1))), a4, a5] st σ Q := gk_iinc rfl rfl rfl rfl
theorem g2_61i {x : Int32} {z : Int32} {a0 a1 a4 a5 : Option sl_V} : sl_Go xs N 2 61 [a0, a1, some (.inl z), some (.inl x), a4, a5] st σ Q ↔ sl_Go xs N 2 64 [a0, a1, some (.inl z), some (.inl (x + (-1))), a4, a5] st σ Q := gk_iinc rfl rfl rfl rfl
theorem g2_61r {x : Int32} {z : sl_R} {a0 a1 a4 a5 : Option sl_V} : sl_Go xs N 2 61 [a0, a1, some (.inr (.inr z)), some (.inl x), a4, a5] st σ Q ↔ sl_Go xs N 2 64 [a0, a1, some (.inr (.inr z)), some (.inl (x + (-1))), a4, a5] st σ Q := gk_iinc rfl rfl rfl rfl
theorem g2_64 {L : sl_L} : sl_Go xs N 2 64 L st σ Q ↔ sl_Go xs N 2 41 L st σ Q := gk_goto rfl
theorem g2_67 {x : sl_R} {a1 a2 a3 a4 a5 : Option sl_V} : sl_Go xs N 2 67 [some (.inr (.inr x)), a1, a2, a3, a4, a5] st σ Q ↔ sl_Go xs N 2 68 [some (.inr (.inr x)), a1, a2, a3, a4, a5] (.inr (.inr x) :: st) σ Q := gk_aload rfl rfl
theorem g2_68 {x : Int32} {a0 a1 a3 a4 a5 : Option sl_V} : sl_Go xs N 2 68 [a0, a1, some (.inl x), a3, a4, a5] st σ Q ↔ sl_Go xs N 2 69 [a0, a1, some (.inl x), a3, a4, a5] (.inl x :: st) σ Q := gk_iload rfl rfl
theorem g2_69 {x : Int32} {a0 a1 a2 a4 a5 : Option sl_V} : sl_Go xs N 2 69 [a0, a1, a2, some (.inl x), a4, a5] st σ Q ↔ sl_Go xs N 2 70 [a0, a1, a2, some (.inl x), a4, a5] (.inl x :: st) σ Q := gk_iload rfl rfl
theorem g2_70 {L : sl_L} {o : sl_R} {x0 : Int32} {x1 : Int32} : sl_Go xs N 2 70 L (.inl x1 :: .inl x0 :: .inr (.inr o) :: st) σ Q ↔ sl_cw st ≤ 8 ∧ sl_Go xs N 3 0 [some (.inr (.inr o)), some (.inl x0), some (.inl x1), none] [] σ (fun r τ => sl_Go xs N 2 73 L (r.toList ++ st) τ Q) := gk_call rfl (Nat.le_add_left 3 st.length) rfl rfl rfl
theorem g2_73 {x : Int32} {a0 a1 a3 a4 a5 : Option sl_V} : sl_Go xs N 2 73 [a0, a1, some (.inl x), a3, a4, a5] st σ Q ↔ sl_Go xs N 2 74 [a0, a1, some (.inl x), a3, a4, a5] (.inl x :: st) σ Q := gk_iload rfl rfl
theorem g2_74 {L : sl_L} : sl_Go xs N 2 74 L st σ Q ↔ sl_Go xs N 2 75 L (.inl 1 :: st) σ Q := gk_const rfl
theorem g2_75 {L : sl_L} {x y : Int32} : sl_Go xs N 2 75 L (.inl y :: .inl x :: st) σ Q ↔ sl_Go xs N 2 76 L (.inl (x + y) :: st) σ Q := gk_bin (b := 8) rfl
theorem g2_76n {x : Int32} {a0 a1 a2 a4 a5 : Option sl_V} : sl_Go xs N 2 76 [a0, a1, a2, none, a4, a5] (.inl x :: st) σ Q ↔ sl_Go xs N 2 78 [a0, a1, a2, none, some (.inl x), a5] st σ Q := gk_istore rfl ⟨Nat.le_of_ble_eq_true rfl, rfl⟩ rfl
theorem g2_76i {x : Int32} {z : Int32} {a0 a1 a2 a4 a5 : Option sl_V} : sl_Go xs N 2 76 [a0, a1, a2, some (.inl z), a4, a5] (.inl x :: st) σ Q ↔ sl_Go xs N 2 78 [a0, a1, a2, some (.inl z), some (.inl x), a5] st σ Q := gk_istore rfl ⟨Nat.le_of_ble_eq_true rfl, rfl⟩ rfl
theorem g2_76r {x : Int32} {z : sl_R} {a0 a1 a2 a4 a5 : Option sl_V} : sl_Go xs N 2 76 [a0, a1, a2, some (.inr (.inr z)), a4, a5] (.inl x :: st) σ Q ↔ sl_Go xs N 2 78 [a0, a1, a2, some (.inr (.inr z)), some (.inl x), a5] st σ Q := gk_istore rfl ⟨Nat.le_of_ble_eq_true rfl, rfl⟩ rfl
theorem g2_78 {x : Int32} {a0 a2 a3 a4 a5 : Option sl_V} : sl_Go xs N 2 78 [a0, some (.inl x), a2, a3, a4, a5] st σ Q ↔ sl_Go xs N 2 79 [a0, some (.inl x), a2, a3, a4, a5] (.inl x :: st) σ Q := gk_iload rfl rfl
theorem g2_79 {L : sl_L} : sl_Go xs N 2 79 L st σ Q ↔ sl_Go xs N 2 80 L (.inl 1 :: st) σ Q := gk_const rfl
theorem g2_80 {L : sl_L} {x y : Int32} : sl_Go xs N 2 80 L (.inl y :: .inl x :: st) σ Q ↔ sl_Go xs N 2 81 L (.inl (x - y) :: st) σ Q := gk_bin (b := 9) rfl
theorem g2_81n {x : Int32} {a0 a1 a2 a3 a5 : Option sl_V} : sl_Go xs N 2 81 [a0, a1, a2, a3, none, a5] (.inl x :: st) σ Q ↔ sl_Go xs N 2 83 [a0, a1, a2, a3, none, some (.inl x)] st σ Q := gk_istore rfl ⟨Nat.le_of_ble_eq_true rfl, rfl⟩ rfl
theorem g2_81i {x : Int32} {z : Int32} {a0 a1 a2 a3 a5 : Option sl_V} : sl_Go xs N 2 81 [a0, a1, a2, a3, some (.inl z), a5] (.inl x :: st) σ Q ↔ sl_Go xs N 2 83 [a0, a1, a2, a3, some (.inl z), some (.inl x)] st σ Q := gk_istore rfl ⟨Nat.le_of_ble_eq_true rfl, rfl⟩ rfl
theorem g2_81r {x : Int32} {z : sl_R} {a0 a1 a2 a3 a5 : Option sl_V} : sl_Go xs N 2 81 [a0, a1, a2, a3, some (.inr (.inr z)), a5] (.inl x :: st) σ Q ↔ sl_Go xs N 2 83 [a0, a1, a2, a3, some (.inr (.inr z)), some (.inl x)] st σ Q := gk_istore rfl ⟨Nat.le_of_ble_eq_true rfl, rfl⟩ rfl
theorem g2_83 {x : Int32} {a0 a1 a2 a3 a5 : Option sl_V} : sl_Go xs N 2 83 [a0, a1, a2, a3, some (.inl x), a5] st σ Q ↔ sl_Go xs N 2 85 [a0, a1, a2, a3, some (.inl x), a5] (.inl x :: st) σ Q := gk_iload rfl rfl
theorem g2_85 {x : Int32} {a0 a1 a2 a3 a4 : Option sl_V} : sl_Go xs N 2 85 [a0, a1, a2, a3, a4, some (.inl x)] st σ Q ↔ sl_Go xs N 2 87 [a0, a1, a2, a3, a4, some (.inl x)] (.inl x :: st) σ Q := gk_iload rfl rfl
theorem g2_87 {L : sl_L} {x y : Int32} : sl_Go xs N 2 87 L (.inl y :: .inl x :: st) σ Q ↔ (y ≤ x → sl_Go xs N 2 107 L st σ Q) ∧ (¬ y ≤ x → sl_Go xs N 2 90 L st σ Q) := gk_ige rfl
theorem g2_90 {x : sl_R} {a1 a2 a3 a4 a5 : Option sl_V} : sl_Go xs N 2 90 [some (.inr (.inr x)), a1, a2, a3, a4, a5] st σ Q ↔ sl_Go xs N 2 91 [some (.inr (.inr x)), a1, a2, a3, a4, a5] (.inr (.inr x) :: st) σ Q := gk_aload rfl rfl
theorem g2_91 {x : Int32} {a0 a1 a2 a3 a5 : Option sl_V} : sl_Go xs N 2 91 [a0, a1, a2, a3, some (.inl x), a5] st σ Q ↔ sl_Go xs N 2 93 [a0, a1, a2, a3, some (.inl x), a5] (.inl x :: st) σ Q := gk_iload rfl rfl
theorem g2_93 {x : Int32} {a0 a1 a2 a3 a4 : Option sl_V} : sl_Go xs N 2 93 [a0, a1, a2, a3, a4, some (.inl x)] st σ Q ↔ sl_Go xs N 2 95 [a0, a1, a2, a3, a4, some (.inl x)] (.inl x :: st) σ Q := gk_iload rfl rfl
theorem g2_95 {L : sl_L} {o : sl_R} {x0 : Int32} {x1 : Int32} : sl_Go xs N 2 95 L (.inl x1 :: .inl x0 :: .inr (.inr o) :: st) σ Q ↔ sl_cw st ≤ 8 ∧ sl_Go xs N 3 0 [some (.inr (.inr o)), some (.inl x0), some (.inl x1), none] [] σ (fun r τ => sl_Go xs N 2 98 L (r.toList ++ st) τ Q) := gk_call rfl (Nat.le_add_left 3 st.length) rfl rfl rfl
theorem g2_98n {x : Int32} {a0 a1 a2 a5 : Option sl_V} : sl_Go xs N 2 98 [a0, a1, a2, none, some (.inl x), a5] st σ Q ↔ sl_Go xs N 2 101 [a0, a1, a2, none, some (.inl (x + 1)), a5] st σ Q := gk_iinc rfl rfl rfl rfl
theorem g2_98i {x : Int32} {z : Int32} {a0 a1 a2 a5 : Option sl_V} : sl_Go xs N 2 98 [a0, a1, a2, some (.inl z), some (.inl x), a5] st σ Q ↔ sl_Go xs N 2 101 [a0, a1, a2, some (.inl z), some (.inl (x + 1)), a5] st σ Q := gk_iinc rfl rfl rfl rfl
theorem g2_98r {x : Int32} {z : sl_R} {a0 a1 a2 a5 : Option sl_V} : sl_Go xs N 2 98 [a0, a1, a2, some (.inr (.inr z)), some (.inl x), a5] st σ Q ↔ sl_Go xs N 2 101 [a0, a1, a2, some (.inr (.inr z)), some (.inl (x + 1)), a5] st σ Q := gk_iinc rfl rfl rfl rfl
theorem g2_101n {x : Int32} {a0 a1 a2 a3 : Option sl_V} : sl_Go xs N 2 101 [a0, a1, a2, a3, none, some (.inl x)] st σ Q ↔ sl_Go xs N 2 104 [a0, a1, a2, a3, none, some (.inl (x + (-1)))] st σ Q := gk_iinc rfl rfl rfl rfl
theorem g2_101i {x : Int32} {z : Int32} {a0 a1 a2 a3 : Option sl_V} : sl_Go xs N 2 101 [a0, a1, a2, a3, some (.inl z), some (.inl x)] st σ Q ↔ sl_Go xs N 2 104 [a0, a1, a2, a3, some (.inl z), some (.inl (x + (-1)))] st σ Q := gk_iinc rfl rfl rfl rfl
theorem g2_101r {x : Int32} {z : sl_R} {a0 a1 a2 a3 : Option sl_V} : sl_Go xs N 2 101 [a0, a1, a2, a3, some (.inr (.inr z)), some (.inl x)] st σ Q ↔ sl_Go xs N 2 104 [a0, a1, a2, a3, some (.inr (.inr z)), some (.inl (x + (-1)))] st σ Q := gk_iinc rfl rfl rfl rfl
theorem g2_104 {L : sl_L} : sl_Go xs N 2 104 L st σ Q ↔ sl_Go xs N 2 83 L st σ Q := gk_goto rfl
theorem g2_107 {L : sl_L} : sl_Go xs N 2 107 L st σ Q ↔ sl_Go xs N 2 108 L (.inl 1 :: st) σ Q := gk_const rfl
theorem g2_108 {L : sl_L} {x : Int32} : sl_Go xs N 2 108 L [.inl x] σ Q ↔ (x = 0 ∨ x = 1) ∧ Q (some (.inl x)) σ := gk_zret rfl
theorem g3_0 {x : sl_R} {a1 a2 a3 : Option sl_V} : sl_Go xs N 3 0 [some (.inr (.inr x)), a1, a2, a3] st σ Q ↔ sl_Go xs N 3 1 [some (.inr (.inr x)), a1, a2, a3] (.inr (.inr x) :: st) σ Q := gk_aload rfl rfl
theorem g3_1 {L : sl_L} {i t : Nat} : sl_Go xs N 3 1 L (.inr (.inr (22, i, t)) :: st) σ Q ↔ sl_Go xs N 3 4 L (.inr (.inr (25, 0, 0)) :: st) σ Q := gk_get (g := .inr (25, 0, 0)) rfl rfl rfl
theorem g3_4 {x : Int32} {a0 a2 a3 : Option sl_V} : sl_Go xs N 3 4 [a0, some (.inl x), a2, a3] st σ Q ↔ sl_Go xs N 3 5 [a0, some (.inl x), a2, a3] (.inl x :: st) σ Q := gk_iload rfl rfl
theorem g3_5 {L : sl_L} {j : Int32} {r : sl_R} : sl_Go xs N 3 5 L (.inl j :: .inr (.inr r) :: st) σ Q ↔ (0 ≤ j.toInt ∧ j.toInt < sl_ilen N r) ∧ sl_Go xs N 3 6 L (.inl (sl_rd xs σ r j.toNatClampNeg) :: st) σ Q := gk_iald rfl
theorem g3_6n {x : Int32} {a0 a1 a3 : Option sl_V} : sl_Go xs N 3 6 [a0, a1, none, a3] (.inl x :: st) σ Q ↔ sl_Go xs N 3 7 [a0, a1, none, some (.inl x)] st σ Q := gk_istore rfl ⟨Nat.le_of_ble_eq_true rfl, rfl⟩ rfl
theorem g3_6i {x : Int32} {z : Int32} {a0 a1 a3 : Option sl_V} : sl_Go xs N 3 6 [a0, a1, some (.inl z), a3] (.inl x :: st) σ Q ↔ sl_Go xs N 3 7 [a0, a1, some (.inl z), some (.inl x)] st σ Q := gk_istore rfl ⟨Nat.le_of_ble_eq_true rfl, rfl⟩ rfl
theorem g3_6r {x : Int32} {z : sl_R} {a0 a1 a3 : Option sl_V} : sl_Go xs N 3 6 [a0, a1, some (.inr (.inr z)), a3] (.inl x :: st) σ Q ↔ sl_Go xs N 3 7 [a0, a1, some (.inr (.inr z)), some (.inl x)] st σ Q := gk_istore rfl ⟨Nat.le_of_ble_eq_true rfl, rfl⟩ rfl
theorem g3_7 {x : sl_R} {a1 a2 a3 : Option sl_V} : sl_Go xs N 3 7 [some (.inr (.inr x)), a1, a2, a3] st σ Q ↔ sl_Go xs N 3 8 [some (.inr (.inr x)), a1, a2, a3] (.inr (.inr x) :: st) σ Q := gk_aload rfl rfl
theorem g3_8 {L : sl_L} {i t : Nat} : sl_Go xs N 3 8 L (.inr (.inr (22, i, t)) :: st) σ Q ↔ sl_Go xs N 3 11 L (.inr (.inr (25, 0, 0)) :: st) σ Q := gk_get (g := .inr (25, 0, 0)) rfl rfl rfl
theorem g3_11 {x : Int32} {a0 a2 a3 : Option sl_V} : sl_Go xs N 3 11 [a0, some (.inl x), a2, a3] st σ Q ↔ sl_Go xs N 3 12 [a0, some (.inl x), a2, a3] (.inl x :: st) σ Q := gk_iload rfl rfl
theorem g3_12 {x : sl_R} {a1 a2 a3 : Option sl_V} : sl_Go xs N 3 12 [some (.inr (.inr x)), a1, a2, a3] st σ Q ↔ sl_Go xs N 3 13 [some (.inr (.inr x)), a1, a2, a3] (.inr (.inr x) :: st) σ Q := gk_aload rfl rfl
theorem g3_13 {L : sl_L} {i t : Nat} : sl_Go xs N 3 13 L (.inr (.inr (22, i, t)) :: st) σ Q ↔ sl_Go xs N 3 16 L (.inr (.inr (25, 0, 0)) :: st) σ Q := gk_get (g := .inr (25, 0, 0)) rfl rfl rfl
theorem g3_16 {x : Int32} {a0 a1 a3 : Option sl_V} : sl_Go xs N 3 16 [a0, a1, some (.inl x), a3] st σ Q ↔ sl_Go xs N 3 17 [a0, a1, some (.inl x), a3] (.inl x :: st) σ Q := gk_iload rfl rfl
theorem g3_17 {L : sl_L} {j : Int32} {r : sl_R} : sl_Go xs N 3 17 L (.inl j :: .inr (.inr r) :: st) σ Q ↔ (0 ≤ j.toInt ∧ j.toInt < sl_ilen N r) ∧ sl_Go xs N 3 18 L (.inl (sl_rd xs σ r j.toNatClampNeg) :: st) σ Q := gk_iald rfl
theorem g3_18 {L : sl_L} {j x : Int32} {r : sl_R} : sl_Go xs N 3 18 L (.inl x :: .inl j :: .inr (.inr r) :: st) σ Q ↔ (0 ≤ j.toInt ∧ j.toInt < sl_wlen r 0) ∧ sl_Go xs N 3 19 L st (sl_wr σ r j.toNatClampNeg x) Q := gk_iast rfl
theorem g3_19 {x : sl_R} {a1 a2 a3 : Option sl_V} : sl_Go xs N 3 19 [some (.inr (.inr x)), a1, a2, a3] st σ Q ↔ sl_Go xs N 3 20 [some (.inr (.inr x)), a1, a2, a3] (.inr (.inr x) :: st) σ Q := gk_aload rfl rfl
theorem g3_20 {L : sl_L} {i t : Nat} : sl_Go xs N 3 20 L (.inr (.inr (22, i, t)) :: st) σ Q ↔ sl_Go xs N 3 23 L (.inr (.inr (25, 0, 0)) :: st) σ Q := gk_get (g := .inr (25, 0, 0)) rfl rfl rfl
theorem g3_23 {x : Int32} {a0 a1 a3 : Option sl_V} : sl_Go xs N 3 23 [a0, a1, some (.inl x), a3] st σ Q ↔ sl_Go xs N 3 24 [a0, a1, some (.inl x), a3] (.inl x :: st) σ Q := gk_iload rfl rfl
theorem g3_24 {x : Int32} {a0 a1 a2 : Option sl_V} : sl_Go xs N 3 24 [a0, a1, a2, some (.inl x)] st σ Q ↔ sl_Go xs N 3 25 [a0, a1, a2, some (.inl x)] (.inl x :: st) σ Q := gk_iload rfl rfl
theorem g3_25 {L : sl_L} {j x : Int32} {r : sl_R} : sl_Go xs N 3 25 L (.inl x :: .inl j :: .inr (.inr r) :: st) σ Q ↔ (0 ≤ j.toInt ∧ j.toInt < sl_wlen r 0) ∧ sl_Go xs N 3 26 L st (sl_wr σ r j.toNatClampNeg x) Q := gk_iast rfl
theorem g3_26 {L : sl_L} : sl_Go xs N 3 26 L [] σ Q ↔ Q none σ := gk_vret rfl
theorem g4_0 {x : Int32} : sl_Go xs N 4 0 [some (.inl x)] st σ Q ↔ sl_Go xs N 4 1 [some (.inl x)] (.inl x :: st) σ Q := gk_iload rfl rfl
theorem g4_1 {L : sl_L} : sl_Go xs N 4 1 L st σ Q ↔ sl_Go xs N 4 2 L (.inl 0 :: st) σ Q := gk_const rfl
theorem g4_2 {L : sl_L} : sl_Go xs N 4 2 L st σ Q ↔ sl_Go xs N 4 3 L (.inl 5 :: st) σ Q := gk_const rfl
theorem g4_3 {L : sl_L} {x0 : Int32} {x1 : Int32} {x2 : Int32} : sl_Go xs N 4 3 L (.inl x2 :: .inl x1 :: .inl x0 :: st) σ Q ↔ sl_cw st ≤ 8 ∧ sl_Go xs N 81 0 [some (.inl x0), some (.inl x1), some (.inl x2)] [] σ (fun r τ => sl_Go xs N 4 6 L (r.toList ++ st) τ Q) := gk_call rfl (Nat.le_add_left 3 st.length) rfl rfl rfl
theorem g4_6 {L : sl_L} {x : Int32} : sl_Go xs N 4 6 L [.inl x] σ Q ↔ (x = 0 ∨ x = 1) ∧ Q (some (.inl x)) σ := gk_zret rfl
theorem g5_0 {L : sl_L} : sl_Go xs N 5 0 L st σ Q ↔ sl_Go xs N 5 3 L (.inr (.inr (91, 0, 0)) :: st) σ Q := gk_gets rfl
theorem g5_3 {x : Int32} : sl_Go xs N 5 3 [some (.inl x)] st σ Q ↔ sl_Go xs N 5 4 [some (.inl x)] (.inl x :: st) σ Q := gk_iload rfl rfl
theorem g5_4 {L : sl_L} {j : Int32} {r : sl_R} : sl_Go xs N 5 4 L (.inl j :: .inr (.inr r) :: st) σ Q ↔ (0 ≤ j.toInt ∧ j.toInt < sl_ilen N r) ∧ sl_Go xs N 5 5 L (.inl (sl_rd xs σ r j.toNatClampNeg) :: st) σ Q := gk_iald rfl
theorem g5_5 {L : sl_L} {x : Int32} : sl_Go xs N 5 5 L [.inl x] σ Q ↔ Q (some (.inl x)) σ := gk_iret rfl
theorem g6_0 {L : sl_L} : sl_Go xs N 6 0 L st σ Q ↔ sl_Go xs N 6 3 L (.inr (.inr (92, 0, 0)) :: st) σ Q := gk_gets rfl
theorem g6_3 {x : Int32} : sl_Go xs N 6 3 [some (.inl x)] st σ Q ↔ sl_Go xs N 6 4 [some (.inl x)] (.inl x :: st) σ Q := gk_iload rfl rfl
theorem g6_4 {L : sl_L} {j : Int32} {r : sl_R} : sl_Go xs N 6 4 L (.inl j :: .inr (.inr r) :: st) σ Q ↔ (0 ≤ j.toInt ∧ j.toInt < sl_ilen N r) ∧ sl_Go xs N 6 5 L (.inl (sl_rd xs σ r j.toNatClampNeg) :: st) σ Q := gk_iald rfl
theorem g6_5 {L : sl_L} {x : Int32} : sl_Go xs N 6 5 L [.inl x] σ Q ↔ Q (some (.inl x)) σ := gk_iret rfl
theorem g7_0 {x : Int32} {a0 a2 : Option sl_V} : sl_Go xs N 7 0 [a0, some (.inl x), a2] st σ Q ↔ sl_Go xs N 7 1 [a0, some (.inl x), a2] (.inl x :: st) σ Q := gk_iload rfl rfl
theorem g7_1 {L : sl_L} : sl_Go xs N 7 1 L st σ Q ↔ sl_Go xs N 7 4 L (.inr (.inr (93, 0, 0)) :: st) σ Q := gk_gets rfl
theorem g7_4 {x : Int32} {a1 a2 : Option sl_V} : sl_Go xs N 7 4 [some (.inl x), a1, a2] st σ Q ↔ sl_Go xs N 7 5 [some (.inl x), a1, a2] (.inl x :: st) σ Q := gk_iload rfl rfl
theorem g7_5 {L : sl_L} {j : Int32} {r : sl_R} : sl_Go xs N 7 5 L (.inl j :: .inr (.inr r) :: st) σ Q ↔ (0 ≤ j.toInt ∧ j.toInt < sl_ilen N r) ∧ sl_Go xs N 7 6 L (.inl (sl_rd xs σ r j.toNatClampNeg) :: st) σ Q := gk_iald rfl
theorem g7_6 {L : sl_L} {x y : Int32} : sl_Go xs N 7 6 L (.inl y :: .inl x :: st) σ Q ↔ sl_Go xs N 7 7 L (.inl (x * y) :: st) σ Q := gk_bin (b := 10) rfl
theorem g7_7n {x : Int32} {a0 a2 : Option sl_V} : sl_Go xs N 7 7 [a0, none, a2] (.inl x :: st) σ Q ↔ sl_Go xs N 7 8 [a0, none, some (.inl x)] st σ Q := gk_istore rfl ⟨Nat.le_of_ble_eq_true rfl, rfl⟩ rfl
theorem g7_7i {x : Int32} {z : Int32} {a0 a2 : Option sl_V} : sl_Go xs N 7 7 [a0, some (.inl z), a2] (.inl x :: st) σ Q ↔ sl_Go xs N 7 8 [a0, some (.inl z), some (.inl x)] st σ Q := gk_istore rfl ⟨Nat.le_of_ble_eq_true rfl, rfl⟩ rfl
theorem g7_7r {x : Int32} {z : sl_R} {a0 a2 : Option sl_V} : sl_Go xs N 7 7 [a0, some (.inr (.inr z)), a2] (.inl x :: st) σ Q ↔ sl_Go xs N 7 8 [a0, some (.inr (.inr z)), some (.inl x)] st σ Q := gk_istore rfl ⟨Nat.le_of_ble_eq_true rfl, rfl⟩ rfl
theorem g7_8 {L : sl_L} : sl_Go xs N 7 8 L st σ Q ↔ sl_Go xs N 7 11 L (.inr (.inr (94, 0, 0)) :: st) σ Q := gk_gets rfl
theorem g7_11 {x : Int32} {a1 a2 : Option sl_V} : sl_Go xs N 7 11 [some (.inl x), a1, a2] st σ Q ↔ sl_Go xs N 7 12 [some (.inl x), a1, a2] (.inl x :: st) σ Q := gk_iload rfl rfl
theorem g7_12 {L : sl_L} {j : Int32} {r : sl_R} : sl_Go xs N 7 12 L (.inl j :: .inr (.inr r) :: st) σ Q ↔ (0 ≤ j.toInt ∧ j.toInt < sl_ilen N r) ∧ sl_Go xs N 7 13 L (.inl (sl_rd xs σ r j.toNatClampNeg) :: st) σ Q := gk_iald rfl
theorem g7_13 {L : sl_L} : sl_Go xs N 7 13 L st σ Q ↔ sl_Go xs N 7 14 L (.inl 2 :: st) σ Q := gk_const rfl
theorem g7_14 {L : sl_L} {x y : Int32} : sl_Go xs N 7 14 L (.inl y :: .inl x :: st) σ Q ↔ (¬ x = y → sl_Go xs N 7 23 L st σ Q) ∧ (x = y → sl_Go xs N 7 17 L st σ Q) := gk_ine rfl
theorem g7_17 {x : Int32} {a0 a1 : Option sl_V} : sl_Go xs N 7 17 [a0, a1, some (.inl x)] st σ Q ↔ sl_Go xs N 7 18 [a0, a1, some (.inl x)] (.inl x :: st) σ Q := gk_iload rfl rfl
theorem g7_18 {L : sl_L} : sl_Go xs N 7 18 L st σ Q ↔ sl_Go xs N 7 19 L (.inl 2 :: st) σ Q := gk_const rfl
theorem g7_19 {L : sl_L} {x y : Int32} : sl_Go xs N 7 19 L (.inl y :: .inl x :: st) σ Q ↔ ¬ y = 0 ∧ sl_Go xs N 7 20 L (.inl (x / y) :: st) σ Q := gk_idiv rfl
theorem g7_20 {L : sl_L} : sl_Go xs N 7 20 L st σ Q ↔ sl_Go xs N 7 24 L st σ Q := gk_goto rfl
theorem g7_23 {x : Int32} {a0 a1 : Option sl_V} : sl_Go xs N 7 23 [a0, a1, some (.inl x)] st σ Q ↔ sl_Go xs N 7 24 [a0, a1, some (.inl x)] (.inl x :: st) σ Q := gk_iload rfl rfl
theorem g7_24 {L : sl_L} {x : Int32} : sl_Go xs N 7 24 L [.inl x] σ Q ↔ Q (some (.inl x)) σ := gk_iret rfl
theorem g8_0 {L : sl_L} : sl_Go xs N 8 0 L st σ Q ↔ sl_Go xs N 8 3 L (.inr (.inr (95, 0, 0)) :: st) σ Q := gk_gets rfl
theorem g8_3 {x : Int32} : sl_Go xs N 8 3 [some (.inl x)] st σ Q ↔ sl_Go xs N 8 4 [some (.inl x)] (.inl x :: st) σ Q := gk_iload rfl rfl
theorem g8_4 {L : sl_L} {j : Int32} {r : sl_R} : sl_Go xs N 8 4 L (.inl j :: .inr (.inr r) :: st) σ Q ↔ (0 ≤ j.toInt ∧ j.toInt < sl_ilen N r) ∧ sl_Go xs N 8 5 L (.inl (sl_rd xs σ r j.toNatClampNeg) :: st) σ Q := gk_iald rfl
theorem g8_5 {L : sl_L} : sl_Go xs N 8 5 L st σ Q ↔ sl_Go xs N 8 6 L (.inl 1 :: st) σ Q := gk_const rfl
theorem g8_6 {L : sl_L} {x y : Int32} : sl_Go xs N 8 6 L (.inl y :: .inl x :: st) σ Q ↔ (¬ x = y → sl_Go xs N 8 13 L st σ Q) ∧ (x = y → sl_Go xs N 8 9 L st σ Q) := gk_ine rfl
theorem g8_9 {L : sl_L} : sl_Go xs N 8 9 L st σ Q ↔ sl_Go xs N 8 10 L (.inl 1 :: st) σ Q := gk_const rfl
theorem g8_10 {L : sl_L} : sl_Go xs N 8 10 L st σ Q ↔ sl_Go xs N 8 14 L st σ Q := gk_goto rfl
theorem g8_13 {L : sl_L} : sl_Go xs N 8 13 L st σ Q ↔ sl_Go xs N 8 14 L (.inl 0 :: st) σ Q := gk_const rfl
theorem g8_14 {L : sl_L} {x : Int32} : sl_Go xs N 8 14 L [.inl x] σ Q ↔ (x = 0 ∨ x = 1) ∧ Q (some (.inl x)) σ := gk_zret rfl
theorem g9_0 {x : Int32} {a1 a2 a3 : Option sl_V} : sl_Go xs N 9 0 [some (.inl x), a1, a2, a3] st σ Q ↔ sl_Go xs N 9 1 [some (.inl x), a1, a2, a3] (.inl x :: st) σ Q := gk_iload rfl rfl
theorem g9_1n {x : Int32} {a0 a2 a3 : Option sl_V} : sl_Go xs N 9 1 [a0, none, a2, a3] (.inl x :: st) σ Q ↔ sl_Go xs N 9 2 [a0, none, some (.inl x), a3] st σ Q := gk_istore rfl ⟨Nat.le_of_ble_eq_true rfl, rfl⟩ rfl
theorem g9_1i {x : Int32} {z : Int32} {a0 a2 a3 : Option sl_V} : sl_Go xs N 9 1 [a0, some (.inl z), a2, a3] (.inl x :: st) σ Q ↔ sl_Go xs N 9 2 [a0, some (.inl z), some (.inl x), a3] st σ Q := gk_istore rfl ⟨Nat.le_of_ble_eq_true rfl, rfl⟩ rfl
theorem g9_1r {x : Int32} {z : sl_R} {a0 a2 a3 : Option sl_V} : sl_Go xs N 9 1 [a0, some (.inr (.inr z)), a2, a3] (.inl x :: st) σ Q ↔ sl_Go xs N 9 2 [a0, some (.inr (.inr z)), some (.inl x), a3] st σ Q := gk_istore rfl ⟨Nat.le_of_ble_eq_true rfl, rfl⟩ rfl
theorem g9_2 {L : sl_L} : sl_Go xs N 9 2 L st σ Q ↔ sl_Go xs N 9 3 L (.inl 0 :: st) σ Q := gk_const rfl
theorem g9_3n {x : Int32} {a0 a1 a3 : Option sl_V} : sl_Go xs N 9 3 [a0, a1, none, a3] (.inl x :: st) σ Q ↔ sl_Go xs N 9 4 [a0, a1, none, some (.inl x)] st σ Q := gk_istore rfl ⟨Nat.le_of_ble_eq_true rfl, rfl⟩ rfl
theorem g9_3i {x : Int32} {z : Int32} {a0 a1 a3 : Option sl_V} : sl_Go xs N 9 3 [a0, a1, some (.inl z), a3] (.inl x :: st) σ Q ↔ sl_Go xs N 9 4 [a0, a1, some (.inl z), some (.inl x)] st σ Q := gk_istore rfl ⟨Nat.le_of_ble_eq_true rfl, rfl⟩ rfl
theorem g9_3r {x : Int32} {z : sl_R} {a0 a1 a3 : Option sl_V} : sl_Go xs N 9 3 [a0, a1, some (.inr (.inr z)), a3] (.inl x :: st) σ Q ↔ sl_Go xs N 9 4 [a0, a1, some (.inr (.inr z)), some (.inl x)] st σ Q := gk_istore rfl ⟨Nat.le_of_ble_eq_true rfl, rfl⟩ rfl
theorem g9_4 {x : Int32} {a0 a1 a2 : Option sl_V} : sl_Go xs N 9 4 [a0, a1, a2, some (.inl x)] st σ Q ↔ sl_Go xs N 9 5 [a0, a1, a2, some (.inl x)] (.inl x :: st) σ Q := gk_iload rfl rfl
theorem g9_5 {L : sl_L} : sl_Go xs N 9 5 L st σ Q ↔ sl_Go xs N 9 7 L (.inl 6 :: st) σ Q := gk_const rfl
theorem g9_7 {L : sl_L} {x y : Int32} : sl_Go xs N 9 7 L (.inl y :: .inl x :: st) σ Q ↔ (y ≤ x → sl_Go xs N 9 36 L st σ Q) ∧ (¬ y ≤ x → sl_Go xs N 9 10 L st σ Q) := gk_ige rfl
theorem g9_10 {x : Int32} {a0 a1 a3 : Option sl_V} : sl_Go xs N 9 10 [a0, a1, some (.inl x), a3] st σ Q ↔ sl_Go xs N 9 11 [a0, a1, some (.inl x), a3] (.inl x :: st) σ Q := gk_iload rfl rfl
theorem g9_11 {L : sl_L} {x0 : Int32} : sl_Go xs N 9 11 L (.inl x0 :: st) σ Q ↔ sl_cw st ≤ 8 ∧ sl_Go xs N 4 0 [some (.inl x0)] [] σ (fun r τ => sl_Go xs N 9 14 L (r.toList ++ st) τ Q) := gk_call rfl (Nat.le_add_left 1 st.length) rfl rfl rfl
theorem g9_14 {L : sl_L} {x : Int32} : sl_Go xs N 9 14 L (.inl x :: st) σ Q ↔ (x = 0 → sl_Go xs N 9 36 L st σ Q) ∧ (¬ x = 0 → sl_Go xs N 9 17 L st σ Q) := gk_zeq rfl
theorem g9_17 {x : Int32} {a0 a1 a3 : Option sl_V} : sl_Go xs N 9 17 [a0, a1, some (.inl x), a3] st σ Q ↔ sl_Go xs N 9 18 [a0, a1, some (.inl x), a3] (.inl x :: st) σ Q := gk_iload rfl rfl
theorem g9_18 {x : Int32} {a0 a2 a3 : Option sl_V} : sl_Go xs N 9 18 [a0, some (.inl x), a2, a3] st σ Q ↔ sl_Go xs N 9 19 [a0, some (.inl x), a2, a3] (.inl x :: st) σ Q := gk_iload rfl rfl
theorem g9_19 {L : sl_L} {x y : Int32} : sl_Go xs N 9 19 L (.inl y :: .inl x :: st) σ Q ↔ (¬ x = y → sl_Go xs N 9 24 L st σ Q) ∧ (x = y → sl_Go xs N 9 22 L st σ Q) := gk_ine rfl
theorem g9_22 {L : sl_L} : sl_Go xs N 9 22 L st σ Q ↔ sl_Go xs N 9 23 L (.inl 1 :: st) σ Q := gk_const rfl
theorem g9_23 {L : sl_L} {x : Int32} : sl_Go xs N 9 23 L [.inl x] σ Q ↔ (x = 0 ∨ x = 1) ∧ Q (some (.inl x)) σ := gk_zret rfl
theorem g9_24 {L : sl_L} : sl_Go xs N 9 24 L st σ Q ↔ sl_Go xs N 9 27 L (.inr (.inr (90, 0, 0)) :: st) σ Q := gk_gets rfl
theorem g9_27 {x : Int32} {a0 a1 a3 : Option sl_V} : sl_Go xs N 9 27 [a0, a1, some (.inl x), a3] st σ Q ↔ sl_Go xs N 9 28 [a0, a1, some (.inl x), a3] (.inl x :: st) σ Q := gk_iload rfl rfl
theorem g9_28 {L : sl_L} {j : Int32} {r : sl_R} : sl_Go xs N 9 28 L (.inl j :: .inr (.inr r) :: st) σ Q ↔ (0 ≤ j.toInt ∧ j.toInt < sl_ilen N r) ∧ sl_Go xs N 9 29 L (.inl (sl_rd xs σ r j.toNatClampNeg) :: st) σ Q := gk_iald rfl
theorem g9_29n {x : Int32} {a0 a2 a3 : Option sl_V} : sl_Go xs N 9 29 [a0, none, a2, a3] (.inl x :: st) σ Q ↔ sl_Go xs N 9 30 [a0, none, some (.inl x), a3] st σ Q := gk_istore rfl ⟨Nat.le_of_ble_eq_true rfl, rfl⟩ rfl
theorem g9_29i {x : Int32} {z : Int32} {a0 a2 a3 : Option sl_V} : sl_Go xs N 9 29 [a0, some (.inl z), a2, a3] (.inl x :: st) σ Q ↔ sl_Go xs N 9 30 [a0, some (.inl z), some (.inl x), a3] st σ Q := gk_istore rfl ⟨Nat.le_of_ble_eq_true rfl, rfl⟩ rfl
theorem g9_29r {x : Int32} {z : sl_R} {a0 a2 a3 : Option sl_V} : sl_Go xs N 9 29 [a0, some (.inr (.inr z)), a2, a3] (.inl x :: st) σ Q ↔ sl_Go xs N 9 30 [a0, some (.inr (.inr z)), some (.inl x), a3] st σ Q := gk_istore rfl ⟨Nat.le_of_ble_eq_true rfl, rfl⟩ rfl
theorem g9_30n {x : Int32} {a0 a1 : Option sl_V} : sl_Go xs N 9 30 [a0, a1, none, some (.inl x)] st σ Q ↔ sl_Go xs N 9 33 [a0, a1, none, some (.inl (x + 1))] st σ Q := gk_iinc rfl rfl rfl rfl
theorem g9_30i {x : Int32} {z : Int32} {a0 a1 : Option sl_V} : sl_Go xs N 9 30 [a0, a1, some (.inl z), some (.inl x)] st σ Q ↔ sl_Go xs N 9 33 [a0, a1, some (.inl z), some (.inl (x + 1))] st σ Q := gk_iinc rfl rfl rfl rfl
theorem g9_30r {x : Int32} {z : sl_R} {a0 a1 : Option sl_V} : sl_Go xs N 9 30 [a0, a1, some (.inr (.inr z)), some (.inl x)] st σ Q ↔ sl_Go xs N 9 33 [a0, a1, some (.inr (.inr z)), some (.inl (x + 1))] st σ Q := gk_iinc rfl rfl rfl rfl
theorem g9_33 {L : sl_L} : sl_Go xs N 9 33 L st σ Q ↔ sl_Go xs N 9 4 L st σ Q := gk_goto rfl
theorem g9_36 {L : sl_L} : sl_Go xs N 9 36 L st σ Q ↔ sl_Go xs N 9 37 L (.inl 0 :: st) σ Q := gk_const rfl
theorem g9_37 {L : sl_L} {x : Int32} : sl_Go xs N 9 37 L [.inl x] σ Q ↔ (x = 0 ∨ x = 1) ∧ Q (some (.inl x)) σ := gk_zret rfl
theorem g10_0 {L : sl_L} : sl_Go xs N 10 0 L st σ Q ↔ sl_Go xs N 10 1 L (.inl 0 :: st) σ Q := gk_const rfl
theorem g10_1n {x : Int32} {a0 a2 : Option sl_V} : sl_Go xs N 10 1 [a0, none, a2] (.inl x :: st) σ Q ↔ sl_Go xs N 10 2 [a0, none, some (.inl x)] st σ Q := gk_istore rfl ⟨Nat.le_of_ble_eq_true rfl, rfl⟩ rfl
theorem g10_1i {x : Int32} {z : Int32} {a0 a2 : Option sl_V} : sl_Go xs N 10 1 [a0, some (.inl z), a2] (.inl x :: st) σ Q ↔ sl_Go xs N 10 2 [a0, some (.inl z), some (.inl x)] st σ Q := gk_istore rfl ⟨Nat.le_of_ble_eq_true rfl, rfl⟩ rfl
theorem g10_1r {x : Int32} {z : sl_R} {a0 a2 : Option sl_V} : sl_Go xs N 10 1 [a0, some (.inr (.inr z)), a2] (.inl x :: st) σ Q ↔ sl_Go xs N 10 2 [a0, some (.inr (.inr z)), some (.inl x)] st σ Q := gk_istore rfl ⟨Nat.le_of_ble_eq_true rfl, rfl⟩ rfl
theorem g10_2 {x : Int32} {a0 a1 : Option sl_V} : sl_Go xs N 10 2 [a0, a1, some (.inl x)] st σ Q ↔ sl_Go xs N 10 3 [a0, a1, some (.inl x)] (.inl x :: st) σ Q := gk_iload rfl rfl
theorem g10_3 {L : sl_L} : sl_Go xs N 10 3 L st σ Q ↔ sl_Go xs N 10 4 L (.inl 5 :: st) σ Q := gk_const rfl
theorem g10_4 {L : sl_L} {x y : Int32} : sl_Go xs N 10 4 L (.inl y :: .inl x :: st) σ Q ↔ (y ≤ x → sl_Go xs N 10 51 L st σ Q) ∧ (¬ y ≤ x → sl_Go xs N 10 7 L st σ Q) := gk_ige rfl
theorem g10_7 {x : sl_R} {a0 a2 : Option sl_V} : sl_Go xs N 10 7 [a0, some (.inr (.inr x)), a2] st σ Q ↔ sl_Go xs N 10 8 [a0, some (.inr (.inr x)), a2] (.inr (.inr x) :: st) σ Q := gk_aload rfl rfl
theorem g10_8 {L : sl_L} {i t : Nat} : sl_Go xs N 10 8 L (.inr (.inr (1, i, t)) :: st) σ Q ↔ sl_Go xs N 10 11 L (.inr (.inr (2, i, 0)) :: st) σ Q := gk_get (g := .inr (2, i, 0)) rfl rfl rfl
theorem g10_11 {x : Int32} {a0 a1 : Option sl_V} : sl_Go xs N 10 11 [a0, a1, some (.inl x)] st σ Q ↔ sl_Go xs N 10 12 [a0, a1, some (.inl x)] (.inl x :: st) σ Q := gk_iload rfl rfl
theorem g10_12 {L : sl_L} {j : Int32} {r : sl_R} : sl_Go xs N 10 12 L (.inl j :: .inr (.inr r) :: st) σ Q ↔ (0 ≤ j.toInt ∧ j.toInt < sl_rlen r) ∧ sl_Go xs N 10 13 L (.inr (.inr (sl_rg r j.toNatClampNeg)) :: st) σ Q := gk_aald rfl
theorem g10_13 {L : sl_L} : sl_Go xs N 10 13 L st σ Q ↔ sl_Go xs N 10 14 L (.inl 0 :: st) σ Q := gk_const rfl
theorem g10_14 {x : sl_R} {a1 a2 : Option sl_V} : sl_Go xs N 10 14 [some (.inr (.inr x)), a1, a2] st σ Q ↔ sl_Go xs N 10 15 [some (.inr (.inr x)), a1, a2] (.inr (.inr x) :: st) σ Q := gk_aload rfl rfl
theorem g10_15 {L : sl_L} {i t : Nat} : sl_Go xs N 10 15 L (.inr (.inr (1, i, t)) :: st) σ Q ↔ sl_Go xs N 10 18 L (.inr (.inr (2, i, 0)) :: st) σ Q := gk_get (g := .inr (2, i, 0)) rfl rfl rfl
theorem g10_18 {x : Int32} {a0 a1 : Option sl_V} : sl_Go xs N 10 18 [a0, a1, some (.inl x)] st σ Q ↔ sl_Go xs N 10 19 [a0, a1, some (.inl x)] (.inl x :: st) σ Q := gk_iload rfl rfl
theorem g10_19 {L : sl_L} {j : Int32} {r : sl_R} : sl_Go xs N 10 19 L (.inl j :: .inr (.inr r) :: st) σ Q ↔ (0 ≤ j.toInt ∧ j.toInt < sl_rlen r) ∧ sl_Go xs N 10 20 L (.inr (.inr (sl_rg r j.toNatClampNeg)) :: st) σ Q := gk_aald rfl
theorem g10_20 {L : sl_L} : sl_Go xs N 10 20 L st σ Q ↔ sl_Go xs N 10 21 L (.inl 0 :: st) σ Q := gk_const rfl
theorem g10_21 {L : sl_L} : sl_Go xs N 10 21 L st σ Q ↔ sl_Go xs N 10 23 L (.inl 12 :: st) σ Q := gk_const rfl
theorem g10_23 {L : sl_L} {i j n : Int32} {q r : sl_R} : sl_Go xs N 10 23 L (.inl n :: .inl j :: .inr (.inr r) :: .inl i :: .inr (.inr q) :: st) σ Q ↔ (0 ≤ n.toInt ∧ 0 ≤ i.toInt ∧ 0 ≤ j.toInt ∧ i.toInt + n.toInt ≤ sl_wlen q 0 ∧ j.toInt + n.toInt ≤ sl_wlen r 0 ∧ sl_cw st ≤ 8) ∧ sl_Go xs N 10 26 L st (sl_cp σ q r i.toNatClampNeg j.toNatClampNeg n.toNatClampNeg) Q := gk_copy rfl
theorem g10_26 {x : sl_R} {a0 a2 : Option sl_V} : sl_Go xs N 10 26 [a0, some (.inr (.inr x)), a2] st σ Q ↔ sl_Go xs N 10 27 [a0, some (.inr (.inr x)), a2] (.inr (.inr x) :: st) σ Q := gk_aload rfl rfl
theorem g10_27 {L : sl_L} {i t : Nat} : sl_Go xs N 10 27 L (.inr (.inr (1, i, t)) :: st) σ Q ↔ sl_Go xs N 10 30 L (.inr (.inr (3, i, 0)) :: st) σ Q := gk_get (g := .inr (3, i, 0)) rfl rfl rfl
theorem g10_30 {x : Int32} {a0 a1 : Option sl_V} : sl_Go xs N 10 30 [a0, a1, some (.inl x)] st σ Q ↔ sl_Go xs N 10 31 [a0, a1, some (.inl x)] (.inl x :: st) σ Q := gk_iload rfl rfl
theorem g10_31 {L : sl_L} {j : Int32} {r : sl_R} : sl_Go xs N 10 31 L (.inl j :: .inr (.inr r) :: st) σ Q ↔ (0 ≤ j.toInt ∧ j.toInt < sl_rlen r) ∧ sl_Go xs N 10 32 L (.inr (.inr (sl_rg r j.toNatClampNeg)) :: st) σ Q := gk_aald rfl
theorem g10_32 {L : sl_L} : sl_Go xs N 10 32 L st σ Q ↔ sl_Go xs N 10 33 L (.inl 0 :: st) σ Q := gk_const rfl
theorem g10_33 {x : sl_R} {a1 a2 : Option sl_V} : sl_Go xs N 10 33 [some (.inr (.inr x)), a1, a2] st σ Q ↔ sl_Go xs N 10 34 [some (.inr (.inr x)), a1, a2] (.inr (.inr x) :: st) σ Q := gk_aload rfl rfl
theorem g10_34 {L : sl_L} {i t : Nat} : sl_Go xs N 10 34 L (.inr (.inr (1, i, t)) :: st) σ Q ↔ sl_Go xs N 10 37 L (.inr (.inr (3, i, 0)) :: st) σ Q := gk_get (g := .inr (3, i, 0)) rfl rfl rfl
theorem g10_37 {x : Int32} {a0 a1 : Option sl_V} : sl_Go xs N 10 37 [a0, a1, some (.inl x)] st σ Q ↔ sl_Go xs N 10 38 [a0, a1, some (.inl x)] (.inl x :: st) σ Q := gk_iload rfl rfl
theorem g10_38 {L : sl_L} {j : Int32} {r : sl_R} : sl_Go xs N 10 38 L (.inl j :: .inr (.inr r) :: st) σ Q ↔ (0 ≤ j.toInt ∧ j.toInt < sl_rlen r) ∧ sl_Go xs N 10 39 L (.inr (.inr (sl_rg r j.toNatClampNeg)) :: st) σ Q := gk_aald rfl
theorem g10_39 {L : sl_L} : sl_Go xs N 10 39 L st σ Q ↔ sl_Go xs N 10 40 L (.inl 0 :: st) σ Q := gk_const rfl
theorem g10_40 {L : sl_L} : sl_Go xs N 10 40 L st σ Q ↔ sl_Go xs N 10 42 L (.inl 12 :: st) σ Q := gk_const rfl
theorem g10_42 {L : sl_L} {i j n : Int32} {q r : sl_R} : sl_Go xs N 10 42 L (.inl n :: .inl j :: .inr (.inr r) :: .inl i :: .inr (.inr q) :: st) σ Q ↔ (0 ≤ n.toInt ∧ 0 ≤ i.toInt ∧ 0 ≤ j.toInt ∧ i.toInt + n.toInt ≤ sl_wlen q 0 ∧ j.toInt + n.toInt ≤ sl_wlen r 0 ∧ sl_cw st ≤ 8) ∧ sl_Go xs N 10 45 L st (sl_cp σ q r i.toNatClampNeg j.toNatClampNeg n.toNatClampNeg) Q := gk_copy rfl
theorem g10_45n {x : Int32} {a0 : Option sl_V} : sl_Go xs N 10 45 [a0, none, some (.inl x)] st σ Q ↔ sl_Go xs N 10 48 [a0, none, some (.inl (x + 1))] st σ Q := gk_iinc rfl rfl rfl rfl
theorem g10_45i {x : Int32} {z : Int32} {a0 : Option sl_V} : sl_Go xs N 10 45 [a0, some (.inl z), some (.inl x)] st σ Q ↔ sl_Go xs N 10 48 [a0, some (.inl z), some (.inl (x + 1))] st σ Q := gk_iinc rfl rfl rfl rfl
theorem g10_45r {x : Int32} {z : sl_R} {a0 : Option sl_V} : sl_Go xs N 10 45 [a0, some (.inr (.inr z)), some (.inl x)] st σ Q ↔ sl_Go xs N 10 48 [a0, some (.inr (.inr z)), some (.inl (x + 1))] st σ Q := gk_iinc rfl rfl rfl rfl
theorem g10_48 {L : sl_L} : sl_Go xs N 10 48 L st σ Q ↔ sl_Go xs N 10 2 L st σ Q := gk_goto rfl
theorem g10_51 {x : sl_R} {a0 a2 : Option sl_V} : sl_Go xs N 10 51 [a0, some (.inr (.inr x)), a2] st σ Q ↔ sl_Go xs N 10 52 [a0, some (.inr (.inr x)), a2] (.inr (.inr x) :: st) σ Q := gk_aload rfl rfl
theorem g10_52 {L : sl_L} {i t : Nat} : sl_Go xs N 10 52 L (.inr (.inr (1, i, t)) :: st) σ Q ↔ sl_Go xs N 10 55 L (.inr (.inr (6, i, 0)) :: st) σ Q := gk_get (g := .inr (6, i, 0)) rfl rfl rfl
theorem g10_55 {L : sl_L} : sl_Go xs N 10 55 L st σ Q ↔ sl_Go xs N 10 56 L (.inl 0 :: st) σ Q := gk_const rfl
theorem g10_56 {x : sl_R} {a1 a2 : Option sl_V} : sl_Go xs N 10 56 [some (.inr (.inr x)), a1, a2] st σ Q ↔ sl_Go xs N 10 57 [some (.inr (.inr x)), a1, a2] (.inr (.inr x) :: st) σ Q := gk_aload rfl rfl
theorem g10_57 {L : sl_L} {i t : Nat} : sl_Go xs N 10 57 L (.inr (.inr (1, i, t)) :: st) σ Q ↔ sl_Go xs N 10 60 L (.inr (.inr (6, i, 0)) :: st) σ Q := gk_get (g := .inr (6, i, 0)) rfl rfl rfl
theorem g10_60 {L : sl_L} : sl_Go xs N 10 60 L st σ Q ↔ sl_Go xs N 10 61 L (.inl 0 :: st) σ Q := gk_const rfl
theorem g10_61 {L : sl_L} : sl_Go xs N 10 61 L st σ Q ↔ sl_Go xs N 10 62 L (.inl 5 :: st) σ Q := gk_const rfl
theorem g10_62 {L : sl_L} {i j n : Int32} {q r : sl_R} : sl_Go xs N 10 62 L (.inl n :: .inl j :: .inr (.inr r) :: .inl i :: .inr (.inr q) :: st) σ Q ↔ (0 ≤ n.toInt ∧ 0 ≤ i.toInt ∧ 0 ≤ j.toInt ∧ i.toInt + n.toInt ≤ sl_wlen q 0 ∧ j.toInt + n.toInt ≤ sl_wlen r 0 ∧ sl_cw st ≤ 8) ∧ sl_Go xs N 10 65 L st (sl_cp σ q r i.toNatClampNeg j.toNatClampNeg n.toNatClampNeg) Q := gk_copy rfl
theorem g10_65 {x : sl_R} {a0 a2 : Option sl_V} : sl_Go xs N 10 65 [a0, some (.inr (.inr x)), a2] st σ Q ↔ sl_Go xs N 10 66 [a0, some (.inr (.inr x)), a2] (.inr (.inr x) :: st) σ Q := gk_aload rfl rfl
theorem g10_66 {L : sl_L} {i t : Nat} : sl_Go xs N 10 66 L (.inr (.inr (1, i, t)) :: st) σ Q ↔ sl_Go xs N 10 69 L (.inr (.inr (7, i, 0)) :: st) σ Q := gk_get (g := .inr (7, i, 0)) rfl rfl rfl
theorem g10_69 {L : sl_L} : sl_Go xs N 10 69 L st σ Q ↔ sl_Go xs N 10 70 L (.inl 0 :: st) σ Q := gk_const rfl
theorem g10_70 {x : sl_R} {a1 a2 : Option sl_V} : sl_Go xs N 10 70 [some (.inr (.inr x)), a1, a2] st σ Q ↔ sl_Go xs N 10 71 [some (.inr (.inr x)), a1, a2] (.inr (.inr x) :: st) σ Q := gk_aload rfl rfl
theorem g10_71 {L : sl_L} {i t : Nat} : sl_Go xs N 10 71 L (.inr (.inr (1, i, t)) :: st) σ Q ↔ sl_Go xs N 10 74 L (.inr (.inr (7, i, 0)) :: st) σ Q := gk_get (g := .inr (7, i, 0)) rfl rfl rfl
theorem g10_74 {L : sl_L} : sl_Go xs N 10 74 L st σ Q ↔ sl_Go xs N 10 75 L (.inl 0 :: st) σ Q := gk_const rfl
theorem g10_75 {L : sl_L} : sl_Go xs N 10 75 L st σ Q ↔ sl_Go xs N 10 76 L (.inl 5 :: st) σ Q := gk_const rfl
theorem g10_76 {L : sl_L} {i j n : Int32} {q r : sl_R} : sl_Go xs N 10 76 L (.inl n :: .inl j :: .inr (.inr r) :: .inl i :: .inr (.inr q) :: st) σ Q ↔ (0 ≤ n.toInt ∧ 0 ≤ i.toInt ∧ 0 ≤ j.toInt ∧ i.toInt + n.toInt ≤ sl_wlen q 0 ∧ j.toInt + n.toInt ≤ sl_wlen r 0 ∧ sl_cw st ≤ 8) ∧ sl_Go xs N 10 79 L st (sl_cp σ q r i.toNatClampNeg j.toNatClampNeg n.toNatClampNeg) Q := gk_copy rfl
theorem g10_79 {x : sl_R} {a0 a2 : Option sl_V} : sl_Go xs N 10 79 [a0, some (.inr (.inr x)), a2] st σ Q ↔ sl_Go xs N 10 80 [a0, some (.inr (.inr x)), a2] (.inr (.inr x) :: st) σ Q := gk_aload rfl rfl
theorem g10_80 {L : sl_L} {i t : Nat} : sl_Go xs N 10 80 L (.inr (.inr (1, i, t)) :: st) σ Q ↔ sl_Go xs N 10 83 L (.inr (.inr (8, i, 0)) :: st) σ Q := gk_get (g := .inr (8, i, 0)) rfl rfl rfl
theorem g10_83 {L : sl_L} : sl_Go xs N 10 83 L st σ Q ↔ sl_Go xs N 10 84 L (.inl 0 :: st) σ Q := gk_const rfl
theorem g10_84 {x : sl_R} {a1 a2 : Option sl_V} : sl_Go xs N 10 84 [some (.inr (.inr x)), a1, a2] st σ Q ↔ sl_Go xs N 10 85 [some (.inr (.inr x)), a1, a2] (.inr (.inr x) :: st) σ Q := gk_aload rfl rfl
theorem g10_85 {L : sl_L} {i t : Nat} : sl_Go xs N 10 85 L (.inr (.inr (1, i, t)) :: st) σ Q ↔ sl_Go xs N 10 88 L (.inr (.inr (8, i, 0)) :: st) σ Q := gk_get (g := .inr (8, i, 0)) rfl rfl rfl
theorem g10_88 {L : sl_L} : sl_Go xs N 10 88 L st σ Q ↔ sl_Go xs N 10 89 L (.inl 0 :: st) σ Q := gk_const rfl
theorem g10_89 {L : sl_L} : sl_Go xs N 10 89 L st σ Q ↔ sl_Go xs N 10 91 L (.inl 6 :: st) σ Q := gk_const rfl
theorem g10_91 {L : sl_L} {i j n : Int32} {q r : sl_R} : sl_Go xs N 10 91 L (.inl n :: .inl j :: .inr (.inr r) :: .inl i :: .inr (.inr q) :: st) σ Q ↔ (0 ≤ n.toInt ∧ 0 ≤ i.toInt ∧ 0 ≤ j.toInt ∧ i.toInt + n.toInt ≤ sl_wlen q 0 ∧ j.toInt + n.toInt ≤ sl_wlen r 0 ∧ sl_cw st ≤ 8) ∧ sl_Go xs N 10 94 L st (sl_cp σ q r i.toNatClampNeg j.toNatClampNeg n.toNatClampNeg) Q := gk_copy rfl
theorem g10_94 {x : sl_R} {a0 a2 : Option sl_V} : sl_Go xs N 10 94 [a0, some (.inr (.inr x)), a2] st σ Q ↔ sl_Go xs N 10 95 [a0, some (.inr (.inr x)), a2] (.inr (.inr x) :: st) σ Q := gk_aload rfl rfl
theorem g10_95 {L : sl_L} {i t : Nat} : sl_Go xs N 10 95 L (.inr (.inr (1, i, t)) :: st) σ Q ↔ sl_Go xs N 10 98 L (.inr (.inr (9, i, 0)) :: st) σ Q := gk_get (g := .inr (9, i, 0)) rfl rfl rfl
theorem g10_98 {L : sl_L} : sl_Go xs N 10 98 L st σ Q ↔ sl_Go xs N 10 99 L (.inl 0 :: st) σ Q := gk_const rfl
theorem g10_99 {x : sl_R} {a1 a2 : Option sl_V} : sl_Go xs N 10 99 [some (.inr (.inr x)), a1, a2] st σ Q ↔ sl_Go xs N 10 100 [some (.inr (.inr x)), a1, a2] (.inr (.inr x) :: st) σ Q := gk_aload rfl rfl
theorem g10_100 {L : sl_L} {i t : Nat} : sl_Go xs N 10 100 L (.inr (.inr (1, i, t)) :: st) σ Q ↔ sl_Go xs N 10 103 L (.inr (.inr (9, i, 0)) :: st) σ Q := gk_get (g := .inr (9, i, 0)) rfl rfl rfl
theorem g10_103 {L : sl_L} : sl_Go xs N 10 103 L st σ Q ↔ sl_Go xs N 10 104 L (.inl 0 :: st) σ Q := gk_const rfl
theorem g10_104 {L : sl_L} : sl_Go xs N 10 104 L st σ Q ↔ sl_Go xs N 10 106 L (.inl 6 :: st) σ Q := gk_const rfl
theorem g10_106 {L : sl_L} {i j n : Int32} {q r : sl_R} : sl_Go xs N 10 106 L (.inl n :: .inl j :: .inr (.inr r) :: .inl i :: .inr (.inr q) :: st) σ Q ↔ (0 ≤ n.toInt ∧ 0 ≤ i.toInt ∧ 0 ≤ j.toInt ∧ i.toInt + n.toInt ≤ sl_wlen q 0 ∧ j.toInt + n.toInt ≤ sl_wlen r 0 ∧ sl_cw st ≤ 8) ∧ sl_Go xs N 10 109 L st (sl_cp σ q r i.toNatClampNeg j.toNatClampNeg n.toNatClampNeg) Q := gk_copy rfl
theorem g10_109 {x : sl_R} {a0 a2 : Option sl_V} : sl_Go xs N 10 109 [a0, some (.inr (.inr x)), a2] st σ Q ↔ sl_Go xs N 10 110 [a0, some (.inr (.inr x)), a2] (.inr (.inr x) :: st) σ Q := gk_aload rfl rfl
theorem g10_110 {L : sl_L} {i t : Nat} : sl_Go xs N 10 110 L (.inr (.inr (1, i, t)) :: st) σ Q ↔ sl_Go xs N 10 113 L (.inr (.inr (10, i, 0)) :: st) σ Q := gk_get (g := .inr (10, i, 0)) rfl rfl rfl
theorem g10_113 {L : sl_L} : sl_Go xs N 10 113 L st σ Q ↔ sl_Go xs N 10 114 L (.inl 0 :: st) σ Q := gk_const rfl
theorem g10_114 {x : sl_R} {a1 a2 : Option sl_V} : sl_Go xs N 10 114 [some (.inr (.inr x)), a1, a2] st σ Q ↔ sl_Go xs N 10 115 [some (.inr (.inr x)), a1, a2] (.inr (.inr x) :: st) σ Q := gk_aload rfl rfl
theorem g10_115 {L : sl_L} {i t : Nat} : sl_Go xs N 10 115 L (.inr (.inr (1, i, t)) :: st) σ Q ↔ sl_Go xs N 10 118 L (.inr (.inr (10, i, 0)) :: st) σ Q := gk_get (g := .inr (10, i, 0)) rfl rfl rfl
theorem g10_118 {L : sl_L} : sl_Go xs N 10 118 L st σ Q ↔ sl_Go xs N 10 119 L (.inl 0 :: st) σ Q := gk_const rfl
theorem g10_119 {L : sl_L} : sl_Go xs N 10 119 L st σ Q ↔ sl_Go xs N 10 121 L (.inl 6 :: st) σ Q := gk_const rfl
theorem g10_121 {L : sl_L} {i j n : Int32} {q r : sl_R} : sl_Go xs N 10 121 L (.inl n :: .inl j :: .inr (.inr r) :: .inl i :: .inr (.inr q) :: st) σ Q ↔ (0 ≤ n.toInt ∧ 0 ≤ i.toInt ∧ 0 ≤ j.toInt ∧ i.toInt + n.toInt ≤ sl_wlen q 0 ∧ j.toInt + n.toInt ≤ sl_wlen r 0 ∧ sl_cw st ≤ 8) ∧ sl_Go xs N 10 124 L st (sl_cp σ q r i.toNatClampNeg j.toNatClampNeg n.toNatClampNeg) Q := gk_copy rfl
theorem g10_124 {x : sl_R} {a1 a2 : Option sl_V} : sl_Go xs N 10 124 [some (.inr (.inr x)), a1, a2] st σ Q ↔ sl_Go xs N 10 125 [some (.inr (.inr x)), a1, a2] (.inr (.inr x) :: st) σ Q := gk_aload rfl rfl
theorem g10_125 {x : sl_R} {a0 a2 : Option sl_V} : sl_Go xs N 10 125 [a0, some (.inr (.inr x)), a2] st σ Q ↔ sl_Go xs N 10 126 [a0, some (.inr (.inr x)), a2] (.inr (.inr x) :: st) σ Q := gk_aload rfl rfl
theorem g10_126 {L : sl_L} {i t : Nat} : sl_Go xs N 10 126 L (.inr (.inr (1, i, t)) :: st) σ Q ↔ sl_Go xs N 10 129 L (.inl (σ i 0 0) :: st) σ Q := gk_get (g := .inl (i, 0, 0)) rfl rfl rfl
theorem g10_129 {L : sl_L} {x : Int32} {i t : Nat} : sl_Go xs N 10 129 L (.inl x :: .inr (.inr (1, i, t)) :: st) σ Q ↔ sl_Go xs N 10 132 L st (sl_up σ i 0 0 x) Q := gk_put0 (q := (i, 0, 0)) rfl rfl rfl
theorem g10_132 {x : sl_R} {a1 a2 : Option sl_V} : sl_Go xs N 10 132 [some (.inr (.inr x)), a1, a2] st σ Q ↔ sl_Go xs N 10 133 [some (.inr (.inr x)), a1, a2] (.inr (.inr x) :: st) σ Q := gk_aload rfl rfl
theorem g10_133 {x : sl_R} {a0 a2 : Option sl_V} : sl_Go xs N 10 133 [a0, some (.inr (.inr x)), a2] st σ Q ↔ sl_Go xs N 10 134 [a0, some (.inr (.inr x)), a2] (.inr (.inr x) :: st) σ Q := gk_aload rfl rfl
theorem g10_134 {L : sl_L} {i t : Nat} : sl_Go xs N 10 134 L (.inr (.inr (1, i, t)) :: st) σ Q ↔ sl_Go xs N 10 137 L (.inl (σ i 0 1) :: st) σ Q := gk_get (g := .inl (i, 0, 1)) rfl rfl rfl
theorem g10_137 {L : sl_L} {x : Int32} {i t : Nat} : sl_Go xs N 10 137 L (.inl x :: .inr (.inr (1, i, t)) :: st) σ Q ↔ sl_Go xs N 10 140 L st (sl_up σ i 0 1 x) Q := gk_put0 (q := (i, 0, 1)) rfl rfl rfl
theorem g10_140 {x : sl_R} {a1 a2 : Option sl_V} : sl_Go xs N 10 140 [some (.inr (.inr x)), a1, a2] st σ Q ↔ sl_Go xs N 10 141 [some (.inr (.inr x)), a1, a2] (.inr (.inr x) :: st) σ Q := gk_aload rfl rfl
theorem g10_141 {x : sl_R} {a0 a2 : Option sl_V} : sl_Go xs N 10 141 [a0, some (.inr (.inr x)), a2] st σ Q ↔ sl_Go xs N 10 142 [a0, some (.inr (.inr x)), a2] (.inr (.inr x) :: st) σ Q := gk_aload rfl rfl
theorem g10_142 {L : sl_L} {i t : Nat} : sl_Go xs N 10 142 L (.inr (.inr (1, i, t)) :: st) σ Q ↔ sl_Go xs N 10 145 L (.inl (σ i 0 2) :: st) σ Q := gk_get (g := .inl (i, 0, 2)) rfl rfl rfl
theorem g10_145 {L : sl_L} {x : Int32} {i t : Nat} : sl_Go xs N 10 145 L (.inl x :: .inr (.inr (1, i, t)) :: st) σ Q ↔ sl_Go xs N 10 148 L st (sl_up σ i 0 2 x) Q := gk_put0 (q := (i, 0, 2)) rfl rfl rfl
theorem g10_148 {x : sl_R} {a1 a2 : Option sl_V} : sl_Go xs N 10 148 [some (.inr (.inr x)), a1, a2] st σ Q ↔ sl_Go xs N 10 149 [some (.inr (.inr x)), a1, a2] (.inr (.inr x) :: st) σ Q := gk_aload rfl rfl
theorem g10_149 {x : sl_R} {a0 a2 : Option sl_V} : sl_Go xs N 10 149 [a0, some (.inr (.inr x)), a2] st σ Q ↔ sl_Go xs N 10 150 [a0, some (.inr (.inr x)), a2] (.inr (.inr x) :: st) σ Q := gk_aload rfl rfl
theorem g10_150 {L : sl_L} {i t : Nat} : sl_Go xs N 10 150 L (.inr (.inr (1, i, t)) :: st) σ Q ↔ sl_Go xs N 10 153 L (.inl (σ i 8 0) :: st) σ Q := gk_get (g := .inl (i, 8, 0)) rfl rfl rfl
theorem g10_153 {L : sl_L} {x : Int32} {i t : Nat} : sl_Go xs N 10 153 L (.inl x :: .inr (.inr (1, i, t)) :: st) σ Q ↔ sl_Go xs N 10 156 L st (sl_up σ i 8 0 x) Q := gk_put0 (q := (i, 8, 0)) rfl rfl rfl
theorem g10_156 {x : sl_R} {a1 a2 : Option sl_V} : sl_Go xs N 10 156 [some (.inr (.inr x)), a1, a2] st σ Q ↔ sl_Go xs N 10 157 [some (.inr (.inr x)), a1, a2] (.inr (.inr x) :: st) σ Q := gk_aload rfl rfl
theorem g10_157 {x : sl_R} {a0 a2 : Option sl_V} : sl_Go xs N 10 157 [a0, some (.inr (.inr x)), a2] st σ Q ↔ sl_Go xs N 10 158 [a0, some (.inr (.inr x)), a2] (.inr (.inr x) :: st) σ Q := gk_aload rfl rfl
theorem g10_158 {L : sl_L} {i t : Nat} : sl_Go xs N 10 158 L (.inr (.inr (1, i, t)) :: st) σ Q ↔ sl_Go xs N 10 161 L (.inl (σ i 8 1) :: st) σ Q := gk_get (g := .inl (i, 8, 1)) rfl rfl rfl
theorem g10_161 {L : sl_L} {x : Int32} {i t : Nat} : sl_Go xs N 10 161 L (.inl x :: .inr (.inr (1, i, t)) :: st) σ Q ↔ sl_Go xs N 10 164 L st (sl_up σ i 8 1 x) Q := gk_put0 (q := (i, 8, 1)) rfl rfl rfl
theorem g10_164 {x : sl_R} {a1 a2 : Option sl_V} : sl_Go xs N 10 164 [some (.inr (.inr x)), a1, a2] st σ Q ↔ sl_Go xs N 10 165 [some (.inr (.inr x)), a1, a2] (.inr (.inr x) :: st) σ Q := gk_aload rfl rfl
theorem g10_165 {x : sl_R} {a0 a2 : Option sl_V} : sl_Go xs N 10 165 [a0, some (.inr (.inr x)), a2] st σ Q ↔ sl_Go xs N 10 166 [a0, some (.inr (.inr x)), a2] (.inr (.inr x) :: st) σ Q := gk_aload rfl rfl
theorem g10_166 {L : sl_L} {i t : Nat} : sl_Go xs N 10 166 L (.inr (.inr (1, i, t)) :: st) σ Q ↔ sl_Go xs N 10 169 L (.inl (σ i 0 5) :: st) σ Q := gk_get (g := .inl (i, 0, 5)) rfl rfl rfl
theorem g10_169 {L : sl_L} {x : Int32} {i t : Nat} : sl_Go xs N 10 169 L (.inl x :: .inr (.inr (1, i, t)) :: st) σ Q ↔ sl_Go xs N 10 172 L st (sl_up σ i 0 5 x) Q := gk_put0 (q := (i, 0, 5)) rfl rfl rfl
theorem g10_172 {x : sl_R} {a1 a2 : Option sl_V} : sl_Go xs N 10 172 [some (.inr (.inr x)), a1, a2] st σ Q ↔ sl_Go xs N 10 173 [some (.inr (.inr x)), a1, a2] (.inr (.inr x) :: st) σ Q := gk_aload rfl rfl
theorem g10_173 {x : sl_R} {a0 a2 : Option sl_V} : sl_Go xs N 10 173 [a0, some (.inr (.inr x)), a2] st σ Q ↔ sl_Go xs N 10 174 [a0, some (.inr (.inr x)), a2] (.inr (.inr x) :: st) σ Q := gk_aload rfl rfl
theorem g10_174 {L : sl_L} {i t : Nat} : sl_Go xs N 10 174 L (.inr (.inr (1, i, t)) :: st) σ Q ↔ sl_Go xs N 10 177 L (.inl (σ i 0 6) :: st) σ Q := gk_get (g := .inl (i, 0, 6)) rfl rfl rfl
theorem g10_177 {L : sl_L} {x : Int32} {i t : Nat} : sl_Go xs N 10 177 L (.inl x :: .inr (.inr (1, i, t)) :: st) σ Q ↔ sl_Go xs N 10 180 L st (sl_up σ i 0 6 x) Q := gk_put0 (q := (i, 0, 6)) rfl rfl rfl
theorem g10_180 {x : sl_R} {a1 a2 : Option sl_V} : sl_Go xs N 10 180 [some (.inr (.inr x)), a1, a2] st σ Q ↔ sl_Go xs N 10 181 [some (.inr (.inr x)), a1, a2] (.inr (.inr x) :: st) σ Q := gk_aload rfl rfl
theorem g10_181 {x : sl_R} {a0 a2 : Option sl_V} : sl_Go xs N 10 181 [a0, some (.inr (.inr x)), a2] st σ Q ↔ sl_Go xs N 10 182 [a0, some (.inr (.inr x)), a2] (.inr (.inr x) :: st) σ Q := gk_aload rfl rfl
theorem g10_182 {L : sl_L} {i t : Nat} : sl_Go xs N 10 182 L (.inr (.inr (1, i, t)) :: st) σ Q ↔ sl_Go xs N 10 185 L (.inl (σ i 0 7) :: st) σ Q := gk_get (g := .inl (i, 0, 7)) rfl rfl rfl
theorem g10_185 {L : sl_L} {x : Int32} {i t : Nat} : sl_Go xs N 10 185 L (.inl x :: .inr (.inr (1, i, t)) :: st) σ Q ↔ sl_Go xs N 10 188 L st (sl_up σ i 0 7 x) Q := gk_put0 (q := (i, 0, 7)) rfl rfl rfl
theorem g10_188 {x : sl_R} {a1 a2 : Option sl_V} : sl_Go xs N 10 188 [some (.inr (.inr x)), a1, a2] st σ Q ↔ sl_Go xs N 10 189 [some (.inr (.inr x)), a1, a2] (.inr (.inr x) :: st) σ Q := gk_aload rfl rfl
theorem g10_189 {x : sl_R} {a0 a2 : Option sl_V} : sl_Go xs N 10 189 [a0, some (.inr (.inr x)), a2] st σ Q ↔ sl_Go xs N 10 190 [a0, some (.inr (.inr x)), a2] (.inr (.inr x) :: st) σ Q := gk_aload rfl rfl
theorem g10_190 {L : sl_L} {i t : Nat} : sl_Go xs N 10 190 L (.inr (.inr (1, i, t)) :: st) σ Q ↔ sl_Go xs N 10 193 L (.inl (σ i 0 8) :: st) σ Q := gk_get (g := .inl (i, 0, 8)) rfl rfl rfl
theorem g10_193 {L : sl_L} {x : Int32} {i t : Nat} : sl_Go xs N 10 193 L (.inl x :: .inr (.inr (1, i, t)) :: st) σ Q ↔ (x = 0 ∨ x = 1) ∧ sl_Go xs N 10 196 L st (sl_up σ i 0 8 x) Q := gk_put1 (q := (i, 0, 8)) rfl rfl rfl
theorem g10_196 {x : sl_R} {a1 a2 : Option sl_V} : sl_Go xs N 10 196 [some (.inr (.inr x)), a1, a2] st σ Q ↔ sl_Go xs N 10 197 [some (.inr (.inr x)), a1, a2] (.inr (.inr x) :: st) σ Q := gk_aload rfl rfl
theorem g10_197 {L : sl_L} : sl_Go xs N 10 197 L st σ Q ↔ sl_Go xs N 10 198 L (.inl 0 :: st) σ Q := gk_const rfl
theorem g10_198 {L : sl_L} {x : Int32} {i t : Nat} : sl_Go xs N 10 198 L (.inl x :: .inr (.inr (1, i, t)) :: st) σ Q ↔ sl_Go xs N 10 201 L st (sl_up σ i 8 2 x) Q := gk_put0 (q := (i, 8, 2)) rfl rfl rfl
theorem g10_201 {L : sl_L} : sl_Go xs N 10 201 L [] σ Q ↔ Q none σ := gk_vret rfl
theorem g11_0 {L : sl_L} : sl_Go xs N 11 0 L st σ Q ↔ sl_Go xs N 11 1 L (.inl 0 :: st) σ Q := gk_const rfl
theorem g11_1n {x : Int32} {a0 a2 a3 : Option sl_V} : sl_Go xs N 11 1 [a0, none, a2, a3] (.inl x :: st) σ Q ↔ sl_Go xs N 11 2 [a0, none, some (.inl x), a3] st σ Q := gk_istore rfl ⟨Nat.le_of_ble_eq_true rfl, rfl⟩ rfl
theorem g11_1i {x : Int32} {z : Int32} {a0 a2 a3 : Option sl_V} : sl_Go xs N 11 1 [a0, some (.inl z), a2, a3] (.inl x :: st) σ Q ↔ sl_Go xs N 11 2 [a0, some (.inl z), some (.inl x), a3] st σ Q := gk_istore rfl ⟨Nat.le_of_ble_eq_true rfl, rfl⟩ rfl
theorem g11_1r {x : Int32} {z : sl_R} {a0 a2 a3 : Option sl_V} : sl_Go xs N 11 1 [a0, some (.inr (.inr z)), a2, a3] (.inl x :: st) σ Q ↔ sl_Go xs N 11 2 [a0, some (.inr (.inr z)), some (.inl x), a3] st σ Q := gk_istore rfl ⟨Nat.le_of_ble_eq_true rfl, rfl⟩ rfl
theorem g11_2 {L : sl_L} : sl_Go xs N 11 2 L st σ Q ↔ sl_Go xs N 11 3 L (.inl 0 :: st) σ Q := gk_const rfl
theorem g11_3n {x : Int32} {a0 a1 a3 : Option sl_V} : sl_Go xs N 11 3 [a0, a1, none, a3] (.inl x :: st) σ Q ↔ sl_Go xs N 11 4 [a0, a1, none, some (.inl x)] st σ Q := gk_istore rfl ⟨Nat.le_of_ble_eq_true rfl, rfl⟩ rfl
theorem g11_3i {x : Int32} {z : Int32} {a0 a1 a3 : Option sl_V} : sl_Go xs N 11 3 [a0, a1, some (.inl z), a3] (.inl x :: st) σ Q ↔ sl_Go xs N 11 4 [a0, a1, some (.inl z), some (.inl x)] st σ Q := gk_istore rfl ⟨Nat.le_of_ble_eq_true rfl, rfl⟩ rfl
theorem g11_3r {x : Int32} {z : sl_R} {a0 a1 a3 : Option sl_V} : sl_Go xs N 11 3 [a0, a1, some (.inr (.inr z)), a3] (.inl x :: st) σ Q ↔ sl_Go xs N 11 4 [a0, a1, some (.inr (.inr z)), some (.inl x)] st σ Q := gk_istore rfl ⟨Nat.le_of_ble_eq_true rfl, rfl⟩ rfl
theorem g11_4 {x : Int32} {a0 a1 a2 : Option sl_V} : sl_Go xs N 11 4 [a0, a1, a2, some (.inl x)] st σ Q ↔ sl_Go xs N 11 5 [a0, a1, a2, some (.inl x)] (.inl x :: st) σ Q := gk_iload rfl rfl
theorem g11_5 {x : sl_R} {a1 a2 a3 : Option sl_V} : sl_Go xs N 11 5 [some (.inr (.inr x)), a1, a2, a3] st σ Q ↔ sl_Go xs N 11 6 [some (.inr (.inr x)), a1, a2, a3] (.inr (.inr x) :: st) σ Q := gk_aload rfl rfl
theorem g11_6 {L : sl_L} {i t : Nat} : sl_Go xs N 11 6 L (.inr (.inr (1, i, t)) :: st) σ Q ↔ sl_Go xs N 11 9 L (.inr (.inr (11, 0, 0)) :: st) σ Q := gk_get (g := .inr (11, 0, 0)) rfl rfl rfl
theorem g11_9 {L : sl_L} {i t : Nat} : sl_Go xs N 11 9 L (.inr (.inr (11, i, t)) :: st) σ Q ↔ sl_Go xs N 11 12 L (.inr (.inr (12, 0, 0)) :: st) σ Q := gk_get (g := .inr (12, 0, 0)) rfl rfl rfl
theorem g11_12 {x : Int32} {a0 a2 a3 : Option sl_V} : sl_Go xs N 11 12 [a0, some (.inl x), a2, a3] st σ Q ↔ sl_Go xs N 11 13 [a0, some (.inl x), a2, a3] (.inl x :: st) σ Q := gk_iload rfl rfl
theorem g11_13 {L : sl_L} {j : Int32} {r : sl_R} : sl_Go xs N 11 13 L (.inl j :: .inr (.inr r) :: st) σ Q ↔ (0 ≤ j.toInt ∧ j.toInt < sl_rlen r) ∧ sl_Go xs N 11 14 L (.inr (.inr (sl_rg r j.toNatClampNeg)) :: st) σ Q := gk_aald rfl
theorem g11_14 {L : sl_L} {i t : Nat} : sl_Go xs N 11 14 L (.inr (.inr (13, i, t)) :: st) σ Q ↔ sl_Go xs N 11 17 L (.inl (σ 5 2 t) :: st) σ Q := gk_get (g := .inl (5, 2, t)) rfl rfl rfl
theorem g11_17 {L : sl_L} {x y : Int32} : sl_Go xs N 11 17 L (.inl y :: .inl x :: st) σ Q ↔ (y ≤ x → sl_Go xs N 11 37 L st σ Q) ∧ (¬ y ≤ x → sl_Go xs N 11 20 L st σ Q) := gk_ige rfl
theorem g11_20 {x : Int32} {a0 a1 a3 : Option sl_V} : sl_Go xs N 11 20 [a0, a1, some (.inl x), a3] st σ Q ↔ sl_Go xs N 11 21 [a0, a1, some (.inl x), a3] (.inl x :: st) σ Q := gk_iload rfl rfl
theorem g11_21 {x : sl_R} {a1 a2 a3 : Option sl_V} : sl_Go xs N 11 21 [some (.inr (.inr x)), a1, a2, a3] st σ Q ↔ sl_Go xs N 11 22 [some (.inr (.inr x)), a1, a2, a3] (.inr (.inr x) :: st) σ Q := gk_aload rfl rfl
theorem g11_22 {L : sl_L} {i t : Nat} : sl_Go xs N 11 22 L (.inr (.inr (1, i, t)) :: st) σ Q ↔ sl_Go xs N 11 25 L (.inr (.inr (2, i, 0)) :: st) σ Q := gk_get (g := .inr (2, i, 0)) rfl rfl rfl
theorem g11_25 {x : Int32} {a0 a2 a3 : Option sl_V} : sl_Go xs N 11 25 [a0, some (.inl x), a2, a3] st σ Q ↔ sl_Go xs N 11 26 [a0, some (.inl x), a2, a3] (.inl x :: st) σ Q := gk_iload rfl rfl
theorem g11_26 {L : sl_L} {j : Int32} {r : sl_R} : sl_Go xs N 11 26 L (.inl j :: .inr (.inr r) :: st) σ Q ↔ (0 ≤ j.toInt ∧ j.toInt < sl_rlen r) ∧ sl_Go xs N 11 27 L (.inr (.inr (sl_rg r j.toNatClampNeg)) :: st) σ Q := gk_aald rfl
theorem g11_27 {x : Int32} {a0 a1 a2 : Option sl_V} : sl_Go xs N 11 27 [a0, a1, a2, some (.inl x)] st σ Q ↔ sl_Go xs N 11 28 [a0, a1, a2, some (.inl x)] (.inl x :: st) σ Q := gk_iload rfl rfl
theorem g11_28 {L : sl_L} {j : Int32} {r : sl_R} : sl_Go xs N 11 28 L (.inl j :: .inr (.inr r) :: st) σ Q ↔ (0 ≤ j.toInt ∧ j.toInt < sl_ilen N r) ∧ sl_Go xs N 11 29 L (.inl (sl_rd xs σ r j.toNatClampNeg) :: st) σ Q := gk_iald rfl
theorem g11_29 {L : sl_L} {x y : Int32} : sl_Go xs N 11 29 L (.inl y :: .inl x :: st) σ Q ↔ sl_Go xs N 11 30 L (.inl (x + y) :: st) σ Q := gk_bin (b := 8) rfl
theorem g11_30n {x : Int32} {a0 a2 a3 : Option sl_V} : sl_Go xs N 11 30 [a0, none, a2, a3] (.inl x :: st) σ Q ↔ sl_Go xs N 11 31 [a0, none, some (.inl x), a3] st σ Q := gk_istore rfl ⟨Nat.le_of_ble_eq_true rfl, rfl⟩ rfl
theorem g11_30i {x : Int32} {z : Int32} {a0 a2 a3 : Option sl_V} : sl_Go xs N 11 30 [a0, some (.inl z), a2, a3] (.inl x :: st) σ Q ↔ sl_Go xs N 11 31 [a0, some (.inl z), some (.inl x), a3] st σ Q := gk_istore rfl ⟨Nat.le_of_ble_eq_true rfl, rfl⟩ rfl
theorem g11_30r {x : Int32} {z : sl_R} {a0 a2 a3 : Option sl_V} : sl_Go xs N 11 30 [a0, some (.inr (.inr z)), a2, a3] (.inl x :: st) σ Q ↔ sl_Go xs N 11 31 [a0, some (.inr (.inr z)), some (.inl x), a3] st σ Q := gk_istore rfl ⟨Nat.le_of_ble_eq_true rfl, rfl⟩ rfl
theorem g11_31n {x : Int32} {a0 a1 : Option sl_V} : sl_Go xs N 11 31 [a0, a1, none, some (.inl x)] st σ Q ↔ sl_Go xs N 11 34 [a0, a1, none, some (.inl (x + 1))] st σ Q := gk_iinc rfl rfl rfl rfl
theorem g11_31i {x : Int32} {z : Int32} {a0 a1 : Option sl_V} : sl_Go xs N 11 31 [a0, a1, some (.inl z), some (.inl x)] st σ Q ↔ sl_Go xs N 11 34 [a0, a1, some (.inl z), some (.inl (x + 1))] st σ Q := gk_iinc rfl rfl rfl rfl
theorem g11_31r {x : Int32} {z : sl_R} {a0 a1 : Option sl_V} : sl_Go xs N 11 31 [a0, a1, some (.inr (.inr z)), some (.inl x)] st σ Q ↔ sl_Go xs N 11 34 [a0, a1, some (.inr (.inr z)), some (.inl (x + 1))] st σ Q := gk_iinc rfl rfl rfl rfl
theorem g11_34 {L : sl_L} : sl_Go xs N 11 34 L st σ Q ↔ sl_Go xs N 11 4 L st σ Q := gk_goto rfl
theorem g11_37 {x : Int32} {a0 a1 a3 : Option sl_V} : sl_Go xs N 11 37 [a0, a1, some (.inl x), a3] st σ Q ↔ sl_Go xs N 11 38 [a0, a1, some (.inl x), a3] (.inl x :: st) σ Q := gk_iload rfl rfl
theorem g11_38 {L : sl_L} {x : Int32} : sl_Go xs N 11 38 L [.inl x] σ Q ↔ Q (some (.inl x)) σ := gk_iret rfl
theorem g12_0 {x : sl_R} {a1 a2 a3 a4 : Option sl_V} : sl_Go xs N 12 0 [some (.inr (.inr x)), a1, a2, a3, a4] st σ Q ↔ sl_Go xs N 12 1 [some (.inr (.inr x)), a1, a2, a3, a4] (.inr (.inr x) :: st) σ Q := gk_aload rfl rfl
theorem g12_1 {L : sl_L} {i t : Nat} : sl_Go xs N 12 1 L (.inr (.inr (1, i, t)) :: st) σ Q ↔ sl_Go xs N 12 4 L (.inr (.inr (11, 0, 0)) :: st) σ Q := gk_get (g := .inr (11, 0, 0)) rfl rfl rfl
theorem g12_4 {L : sl_L} {i t : Nat} : sl_Go xs N 12 4 L (.inr (.inr (11, i, t)) :: st) σ Q ↔ sl_Go xs N 12 7 L (.inr (.inr (12, 0, 0)) :: st) σ Q := gk_get (g := .inr (12, 0, 0)) rfl rfl rfl
theorem g12_7 {x : Int32} {a0 a2 a3 a4 : Option sl_V} : sl_Go xs N 12 7 [a0, some (.inl x), a2, a3, a4] st σ Q ↔ sl_Go xs N 12 8 [a0, some (.inl x), a2, a3, a4] (.inl x :: st) σ Q := gk_iload rfl rfl
theorem g12_8 {L : sl_L} {j : Int32} {r : sl_R} : sl_Go xs N 12 8 L (.inl j :: .inr (.inr r) :: st) σ Q ↔ (0 ≤ j.toInt ∧ j.toInt < sl_rlen r) ∧ sl_Go xs N 12 9 L (.inr (.inr (sl_rg r j.toNatClampNeg)) :: st) σ Q := gk_aald rfl
theorem g12_9 {L : sl_L} {i t : Nat} : sl_Go xs N 12 9 L (.inr (.inr (13, i, t)) :: st) σ Q ↔ sl_Go xs N 12 12 L (.inl (σ 5 2 t) :: st) σ Q := gk_get (g := .inl (5, 2, t)) rfl rfl rfl
theorem g12_12n {x : Int32} {a0 a1 a3 a4 : Option sl_V} : sl_Go xs N 12 12 [a0, a1, none, a3, a4] (.inl x :: st) σ Q ↔ sl_Go xs N 12 13 [a0, a1, none, some (.inl x), a4] st σ Q := gk_istore rfl ⟨Nat.le_of_ble_eq_true rfl, rfl⟩ rfl
theorem g12_12i {x : Int32} {z : Int32} {a0 a1 a3 a4 : Option sl_V} : sl_Go xs N 12 12 [a0, a1, some (.inl z), a3, a4] (.inl x :: st) σ Q ↔ sl_Go xs N 12 13 [a0, a1, some (.inl z), some (.inl x), a4] st σ Q := gk_istore rfl ⟨Nat.le_of_ble_eq_true rfl, rfl⟩ rfl
theorem g12_12r {x : Int32} {z : sl_R} {a0 a1 a3 a4 : Option sl_V} : sl_Go xs N 12 12 [a0, a1, some (.inr (.inr z)), a3, a4] (.inl x :: st) σ Q ↔ sl_Go xs N 12 13 [a0, a1, some (.inr (.inr z)), some (.inl x), a4] st σ Q := gk_istore rfl ⟨Nat.le_of_ble_eq_true rfl, rfl⟩ rfl
theorem g12_13 {x : Int32} {a0 a1 a2 a4 : Option sl_V} : sl_Go xs N 12 13 [a0, a1, a2, some (.inl x), a4] st σ Q ↔ sl_Go xs N 12 14 [a0, a1, a2, some (.inl x), a4] (.inl x :: st) σ Q := gk_iload rfl rfl
theorem g12_14 {L : sl_L} {x : Int32} : sl_Go xs N 12 14 L (.inl x :: st) σ Q ↔ (¬ x = 0 → sl_Go xs N 12 18 L st σ Q) ∧ (x = 0 → sl_Go xs N 12 17 L st σ Q) := gk_zne rfl
theorem g12_17 {L : sl_L} : sl_Go xs N 12 17 L [] σ Q ↔ Q none σ := gk_vret rfl
theorem g12_18 {L : sl_L} : sl_Go xs N 12 18 L st σ Q ↔ sl_Go xs N 12 19 L (.inl 0 :: st) σ Q := gk_const rfl
theorem g12_19n {x : Int32} {a0 a1 a2 a4 : Option sl_V} : sl_Go xs N 12 19 [a0, a1, a2, none, a4] (.inl x :: st) σ Q ↔ sl_Go xs N 12 21 [a0, a1, a2, none, some (.inl x)] st σ Q := gk_istore rfl ⟨Nat.le_of_ble_eq_true rfl, rfl⟩ rfl
theorem g12_19i {x : Int32} {z : Int32} {a0 a1 a2 a4 : Option sl_V} : sl_Go xs N 12 19 [a0, a1, a2, some (.inl z), a4] (.inl x :: st) σ Q ↔ sl_Go xs N 12 21 [a0, a1, a2, some (.inl z), some (.inl x)] st σ Q := gk_istore rfl ⟨Nat.le_of_ble_eq_true rfl, rfl⟩ rfl
theorem g12_19r {x : Int32} {z : sl_R} {a0 a1 a2 a4 : Option sl_V} : sl_Go xs N 12 19 [a0, a1, a2, some (.inr (.inr z)), a4] (.inl x :: st) σ Q ↔ sl_Go xs N 12 21 [a0, a1, a2, some (.inr (.inr z)), some (.inl x)] st σ Q := gk_istore rfl ⟨Nat.le_of_ble_eq_true rfl, rfl⟩ rfl
theorem g12_21 {x : Int32} {a0 a1 a2 a3 : Option sl_V} : sl_Go xs N 12 21 [a0, a1, a2, a3, some (.inl x)] st σ Q ↔ sl_Go xs N 12 23 [a0, a1, a2, a3, some (.inl x)] (.inl x :: st) σ Q := gk_iload rfl rfl
theorem g12_23 {x : Int32} {a0 a1 a2 a4 : Option sl_V} : sl_Go xs N 12 23 [a0, a1, a2, some (.inl x), a4] st σ Q ↔ sl_Go xs N 12 24 [a0, a1, a2, some (.inl x), a4] (.inl x :: st) σ Q := gk_iload rfl rfl
theorem g12_24 {L : sl_L} {x y : Int32} : sl_Go xs N 12 24 L (.inl y :: .inl x :: st) σ Q ↔ (y ≤ x → sl_Go xs N 12 69 L st σ Q) ∧ (¬ y ≤ x → sl_Go xs N 12 27 L st σ Q) := gk_ige rfl
theorem g12_27 {x : sl_R} {a1 a2 a3 a4 : Option sl_V} : sl_Go xs N 12 27 [some (.inr (.inr x)), a1, a2, a3, a4] st σ Q ↔ sl_Go xs N 12 28 [some (.inr (.inr x)), a1, a2, a3, a4] (.inr (.inr x) :: st) σ Q := gk_aload rfl rfl
theorem g12_28 {L : sl_L} {i t : Nat} : sl_Go xs N 12 28 L (.inr (.inr (1, i, t)) :: st) σ Q ↔ sl_Go xs N 12 31 L (.inr (.inr (2, i, 0)) :: st) σ Q := gk_get (g := .inr (2, i, 0)) rfl rfl rfl
theorem g12_31 {x : Int32} {a0 a2 a3 a4 : Option sl_V} : sl_Go xs N 12 31 [a0, some (.inl x), a2, a3, a4] st σ Q ↔ sl_Go xs N 12 32 [a0, some (.inl x), a2, a3, a4] (.inl x :: st) σ Q := gk_iload rfl rfl
theorem g12_32 {L : sl_L} {j : Int32} {r : sl_R} : sl_Go xs N 12 32 L (.inl j :: .inr (.inr r) :: st) σ Q ↔ (0 ≤ j.toInt ∧ j.toInt < sl_rlen r) ∧ sl_Go xs N 12 33 L (.inr (.inr (sl_rg r j.toNatClampNeg)) :: st) σ Q := gk_aald rfl
theorem g12_33 {x : Int32} {a0 a1 a2 a3 : Option sl_V} : sl_Go xs N 12 33 [a0, a1, a2, a3, some (.inl x)] st σ Q ↔ sl_Go xs N 12 35 [a0, a1, a2, a3, some (.inl x)] (.inl x :: st) σ Q := gk_iload rfl rfl
theorem g12_35 {x : Int32} {a0 a1 a3 a4 : Option sl_V} : sl_Go xs N 12 35 [a0, a1, some (.inl x), a3, a4] st σ Q ↔ sl_Go xs N 12 36 [a0, a1, some (.inl x), a3, a4] (.inl x :: st) σ Q := gk_iload rfl rfl
theorem g12_36 {x : Int32} {a0 a1 a2 a4 : Option sl_V} : sl_Go xs N 12 36 [a0, a1, a2, some (.inl x), a4] st σ Q ↔ sl_Go xs N 12 37 [a0, a1, a2, some (.inl x), a4] (.inl x :: st) σ Q := gk_iload rfl rfl
theorem g12_37 {L : sl_L} {x y : Int32} : sl_Go xs N 12 37 L (.inl y :: .inl x :: st) σ Q ↔ ¬ y = 0 ∧ sl_Go xs N 12 38 L (.inl (x / y) :: st) σ Q := gk_idiv rfl
theorem g12_38 {x : Int32} {a0 a1 a2 a3 : Option sl_V} : sl_Go xs N 12 38 [a0, a1, a2, a3, some (.inl x)] st σ Q ↔ sl_Go xs N 12 40 [a0, a1, a2, a3, some (.inl x)] (.inl x :: st) σ Q := gk_iload rfl rfl
theorem g12_40 {x : Int32} {a0 a1 a3 a4 : Option sl_V} : sl_Go xs N 12 40 [a0, a1, some (.inl x), a3, a4] st σ Q ↔ sl_Go xs N 12 41 [a0, a1, some (.inl x), a3, a4] (.inl x :: st) σ Q := gk_iload rfl rfl
theorem g12_41 {x : Int32} {a0 a1 a2 a4 : Option sl_V} : sl_Go xs N 12 41 [a0, a1, a2, some (.inl x), a4] st σ Q ↔ sl_Go xs N 12 42 [a0, a1, a2, some (.inl x), a4] (.inl x :: st) σ Q := gk_iload rfl rfl
theorem g12_42 {L : sl_L} {x y : Int32} : sl_Go xs N 12 42 L (.inl y :: .inl x :: st) σ Q ↔ ¬ y = 0 ∧ sl_Go xs N 12 43 L (.inl (x - x / y * y) :: st) σ Q := gk_irem rfl
theorem g12_43 {L : sl_L} {x y : Int32} : sl_Go xs N 12 43 L (.inl y :: .inl x :: st) σ Q ↔ (y ≤ x → sl_Go xs N 12 50 L st σ Q) ∧ (¬ y ≤ x → sl_Go xs N 12 46 L st σ Q) := gk_ige rfl
theorem g12_46 {L : sl_L} : sl_Go xs N 12 46 L st σ Q ↔ sl_Go xs N 12 47 L (.inl 1 :: st) σ Q := gk_const rfl
theorem g12_47 {L : sl_L} : sl_Go xs N 12 47 L st σ Q ↔ sl_Go xs N 12 51 L st σ Q := gk_goto rfl
theorem g12_50 {L : sl_L} : sl_Go xs N 12 50 L st σ Q ↔ sl_Go xs N 12 51 L (.inl 0 :: st) σ Q := gk_const rfl
theorem g12_51 {L : sl_L} {x y : Int32} : sl_Go xs N 12 51 L (.inl y :: .inl x :: st) σ Q ↔ sl_Go xs N 12 52 L (.inl (x + y) :: st) σ Q := gk_bin (b := 8) rfl
theorem g12_52 {L : sl_L} {j x : Int32} {r : sl_R} : sl_Go xs N 12 52 L (.inl x :: .inl j :: .inr (.inr r) :: st) σ Q ↔ (0 ≤ j.toInt ∧ j.toInt < sl_wlen r 0) ∧ sl_Go xs N 12 53 L st (sl_wr σ r j.toNatClampNeg x) Q := gk_iast rfl
theorem g12_53 {x : sl_R} {a1 a2 a3 a4 : Option sl_V} : sl_Go xs N 12 53 [some (.inr (.inr x)), a1, a2, a3, a4] st σ Q ↔ sl_Go xs N 12 54 [some (.inr (.inr x)), a1, a2, a3, a4] (.inr (.inr x) :: st) σ Q := gk_aload rfl rfl
theorem g12_54 {L : sl_L} {i t : Nat} : sl_Go xs N 12 54 L (.inr (.inr (1, i, t)) :: st) σ Q ↔ sl_Go xs N 12 57 L (.inr (.inr (3, i, 0)) :: st) σ Q := gk_get (g := .inr (3, i, 0)) rfl rfl rfl
theorem g12_57 {x : Int32} {a0 a2 a3 a4 : Option sl_V} : sl_Go xs N 12 57 [a0, some (.inl x), a2, a3, a4] st σ Q ↔ sl_Go xs N 12 58 [a0, some (.inl x), a2, a3, a4] (.inl x :: st) σ Q := gk_iload rfl rfl
theorem g12_58 {L : sl_L} {j : Int32} {r : sl_R} : sl_Go xs N 12 58 L (.inl j :: .inr (.inr r) :: st) σ Q ↔ (0 ≤ j.toInt ∧ j.toInt < sl_rlen r) ∧ sl_Go xs N 12 59 L (.inr (.inr (sl_rg r j.toNatClampNeg)) :: st) σ Q := gk_aald rfl
theorem g12_59 {x : Int32} {a0 a1 a2 a3 : Option sl_V} : sl_Go xs N 12 59 [a0, a1, a2, a3, some (.inl x)] st σ Q ↔ sl_Go xs N 12 61 [a0, a1, a2, a3, some (.inl x)] (.inl x :: st) σ Q := gk_iload rfl rfl
theorem g12_61 {L : sl_L} : sl_Go xs N 12 61 L st σ Q ↔ sl_Go xs N 12 62 L (.inl 0 :: st) σ Q := gk_const rfl
theorem g12_62 {L : sl_L} {j x : Int32} {r : sl_R} : sl_Go xs N 12 62 L (.inl x :: .inl j :: .inr (.inr r) :: st) σ Q ↔ (0 ≤ j.toInt ∧ j.toInt < sl_wlen r 0) ∧ sl_Go xs N 12 63 L st (sl_wr σ r j.toNatClampNeg x) Q := gk_iast rfl
theorem g12_63n {x : Int32} {a0 a1 a2 : Option sl_V} : sl_Go xs N 12 63 [a0, a1, a2, none, some (.inl x)] st σ Q ↔ sl_Go xs N 12 66 [a0, a1, a2, none, some (.inl (x + 1))] st σ Q := gk_iinc rfl rfl rfl rfl
theorem g12_63i {x : Int32} {z : Int32} {a0 a1 a2 : Option sl_V} : sl_Go xs N 12 63 [a0, a1, a2, some (.inl z), some (.inl x)] st σ Q ↔ sl_Go xs N 12 66 [a0, a1, a2, some (.inl z), some (.inl (x + 1))] st σ Q := gk_iinc rfl rfl rfl rfl
theorem g12_63r {x : Int32} {z : sl_R} {a0 a1 a2 : Option sl_V} : sl_Go xs N 12 63 [a0, a1, a2, some (.inr (.inr z)), some (.inl x)] st σ Q ↔ sl_Go xs N 12 66 [a0, a1, a2, some (.inr (.inr z)), some (.inl (x + 1))] st σ Q := gk_iinc rfl rfl rfl rfl
theorem g12_66 {L : sl_L} : sl_Go xs N 12 66 L st σ Q ↔ sl_Go xs N 12 21 L st σ Q := gk_goto rfl
theorem g12_69 {L : sl_L} : sl_Go xs N 12 69 L [] σ Q ↔ Q none σ := gk_vret rfl
theorem g13_0 {x : sl_R} {a1 : Option sl_V} : sl_Go xs N 13 0 [some (.inr (.inr x)), a1] st σ Q ↔ sl_Go xs N 13 1 [some (.inr (.inr x)), a1] (.inr (.inr x) :: st) σ Q := gk_aload rfl rfl
theorem g13_1 {x : Int32} {a0 : Option sl_V} : sl_Go xs N 13 1 [a0, some (.inl x)] st σ Q ↔ sl_Go xs N 13 2 [a0, some (.inl x)] (.inl x :: st) σ Q := gk_iload rfl rfl
theorem g13_2 {L : sl_L} {x : Int32} {i t : Nat} : sl_Go xs N 13 2 L (.inl x :: .inr (.inr (1, i, t)) :: st) σ Q ↔ sl_Go xs N 13 5 L st (sl_up σ i 0 2 x) Q := gk_put0 (q := (i, 0, 2)) rfl rfl rfl
theorem g13_5 {x : sl_R} {a1 : Option sl_V} : sl_Go xs N 13 5 [some (.inr (.inr x)), a1] st σ Q ↔ sl_Go xs N 13 6 [some (.inr (.inr x)), a1] (.inr (.inr x) :: st) σ Q := gk_aload rfl rfl
theorem g13_6 {L : sl_L} : sl_Go xs N 13 6 L st σ Q ↔ sl_Go xs N 13 7 L (.inl 0 :: st) σ Q := gk_const rfl
theorem g13_7 {L : sl_L} {x : Int32} {i t : Nat} : sl_Go xs N 13 7 L (.inl x :: .inr (.inr (1, i, t)) :: st) σ Q ↔ sl_Go xs N 13 10 L st (sl_up σ i 8 0 x) Q := gk_put0 (q := (i, 8, 0)) rfl rfl rfl
theorem g13_10 {x : sl_R} {a1 : Option sl_V} : sl_Go xs N 13 10 [some (.inr (.inr x)), a1] st σ Q ↔ sl_Go xs N 13 11 [some (.inr (.inr x)), a1] (.inr (.inr x) :: st) σ Q := gk_aload rfl rfl
theorem g13_11 {L : sl_L} : sl_Go xs N 13 11 L st σ Q ↔ sl_Go xs N 13 12 L (.inl 0 :: st) σ Q := gk_const rfl
theorem g13_12 {L : sl_L} {x : Int32} {i t : Nat} : sl_Go xs N 13 12 L (.inl x :: .inr (.inr (1, i, t)) :: st) σ Q ↔ sl_Go xs N 13 15 L st (sl_up σ i 8 1 x) Q := gk_put0 (q := (i, 8, 1)) rfl rfl rfl
theorem g13_15 {L : sl_L} : sl_Go xs N 13 15 L [] σ Q ↔ Q none σ := gk_vret rfl
theorem g14_0 {L : sl_L} : sl_Go xs N 14 0 L st σ Q ↔ sl_Go xs N 14 1 L (.inl 0 :: st) σ Q := gk_const rfl
theorem g14_1n {x : Int32} {a0 a2 : Option sl_V} : sl_Go xs N 14 1 [a0, none, a2] (.inl x :: st) σ Q ↔ sl_Go xs N 14 2 [a0, none, some (.inl x)] st σ Q := gk_istore rfl ⟨Nat.le_of_ble_eq_true rfl, rfl⟩ rfl
theorem g14_1i {x : Int32} {z : Int32} {a0 a2 : Option sl_V} : sl_Go xs N 14 1 [a0, some (.inl z), a2] (.inl x :: st) σ Q ↔ sl_Go xs N 14 2 [a0, some (.inl z), some (.inl x)] st σ Q := gk_istore rfl ⟨Nat.le_of_ble_eq_true rfl, rfl⟩ rfl
theorem g14_1r {x : Int32} {z : sl_R} {a0 a2 : Option sl_V} : sl_Go xs N 14 1 [a0, some (.inr (.inr z)), a2] (.inl x :: st) σ Q ↔ sl_Go xs N 14 2 [a0, some (.inr (.inr z)), some (.inl x)] st σ Q := gk_istore rfl ⟨Nat.le_of_ble_eq_true rfl, rfl⟩ rfl
theorem g14_2 {x : Int32} {a0 a1 : Option sl_V} : sl_Go xs N 14 2 [a0, a1, some (.inl x)] st σ Q ↔ sl_Go xs N 14 3 [a0, a1, some (.inl x)] (.inl x :: st) σ Q := gk_iload rfl rfl
theorem g14_3 {x : Int32} {a0 a2 : Option sl_V} : sl_Go xs N 14 3 [a0, some (.inl x), a2] st σ Q ↔ sl_Go xs N 14 4 [a0, some (.inl x), a2] (.inl x :: st) σ Q := gk_iload rfl rfl
theorem g14_4 {L : sl_L} {x y : Int32} : sl_Go xs N 14 4 L (.inl y :: .inl x :: st) σ Q ↔ (y ≤ x → sl_Go xs N 14 17 L st σ Q) ∧ (¬ y ≤ x → sl_Go xs N 14 7 L st σ Q) := gk_ige rfl
theorem g14_7 {x : sl_R} {a1 a2 : Option sl_V} : sl_Go xs N 14 7 [some (.inr (.inr x)), a1, a2] st σ Q ↔ sl_Go xs N 14 8 [some (.inr (.inr x)), a1, a2] (.inr (.inr x) :: st) σ Q := gk_aload rfl rfl
theorem g14_8 {L : sl_L} {o : sl_R} : sl_Go xs N 14 8 L (.inr (.inr o) :: st) σ Q ↔ sl_cw st ≤ 8 ∧ sl_Go xs N 15 0 [some (.inr (.inr o)), none] [] σ (fun r τ => sl_Go xs N 14 11 L (r.toList ++ st) τ Q) := gk_call rfl (Nat.le_add_left 1 st.length) rfl rfl rfl
theorem g14_11n {x : Int32} {a0 : Option sl_V} : sl_Go xs N 14 11 [a0, none, some (.inl x)] st σ Q ↔ sl_Go xs N 14 14 [a0, none, some (.inl (x + 1))] st σ Q := gk_iinc rfl rfl rfl rfl
theorem g14_11i {x : Int32} {z : Int32} {a0 : Option sl_V} : sl_Go xs N 14 11 [a0, some (.inl z), some (.inl x)] st σ Q ↔ sl_Go xs N 14 14 [a0, some (.inl z), some (.inl (x + 1))] st σ Q := gk_iinc rfl rfl rfl rfl
theorem g14_11r {x : Int32} {z : sl_R} {a0 : Option sl_V} : sl_Go xs N 14 11 [a0, some (.inr (.inr z)), some (.inl x)] st σ Q ↔ sl_Go xs N 14 14 [a0, some (.inr (.inr z)), some (.inl (x + 1))] st σ Q := gk_iinc rfl rfl rfl rfl
theorem g14_14 {L : sl_L} : sl_Go xs N 14 14 L st σ Q ↔ sl_Go xs N 14 2 L st σ Q := gk_goto rfl
theorem g14_17 {L : sl_L} : sl_Go xs N 14 17 L [] σ Q ↔ Q none σ := gk_vret rfl
theorem g15_0 {x : sl_R} {a1 : Option sl_V} : sl_Go xs N 15 0 [some (.inr (.inr x)), a1] st σ Q ↔ sl_Go xs N 15 1 [some (.inr (.inr x)), a1] (.inr (.inr x) :: st) σ Q := gk_aload rfl rfl
theorem g15_1 {L : sl_L} {o : sl_R} : sl_Go xs N 15 1 L (.inr (.inr o) :: st) σ Q ↔ sl_cw st ≤ 8 ∧ sl_Go xs N 16 0 [some (.inr (.inr o)), none] [] σ (fun r τ => sl_Go xs N 15 4 L (r.toList ++ st) τ Q) := gk_call rfl (Nat.le_add_left 1 st.length) rfl rfl rfl
theorem g15_4 {L : sl_L} : sl_Go xs N 15 4 L st σ Q ↔ sl_Go xs N 15 5 L (.inl 0 :: st) σ Q := gk_const rfl
theorem g15_5n {x : Int32} {a1 : Option sl_V} : sl_Go xs N 15 5 [none, a1] (.inl x :: st) σ Q ↔ sl_Go xs N 15 6 [none, some (.inl x)] st σ Q := gk_istore rfl ⟨Nat.le_of_ble_eq_true rfl, rfl⟩ rfl
theorem g15_5i {x : Int32} {z : Int32} {a1 : Option sl_V} : sl_Go xs N 15 5 [some (.inl z), a1] (.inl x :: st) σ Q ↔ sl_Go xs N 15 6 [some (.inl z), some (.inl x)] st σ Q := gk_istore rfl ⟨Nat.le_of_ble_eq_true rfl, rfl⟩ rfl
theorem g15_5r {x : Int32} {z : sl_R} {a1 : Option sl_V} : sl_Go xs N 15 5 [some (.inr (.inr z)), a1] (.inl x :: st) σ Q ↔ sl_Go xs N 15 6 [some (.inr (.inr z)), some (.inl x)] st σ Q := gk_istore rfl ⟨Nat.le_of_ble_eq_true rfl, rfl⟩ rfl
theorem g15_6 {x : Int32} {a0 : Option sl_V} : sl_Go xs N 15 6 [a0, some (.inl x)] st σ Q ↔ sl_Go xs N 15 7 [a0, some (.inl x)] (.inl x :: st) σ Q := gk_iload rfl rfl
theorem g15_7 {x : sl_R} {a1 : Option sl_V} : sl_Go xs N 15 7 [some (.inr (.inr x)), a1] st σ Q ↔ sl_Go xs N 15 8 [some (.inr (.inr x)), a1] (.inr (.inr x) :: st) σ Q := gk_aload rfl rfl
theorem g15_8 {L : sl_L} {i t : Nat} : sl_Go xs N 15 8 L (.inr (.inr (1, i, t)) :: st) σ Q ↔ sl_Go xs N 15 11 L (.inr (.inr (11, 0, 0)) :: st) σ Q := gk_get (g := .inr (11, 0, 0)) rfl rfl rfl
theorem g15_11 {L : sl_L} {i t : Nat} : sl_Go xs N 15 11 L (.inr (.inr (11, i, t)) :: st) σ Q ↔ sl_Go xs N 15 14 L (.inl (σ 5 0 0) :: st) σ Q := gk_get (g := .inl (5, 0, 0)) rfl rfl rfl
theorem g15_14 {L : sl_L} {x y : Int32} : sl_Go xs N 15 14 L (.inl y :: .inl x :: st) σ Q ↔ (y ≤ x → sl_Go xs N 15 28 L st σ Q) ∧ (¬ y ≤ x → sl_Go xs N 15 17 L st σ Q) := gk_ige rfl
theorem g15_17 {x : sl_R} {a1 : Option sl_V} : sl_Go xs N 15 17 [some (.inr (.inr x)), a1] st σ Q ↔ sl_Go xs N 15 18 [some (.inr (.inr x)), a1] (.inr (.inr x) :: st) σ Q := gk_aload rfl rfl
theorem g15_18 {x : Int32} {a0 : Option sl_V} : sl_Go xs N 15 18 [a0, some (.inl x)] st σ Q ↔ sl_Go xs N 15 19 [a0, some (.inl x)] (.inl x :: st) σ Q := gk_iload rfl rfl
theorem g15_19 {L : sl_L} {o : sl_R} {x0 : Int32} : sl_Go xs N 15 19 L (.inl x0 :: .inr (.inr o) :: st) σ Q ↔ sl_cw st ≤ 8 ∧ sl_Go xs N 17 0 [some (.inr (.inr o)), some (.inl x0), none, none, none, none, none, none, none] [] σ (fun r τ => sl_Go xs N 15 22 L (r.toList ++ st) τ Q) := gk_call rfl (Nat.le_add_left 2 st.length) rfl rfl rfl
theorem g15_22n {x : Int32} : sl_Go xs N 15 22 [none, some (.inl x)] st σ Q ↔ sl_Go xs N 15 25 [none, some (.inl (x + 1))] st σ Q := gk_iinc rfl rfl rfl rfl
theorem g15_22i {x : Int32} {z : Int32} : sl_Go xs N 15 22 [some (.inl z), some (.inl x)] st σ Q ↔ sl_Go xs N 15 25 [some (.inl z), some (.inl (x + 1))] st σ Q := gk_iinc rfl rfl rfl rfl
theorem g15_22r {x : Int32} {z : sl_R} : sl_Go xs N 15 22 [some (.inr (.inr z)), some (.inl x)] st σ Q ↔ sl_Go xs N 15 25 [some (.inr (.inr z)), some (.inl (x + 1))] st σ Q := gk_iinc rfl rfl rfl rfl
theorem g15_25 {L : sl_L} : sl_Go xs N 15 25 L st σ Q ↔ sl_Go xs N 15 6 L st σ Q := gk_goto rfl
theorem g15_28 {L : sl_L} : sl_Go xs N 15 28 L st σ Q ↔ sl_Go xs N 15 29 L (.inl 0 :: st) σ Q := gk_const rfl
theorem g15_29n {x : Int32} {a1 : Option sl_V} : sl_Go xs N 15 29 [none, a1] (.inl x :: st) σ Q ↔ sl_Go xs N 15 30 [none, some (.inl x)] st σ Q := gk_istore rfl ⟨Nat.le_of_ble_eq_true rfl, rfl⟩ rfl
theorem g15_29i {x : Int32} {z : Int32} {a1 : Option sl_V} : sl_Go xs N 15 29 [some (.inl z), a1] (.inl x :: st) σ Q ↔ sl_Go xs N 15 30 [some (.inl z), some (.inl x)] st σ Q := gk_istore rfl ⟨Nat.le_of_ble_eq_true rfl, rfl⟩ rfl
theorem g15_29r {x : Int32} {z : sl_R} {a1 : Option sl_V} : sl_Go xs N 15 29 [some (.inr (.inr z)), a1] (.inl x :: st) σ Q ↔ sl_Go xs N 15 30 [some (.inr (.inr z)), some (.inl x)] st σ Q := gk_istore rfl ⟨Nat.le_of_ble_eq_true rfl, rfl⟩ rfl
theorem g15_30 {x : Int32} {a0 : Option sl_V} : sl_Go xs N 15 30 [a0, some (.inl x)] st σ Q ↔ sl_Go xs N 15 31 [a0, some (.inl x)] (.inl x :: st) σ Q := gk_iload rfl rfl
theorem g15_31 {x : sl_R} {a1 : Option sl_V} : sl_Go xs N 15 31 [some (.inr (.inr x)), a1] st σ Q ↔ sl_Go xs N 15 32 [some (.inr (.inr x)), a1] (.inr (.inr x) :: st) σ Q := gk_aload rfl rfl
theorem g15_32 {L : sl_L} {i t : Nat} : sl_Go xs N 15 32 L (.inr (.inr (1, i, t)) :: st) σ Q ↔ sl_Go xs N 15 35 L (.inr (.inr (11, 0, 0)) :: st) σ Q := gk_get (g := .inr (11, 0, 0)) rfl rfl rfl
theorem g15_35 {L : sl_L} {i t : Nat} : sl_Go xs N 15 35 L (.inr (.inr (11, i, t)) :: st) σ Q ↔ sl_Go xs N 15 38 L (.inl (σ 5 0 1) :: st) σ Q := gk_get (g := .inl (5, 0, 1)) rfl rfl rfl
theorem g15_38 {L : sl_L} {x y : Int32} : sl_Go xs N 15 38 L (.inl y :: .inl x :: st) σ Q ↔ (y ≤ x → sl_Go xs N 15 52 L st σ Q) ∧ (¬ y ≤ x → sl_Go xs N 15 41 L st σ Q) := gk_ige rfl
theorem g15_41 {x : sl_R} {a1 : Option sl_V} : sl_Go xs N 15 41 [some (.inr (.inr x)), a1] st σ Q ↔ sl_Go xs N 15 42 [some (.inr (.inr x)), a1] (.inr (.inr x) :: st) σ Q := gk_aload rfl rfl
theorem g15_42 {x : Int32} {a0 : Option sl_V} : sl_Go xs N 15 42 [a0, some (.inl x)] st σ Q ↔ sl_Go xs N 15 43 [a0, some (.inl x)] (.inl x :: st) σ Q := gk_iload rfl rfl
theorem g15_43 {L : sl_L} {o : sl_R} {x0 : Int32} : sl_Go xs N 15 43 L (.inl x0 :: .inr (.inr o) :: st) σ Q ↔ sl_cw st ≤ 8 ∧ sl_Go xs N 19 0 [some (.inr (.inr o)), some (.inl x0), none, none, none, none] [] σ (fun r τ => sl_Go xs N 15 46 L (r.toList ++ st) τ Q) := gk_call rfl (Nat.le_add_left 2 st.length) rfl rfl rfl
theorem g15_46n {x : Int32} : sl_Go xs N 15 46 [none, some (.inl x)] st σ Q ↔ sl_Go xs N 15 49 [none, some (.inl (x + 1))] st σ Q := gk_iinc rfl rfl rfl rfl
theorem g15_46i {x : Int32} {z : Int32} : sl_Go xs N 15 46 [some (.inl z), some (.inl x)] st σ Q ↔ sl_Go xs N 15 49 [some (.inl z), some (.inl (x + 1))] st σ Q := gk_iinc rfl rfl rfl rfl
theorem g15_46r {x : Int32} {z : sl_R} : sl_Go xs N 15 46 [some (.inr (.inr z)), some (.inl x)] st σ Q ↔ sl_Go xs N 15 49 [some (.inr (.inr z)), some (.inl (x + 1))] st σ Q := gk_iinc rfl rfl rfl rfl
theorem g15_49 {L : sl_L} : sl_Go xs N 15 49 L st σ Q ↔ sl_Go xs N 15 30 L st σ Q := gk_goto rfl
theorem g15_52 {x : sl_R} {a1 : Option sl_V} : sl_Go xs N 15 52 [some (.inr (.inr x)), a1] st σ Q ↔ sl_Go xs N 15 53 [some (.inr (.inr x)), a1] (.inr (.inr x) :: st) σ Q := gk_aload rfl rfl
theorem g15_53 {L : sl_L} {o : sl_R} : sl_Go xs N 15 53 L (.inr (.inr o) :: st) σ Q ↔ sl_cw st ≤ 8 ∧ sl_Go xs N 21 0 [some (.inr (.inr o))] [] σ (fun r τ => sl_Go xs N 15 56 L (r.toList ++ st) τ Q) := gk_call rfl (Nat.le_add_left 1 st.length) rfl rfl rfl
theorem g15_56 {L : sl_L} {x0 : Int32} : sl_Go xs N 15 56 L (.inl x0 :: st) σ Q ↔ sl_cw st ≤ 8 ∧ sl_Go xs N 159 0 [some (.inl x0)] [] σ (fun r τ => sl_Go xs N 15 59 L (r.toList ++ st) τ Q) := gk_call rfl (Nat.le_add_left 1 st.length) rfl rfl rfl
theorem g15_59n {x : Int32} {a1 : Option sl_V} : sl_Go xs N 15 59 [none, a1] (.inl x :: st) σ Q ↔ sl_Go xs N 15 60 [none, some (.inl x)] st σ Q := gk_istore rfl ⟨Nat.le_of_ble_eq_true rfl, rfl⟩ rfl
theorem g15_59i {x : Int32} {z : Int32} {a1 : Option sl_V} : sl_Go xs N 15 59 [some (.inl z), a1] (.inl x :: st) σ Q ↔ sl_Go xs N 15 60 [some (.inl z), some (.inl x)] st σ Q := gk_istore rfl ⟨Nat.le_of_ble_eq_true rfl, rfl⟩ rfl
theorem g15_59r {x : Int32} {z : sl_R} {a1 : Option sl_V} : sl_Go xs N 15 59 [some (.inr (.inr z)), a1] (.inl x :: st) σ Q ↔ sl_Go xs N 15 60 [some (.inr (.inr z)), some (.inl x)] st σ Q := gk_istore rfl ⟨Nat.le_of_ble_eq_true rfl, rfl⟩ rfl
theorem g15_60 {x : sl_R} {a1 : Option sl_V} : sl_Go xs N 15 60 [some (.inr (.inr x)), a1] st σ Q ↔ sl_Go xs N 15 61 [some (.inr (.inr x)), a1] (.inr (.inr x) :: st) σ Q := gk_aload rfl rfl
theorem g15_61 {x : sl_R} {a1 : Option sl_V} : sl_Go xs N 15 61 [some (.inr (.inr x)), a1] st σ Q ↔ sl_Go xs N 15 62 [some (.inr (.inr x)), a1] (.inr (.inr x) :: st) σ Q := gk_aload rfl rfl
theorem g15_62 {L : sl_L} {i t : Nat} : sl_Go xs N 15 62 L (.inr (.inr (1, i, t)) :: st) σ Q ↔ sl_Go xs N 15 65 L (.inl (σ i 8 2) :: st) σ Q := gk_get (g := .inl (i, 8, 2)) rfl rfl rfl
theorem g15_65 {x : Int32} {a0 : Option sl_V} : sl_Go xs N 15 65 [a0, some (.inl x)] st σ Q ↔ sl_Go xs N 15 66 [a0, some (.inl x)] (.inl x :: st) σ Q := gk_iload rfl rfl
theorem g15_66 {L : sl_L} {x0 : Int32} {x1 : Int32} : sl_Go xs N 15 66 L (.inl x1 :: .inl x0 :: st) σ Q ↔ sl_cw st ≤ 8 ∧ sl_Go xs N 161 0 [some (.inl x0), some (.inl x1)] [] σ (fun r τ => sl_Go xs N 15 69 L (r.toList ++ st) τ Q) := gk_call rfl (Nat.le_add_left 2 st.length) rfl rfl rfl
theorem g15_69 {L : sl_L} {x : Int32} {i t : Nat} : sl_Go xs N 15 69 L (.inl x :: .inr (.inr (1, i, t)) :: st) σ Q ↔ sl_Go xs N 15 72 L st (sl_up σ i 8 2 x) Q := gk_put0 (q := (i, 8, 2)) rfl rfl rfl
theorem g15_72 {x : Int32} {a0 : Option sl_V} : sl_Go xs N 15 72 [a0, some (.inl x)] st σ Q ↔ sl_Go xs N 15 73 [a0, some (.inl x)] (.inl x :: st) σ Q := gk_iload rfl rfl
theorem g15_73 {x : sl_R} {a1 : Option sl_V} : sl_Go xs N 15 73 [some (.inr (.inr x)), a1] st σ Q ↔ sl_Go xs N 15 74 [some (.inr (.inr x)), a1] (.inr (.inr x) :: st) σ Q := gk_aload rfl rfl
theorem g15_74 {L : sl_L} {i t : Nat} : sl_Go xs N 15 74 L (.inr (.inr (1, i, t)) :: st) σ Q ↔ sl_Go xs N 15 77 L (.inr (.inr (11, 0, 0)) :: st) σ Q := gk_get (g := .inr (11, 0, 0)) rfl rfl rfl
theorem g15_77 {L : sl_L} {i t : Nat} : sl_Go xs N 15 77 L (.inr (.inr (11, i, t)) :: st) σ Q ↔ sl_Go xs N 15 80 L (.inl (σ 5 0 4) :: st) σ Q := gk_get (g := .inl (5, 0, 4)) rfl rfl rfl
theorem g15_80 {L : sl_L} {x y : Int32} : sl_Go xs N 15 80 L (.inl y :: .inl x :: st) σ Q ↔ (x ≤ y → sl_Go xs N 15 88 L st σ Q) ∧ (¬ x ≤ y → sl_Go xs N 15 83 L st σ Q) := gk_ile rfl
theorem g15_83 {x : sl_R} {a1 : Option sl_V} : sl_Go xs N 15 83 [some (.inr (.inr x)), a1] st σ Q ↔ sl_Go xs N 15 84 [some (.inr (.inr x)), a1] (.inr (.inr x) :: st) σ Q := gk_aload rfl rfl
theorem g15_84 {L : sl_L} : sl_Go xs N 15 84 L st σ Q ↔ sl_Go xs N 15 85 L (.inl 1 :: st) σ Q := gk_const rfl
theorem g15_85 {L : sl_L} {x : Int32} {i t : Nat} : sl_Go xs N 15 85 L (.inl x :: .inr (.inr (1, i, t)) :: st) σ Q ↔ (x = 0 ∨ x = 1) ∧ sl_Go xs N 15 88 L st (sl_up σ i 0 8 x) Q := gk_put1 (q := (i, 0, 8)) rfl rfl rfl
theorem g15_88 {x : sl_R} {a1 : Option sl_V} : sl_Go xs N 15 88 [some (.inr (.inr x)), a1] st σ Q ↔ sl_Go xs N 15 89 [some (.inr (.inr x)), a1] (.inr (.inr x) :: st) σ Q := gk_aload rfl rfl
theorem g15_89i {L : sl_L} {x : Int32} : sl_Go xs N 15 89 L (.inl x :: st) σ Q ↔ sl_Go xs N 15 90 L (.inl x :: .inl x :: st) σ Q := gk_dupi rfl
theorem g15_89r {L : sl_L} {x : sl_R} : sl_Go xs N 15 89 L (.inr (.inr x) :: st) σ Q ↔ sl_Go xs N 15 90 L (.inr (.inr x) :: .inr (.inr x) :: st) σ Q := gk_dupr rfl
theorem g15_90 {L : sl_L} {i t : Nat} : sl_Go xs N 15 90 L (.inr (.inr (1, i, t)) :: st) σ Q ↔ sl_Go xs N 15 93 L (.inl (σ i 0 0) :: st) σ Q := gk_get (g := .inl (i, 0, 0)) rfl rfl rfl
theorem g15_93 {L : sl_L} : sl_Go xs N 15 93 L st σ Q ↔ sl_Go xs N 15 94 L (.inl 1 :: st) σ Q := gk_const rfl
theorem g15_94 {L : sl_L} {x y : Int32} : sl_Go xs N 15 94 L (.inl y :: .inl x :: st) σ Q ↔ sl_Go xs N 15 95 L (.inl (x + y) :: st) σ Q := gk_bin (b := 8) rfl
theorem g15_95 {L : sl_L} {x : Int32} {i t : Nat} : sl_Go xs N 15 95 L (.inl x :: .inr (.inr (1, i, t)) :: st) σ Q ↔ sl_Go xs N 15 98 L st (sl_up σ i 0 0 x) Q := gk_put0 (q := (i, 0, 0)) rfl rfl rfl
theorem g15_98 {L : sl_L} : sl_Go xs N 15 98 L [] σ Q ↔ Q none σ := gk_vret rfl
theorem g16_0 {x : sl_R} {a1 : Option sl_V} : sl_Go xs N 16 0 [some (.inr (.inr x)), a1] st σ Q ↔ sl_Go xs N 16 1 [some (.inr (.inr x)), a1] (.inr (.inr x) :: st) σ Q := gk_aload rfl rfl
theorem g16_1 {L : sl_L} {i t : Nat} : sl_Go xs N 16 1 L (.inr (.inr (1, i, t)) :: st) σ Q ↔ sl_Go xs N 16 4 L (.inr (.inr (11, 0, 0)) :: st) σ Q := gk_get (g := .inr (11, 0, 0)) rfl rfl rfl
theorem g16_4 {x : sl_R} {a1 : Option sl_V} : sl_Go xs N 16 4 [some (.inr (.inr x)), a1] st σ Q ↔ sl_Go xs N 16 5 [some (.inr (.inr x)), a1] (.inr (.inr x) :: st) σ Q := gk_aload rfl rfl
theorem g16_5 {L : sl_L} {i t : Nat} : sl_Go xs N 16 5 L (.inr (.inr (1, i, t)) :: st) σ Q ↔ sl_Go xs N 16 8 L (.inl (σ i 0 2) :: st) σ Q := gk_get (g := .inl (i, 0, 2)) rfl rfl rfl
theorem g16_8 {L : sl_L} {o : sl_R} {x0 : Int32} : sl_Go xs N 16 8 L (.inl x0 :: .inr (.inr o) :: st) σ Q ↔ sl_cw st ≤ 8 ∧ sl_Go xs N 25 0 [some (.inr (.inr o)), some (.inl x0)] [] σ (fun r τ => sl_Go xs N 16 11 L (r.toList ++ st) τ Q) := gk_call rfl (Nat.le_add_left 2 st.length) rfl rfl rfl
theorem g16_11 {L : sl_L} {x : Int32} : sl_Go xs N 16 11 L (.inl x :: st) σ Q ↔ (¬ x = 0 → sl_Go xs N 16 15 L st σ Q) ∧ (x = 0 → sl_Go xs N 16 14 L st σ Q) := gk_zne rfl
theorem g16_14 {L : sl_L} : sl_Go xs N 16 14 L [] σ Q ↔ Q none σ := gk_vret rfl
theorem g16_15 {x : sl_R} {a1 : Option sl_V} : sl_Go xs N 16 15 [some (.inr (.inr x)), a1] st σ Q ↔ sl_Go xs N 16 16 [some (.inr (.inr x)), a1] (.inr (.inr x) :: st) σ Q := gk_aload rfl rfl
theorem g16_16 {L : sl_L} {i t : Nat} : sl_Go xs N 16 16 L (.inr (.inr (1, i, t)) :: st) σ Q ↔ sl_Go xs N 16 19 L (.inr (.inr (11, 0, 0)) :: st) σ Q := gk_get (g := .inr (11, 0, 0)) rfl rfl rfl
theorem g16_19 {L : sl_L} {i t : Nat} : sl_Go xs N 16 19 L (.inr (.inr (11, i, t)) :: st) σ Q ↔ sl_Go xs N 16 22 L (.inr (.inr (16, 0, 0)) :: st) σ Q := gk_get (g := .inr (16, 0, 0)) rfl rfl rfl
theorem g16_22 {x : sl_R} {a1 : Option sl_V} : sl_Go xs N 16 22 [some (.inr (.inr x)), a1] st σ Q ↔ sl_Go xs N 16 23 [some (.inr (.inr x)), a1] (.inr (.inr x) :: st) σ Q := gk_aload rfl rfl
theorem g16_23 {L : sl_L} {i t : Nat} : sl_Go xs N 16 23 L (.inr (.inr (1, i, t)) :: st) σ Q ↔ sl_Go xs N 16 26 L (.inl (σ i 0 2) :: st) σ Q := gk_get (g := .inl (i, 0, 2)) rfl rfl rfl
theorem g16_26 {L : sl_L} {j : Int32} {r : sl_R} : sl_Go xs N 16 26 L (.inl j :: .inr (.inr r) :: st) σ Q ↔ (0 ≤ j.toInt ∧ j.toInt < sl_rlen r) ∧ sl_Go xs N 16 27 L (.inr (.inr (sl_rg r j.toNatClampNeg)) :: st) σ Q := gk_aald rfl
theorem g16_27n {x : sl_R} {a1 : Option sl_V} : sl_Go xs N 16 27 [none, a1] (.inr (.inr x) :: st) σ Q ↔ sl_Go xs N 16 28 [none, some (.inr (.inr x))] st σ Q := gk_astore rfl ⟨Nat.le_of_ble_eq_true rfl, rfl⟩ rfl
theorem g16_27i {x : sl_R} {z : Int32} {a1 : Option sl_V} : sl_Go xs N 16 27 [some (.inl z), a1] (.inr (.inr x) :: st) σ Q ↔ sl_Go xs N 16 28 [some (.inl z), some (.inr (.inr x))] st σ Q := gk_astore rfl ⟨Nat.le_of_ble_eq_true rfl, rfl⟩ rfl
theorem g16_27r {x : sl_R} {z : sl_R} {a1 : Option sl_V} : sl_Go xs N 16 27 [some (.inr (.inr z)), a1] (.inr (.inr x) :: st) σ Q ↔ sl_Go xs N 16 28 [some (.inr (.inr z)), some (.inr (.inr x))] st σ Q := gk_astore rfl ⟨Nat.le_of_ble_eq_true rfl, rfl⟩ rfl
theorem g16_28 {x : sl_R} {a1 : Option sl_V} : sl_Go xs N 16 28 [some (.inr (.inr x)), a1] st σ Q ↔ sl_Go xs N 16 29 [some (.inr (.inr x)), a1] (.inr (.inr x) :: st) σ Q := gk_aload rfl rfl
theorem g16_29 {L : sl_L} {i t : Nat} : sl_Go xs N 16 29 L (.inr (.inr (1, i, t)) :: st) σ Q ↔ sl_Go xs N 16 32 L (.inl (σ i 8 1) :: st) σ Q := gk_get (g := .inl (i, 8, 1)) rfl rfl rfl
theorem g16_32 {L : sl_L} {x : Int32} : sl_Go xs N 16 32 L (.inl x :: st) σ Q ↔ (¬ x = 0 → sl_Go xs N 16 85 L st σ Q) ∧ (x = 0 → sl_Go xs N 16 35 L st σ Q) := gk_zne rfl
theorem g16_35 {x : sl_R} {a1 : Option sl_V} : sl_Go xs N 16 35 [some (.inr (.inr x)), a1] st σ Q ↔ sl_Go xs N 16 36 [some (.inr (.inr x)), a1] (.inr (.inr x) :: st) σ Q := gk_aload rfl rfl
theorem g16_36 {L : sl_L} {i t : Nat} : sl_Go xs N 16 36 L (.inr (.inr (1, i, t)) :: st) σ Q ↔ sl_Go xs N 16 39 L (.inl (σ i 8 0) :: st) σ Q := gk_get (g := .inl (i, 8, 0)) rfl rfl rfl
theorem g16_39 {x : sl_R} {a0 : Option sl_V} : sl_Go xs N 16 39 [a0, some (.inr (.inr x))] st σ Q ↔ sl_Go xs N 16 40 [a0, some (.inr (.inr x))] (.inr (.inr x) :: st) σ Q := gk_aload rfl rfl
theorem g16_40 {L : sl_L} {i t : Nat} : sl_Go xs N 16 40 L (.inr (.inr (17, i, t)) :: st) σ Q ↔ sl_Go xs N 16 43 L (.inl (σ 5 8 t) :: st) σ Q := gk_get (g := .inl (5, 8, t)) rfl rfl rfl
theorem g16_43 {L : sl_L} {x y : Int32} : sl_Go xs N 16 43 L (.inl y :: .inl x :: st) σ Q ↔ (y ≤ x → sl_Go xs N 16 85 L st σ Q) ∧ (¬ y ≤ x → sl_Go xs N 16 46 L st σ Q) := gk_ige rfl
theorem g16_46 {x : sl_R} {a1 : Option sl_V} : sl_Go xs N 16 46 [some (.inr (.inr x)), a1] st σ Q ↔ sl_Go xs N 16 47 [some (.inr (.inr x)), a1] (.inr (.inr x) :: st) σ Q := gk_aload rfl rfl
theorem g16_47 {x : sl_R} {a0 : Option sl_V} : sl_Go xs N 16 47 [a0, some (.inr (.inr x))] st σ Q ↔ sl_Go xs N 16 48 [a0, some (.inr (.inr x))] (.inr (.inr x) :: st) σ Q := gk_aload rfl rfl
theorem g16_48 {L : sl_L} {i t : Nat} : sl_Go xs N 16 48 L (.inr (.inr (17, i, t)) :: st) σ Q ↔ sl_Go xs N 16 51 L (.inr (.inr (18, 0, t)) :: st) σ Q := gk_get (g := .inr (18, 0, t)) rfl rfl rfl
theorem g16_51 {x : sl_R} {a1 : Option sl_V} : sl_Go xs N 16 51 [some (.inr (.inr x)), a1] st σ Q ↔ sl_Go xs N 16 52 [some (.inr (.inr x)), a1] (.inr (.inr x) :: st) σ Q := gk_aload rfl rfl
theorem g16_52 {L : sl_L} {i t : Nat} : sl_Go xs N 16 52 L (.inr (.inr (1, i, t)) :: st) σ Q ↔ sl_Go xs N 16 55 L (.inl (σ i 8 0) :: st) σ Q := gk_get (g := .inl (i, 8, 0)) rfl rfl rfl
theorem g16_55 {L : sl_L} {j : Int32} {r : sl_R} : sl_Go xs N 16 55 L (.inl j :: .inr (.inr r) :: st) σ Q ↔ (0 ≤ j.toInt ∧ j.toInt < sl_ilen N r) ∧ sl_Go xs N 16 56 L (.inl (sl_rd xs σ r j.toNatClampNeg) :: st) σ Q := gk_iald rfl
theorem g16_56 {L : sl_L} {x : Int32} {i t : Nat} : sl_Go xs N 16 56 L (.inl x :: .inr (.inr (1, i, t)) :: st) σ Q ↔ sl_Go xs N 16 59 L st (sl_up σ i 8 1 x) Q := gk_put0 (q := (i, 8, 1)) rfl rfl rfl
theorem g16_59 {x : sl_R} {a1 : Option sl_V} : sl_Go xs N 16 59 [some (.inr (.inr x)), a1] st σ Q ↔ sl_Go xs N 16 60 [some (.inr (.inr x)), a1] (.inr (.inr x) :: st) σ Q := gk_aload rfl rfl
theorem g16_60 {x : sl_R} {a0 : Option sl_V} : sl_Go xs N 16 60 [a0, some (.inr (.inr x))] st σ Q ↔ sl_Go xs N 16 61 [a0, some (.inr (.inr x))] (.inr (.inr x) :: st) σ Q := gk_aload rfl rfl
theorem g16_61 {L : sl_L} {i t : Nat} : sl_Go xs N 16 61 L (.inr (.inr (17, i, t)) :: st) σ Q ↔ sl_Go xs N 16 64 L (.inr (.inr (19, 0, t)) :: st) σ Q := gk_get (g := .inr (19, 0, t)) rfl rfl rfl
theorem g16_64 {x : sl_R} {a1 : Option sl_V} : sl_Go xs N 16 64 [some (.inr (.inr x)), a1] st σ Q ↔ sl_Go xs N 16 65 [some (.inr (.inr x)), a1] (.inr (.inr x) :: st) σ Q := gk_aload rfl rfl
theorem g16_65 {L : sl_L} {i t : Nat} : sl_Go xs N 16 65 L (.inr (.inr (1, i, t)) :: st) σ Q ↔ sl_Go xs N 16 68 L (.inl (σ i 8 0) :: st) σ Q := gk_get (g := .inl (i, 8, 0)) rfl rfl rfl
theorem g16_68 {L : sl_L} {j : Int32} {r : sl_R} : sl_Go xs N 16 68 L (.inl j :: .inr (.inr r) :: st) σ Q ↔ (0 ≤ j.toInt ∧ j.toInt < sl_ilen N r) ∧ sl_Go xs N 16 69 L (.inl (sl_rd xs σ r j.toNatClampNeg) :: st) σ Q := gk_iald rfl
theorem g16_69 {L : sl_L} {x : Int32} {i t : Nat} : sl_Go xs N 16 69 L (.inl x :: .inr (.inr (1, i, t)) :: st) σ Q ↔ sl_Go xs N 16 72 L st (sl_up σ i 0 1 x) Q := gk_put0 (q := (i, 0, 1)) rfl rfl rfl
theorem g16_72 {x : sl_R} {a1 : Option sl_V} : sl_Go xs N 16 72 [some (.inr (.inr x)), a1] st σ Q ↔ sl_Go xs N 16 73 [some (.inr (.inr x)), a1] (.inr (.inr x) :: st) σ Q := gk_aload rfl rfl
theorem g16_73i {L : sl_L} {x : Int32} : sl_Go xs N 16 73 L (.inl x :: st) σ Q ↔ sl_Go xs N 16 74 L (.inl x :: .inl x :: st) σ Q := gk_dupi rfl
theorem g16_73r {L : sl_L} {x : sl_R} : sl_Go xs N 16 73 L (.inr (.inr x) :: st) σ Q ↔ sl_Go xs N 16 74 L (.inr (.inr x) :: .inr (.inr x) :: st) σ Q := gk_dupr rfl
theorem g16_74 {L : sl_L} {i t : Nat} : sl_Go xs N 16 74 L (.inr (.inr (1, i, t)) :: st) σ Q ↔ sl_Go xs N 16 77 L (.inl (σ i 8 0) :: st) σ Q := gk_get (g := .inl (i, 8, 0)) rfl rfl rfl
theorem g16_77 {L : sl_L} : sl_Go xs N 16 77 L st σ Q ↔ sl_Go xs N 16 78 L (.inl 1 :: st) σ Q := gk_const rfl
theorem g16_78 {L : sl_L} {x y : Int32} : sl_Go xs N 16 78 L (.inl y :: .inl x :: st) σ Q ↔ sl_Go xs N 16 79 L (.inl (x + y) :: st) σ Q := gk_bin (b := 8) rfl
theorem g16_79 {L : sl_L} {x : Int32} {i t : Nat} : sl_Go xs N 16 79 L (.inl x :: .inr (.inr (1, i, t)) :: st) σ Q ↔ sl_Go xs N 16 82 L st (sl_up σ i 8 0 x) Q := gk_put0 (q := (i, 8, 0)) rfl rfl rfl
theorem g16_82 {L : sl_L} : sl_Go xs N 16 82 L st σ Q ↔ sl_Go xs N 16 28 L st σ Q := gk_goto rfl
theorem g16_85 {x : sl_R} {a1 : Option sl_V} : sl_Go xs N 16 85 [some (.inr (.inr x)), a1] st σ Q ↔ sl_Go xs N 16 86 [some (.inr (.inr x)), a1] (.inr (.inr x) :: st) σ Q := gk_aload rfl rfl
theorem g16_86 {L : sl_L} {i t : Nat} : sl_Go xs N 16 86 L (.inr (.inr (1, i, t)) :: st) σ Q ↔ sl_Go xs N 16 89 L (.inl (σ i 8 1) :: st) σ Q := gk_get (g := .inl (i, 8, 1)) rfl rfl rfl
theorem g16_89 {L : sl_L} {x : Int32} : sl_Go xs N 16 89 L (.inl x :: st) σ Q ↔ (¬ x = 0 → sl_Go xs N 16 103 L st σ Q) ∧ (x = 0 → sl_Go xs N 16 92 L st σ Q) := gk_zne rfl
theorem g16_92 {x : sl_R} {a1 : Option sl_V} : sl_Go xs N 16 92 [some (.inr (.inr x)), a1] st σ Q ↔ sl_Go xs N 16 93 [some (.inr (.inr x)), a1] (.inr (.inr x) :: st) σ Q := gk_aload rfl rfl
theorem g16_93 {L : sl_L} : sl_Go xs N 16 93 L st σ Q ↔ sl_Go xs N 16 94 L (.inl (-1) :: st) σ Q := gk_const rfl
theorem g16_94 {L : sl_L} {x : Int32} {i t : Nat} : sl_Go xs N 16 94 L (.inl x :: .inr (.inr (1, i, t)) :: st) σ Q ↔ sl_Go xs N 16 97 L st (sl_up σ i 0 2 x) Q := gk_put0 (q := (i, 0, 2)) rfl rfl rfl
theorem g16_97 {x : sl_R} {a1 : Option sl_V} : sl_Go xs N 16 97 [some (.inr (.inr x)), a1] st σ Q ↔ sl_Go xs N 16 98 [some (.inr (.inr x)), a1] (.inr (.inr x) :: st) σ Q := gk_aload rfl rfl
theorem g16_98 {L : sl_L} : sl_Go xs N 16 98 L st σ Q ↔ sl_Go xs N 16 99 L (.inl 0 :: st) σ Q := gk_const rfl
theorem g16_99 {L : sl_L} {x : Int32} {i t : Nat} : sl_Go xs N 16 99 L (.inl x :: .inr (.inr (1, i, t)) :: st) σ Q ↔ sl_Go xs N 16 102 L st (sl_up σ i 0 1 x) Q := gk_put0 (q := (i, 0, 1)) rfl rfl rfl
theorem g16_102 {L : sl_L} : sl_Go xs N 16 102 L [] σ Q ↔ Q none σ := gk_vret rfl
theorem g16_103 {x : sl_R} {a1 : Option sl_V} : sl_Go xs N 16 103 [some (.inr (.inr x)), a1] st σ Q ↔ sl_Go xs N 16 104 [some (.inr (.inr x)), a1] (.inr (.inr x) :: st) σ Q := gk_aload rfl rfl
theorem g16_104i {L : sl_L} {x : Int32} : sl_Go xs N 16 104 L (.inl x :: st) σ Q ↔ sl_Go xs N 16 105 L (.inl x :: .inl x :: st) σ Q := gk_dupi rfl
theorem g16_104r {L : sl_L} {x : sl_R} : sl_Go xs N 16 104 L (.inr (.inr x) :: st) σ Q ↔ sl_Go xs N 16 105 L (.inr (.inr x) :: .inr (.inr x) :: st) σ Q := gk_dupr rfl
theorem g16_105 {L : sl_L} {i t : Nat} : sl_Go xs N 16 105 L (.inr (.inr (1, i, t)) :: st) σ Q ↔ sl_Go xs N 16 108 L (.inl (σ i 8 1) :: st) σ Q := gk_get (g := .inl (i, 8, 1)) rfl rfl rfl
theorem g16_108 {L : sl_L} : sl_Go xs N 16 108 L st σ Q ↔ sl_Go xs N 16 109 L (.inl 1 :: st) σ Q := gk_const rfl
theorem g16_109 {L : sl_L} {x y : Int32} : sl_Go xs N 16 109 L (.inl y :: .inl x :: st) σ Q ↔ sl_Go xs N 16 110 L (.inl (x - y) :: st) σ Q := gk_bin (b := 9) rfl
theorem g16_110 {L : sl_L} {x : Int32} {i t : Nat} : sl_Go xs N 16 110 L (.inl x :: .inr (.inr (1, i, t)) :: st) σ Q ↔ sl_Go xs N 16 113 L st (sl_up σ i 8 1 x) Q := gk_put0 (q := (i, 8, 1)) rfl rfl rfl
theorem g16_113 {L : sl_L} : sl_Go xs N 16 113 L [] σ Q ↔ Q none σ := gk_vret rfl
theorem g17_0 {x : sl_R} {a1 a2 a3 a4 a5 a6 a7 a8 : Option sl_V} : sl_Go xs N 17 0 [some (.inr (.inr x)), a1, a2, a3, a4, a5, a6, a7, a8] st σ Q ↔ sl_Go xs N 17 1 [some (.inr (.inr x)), a1, a2, a3, a4, a5, a6, a7, a8] (.inr (.inr x) :: st) σ Q := gk_aload rfl rfl
theorem g17_1 {L : sl_L} {i t : Nat} : sl_Go xs N 17 1 L (.inr (.inr (1, i, t)) :: st) σ Q ↔ sl_Go xs N 17 4 L (.inr (.inr (11, 0, 0)) :: st) σ Q := gk_get (g := .inr (11, 0, 0)) rfl rfl rfl
theorem g17_4 {L : sl_L} {i t : Nat} : sl_Go xs N 17 4 L (.inr (.inr (11, i, t)) :: st) σ Q ↔ sl_Go xs N 17 7 L (.inr (.inr (12, 0, 0)) :: st) σ Q := gk_get (g := .inr (12, 0, 0)) rfl rfl rfl
theorem g17_7 {x : Int32} {a0 a2 a3 a4 a5 a6 a7 a8 : Option sl_V} : sl_Go xs N 17 7 [a0, some (.inl x), a2, a3, a4, a5, a6, a7, a8] st σ Q ↔ sl_Go xs N 17 8 [a0, some (.inl x), a2, a3, a4, a5, a6, a7, a8] (.inl x :: st) σ Q := gk_iload rfl rfl
theorem g17_8 {L : sl_L} {j : Int32} {r : sl_R} : sl_Go xs N 17 8 L (.inl j :: .inr (.inr r) :: st) σ Q ↔ (0 ≤ j.toInt ∧ j.toInt < sl_rlen r) ∧ sl_Go xs N 17 9 L (.inr (.inr (sl_rg r j.toNatClampNeg)) :: st) σ Q := gk_aald rfl
theorem g17_9n {x : sl_R} {a0 a2 a3 a4 a5 a6 a7 a8 : Option sl_V} : sl_Go xs N 17 9 [a0, none, a2, a3, a4, a5, a6, a7, a8] (.inr (.inr x) :: st) σ Q ↔ sl_Go xs N 17 10 [a0, none, some (.inr (.inr x)), a3, a4, a5, a6, a7, a8] st σ Q := gk_astore rfl ⟨Nat.le_of_ble_eq_true rfl, rfl⟩ rfl
theorem g17_9i {x : sl_R} {z : Int32} {a0 a2 a3 a4 a5 a6 a7 a8 : Option sl_V} : sl_Go xs N 17 9 [a0, some (.inl z), a2, a3, a4, a5, a6, a7, a8] (.inr (.inr x) :: st) σ Q ↔ sl_Go xs N 17 10 [a0, some (.inl z), some (.inr (.inr x)), a3, a4, a5, a6, a7, a8] st σ Q := gk_astore rfl ⟨Nat.le_of_ble_eq_true rfl, rfl⟩ rfl
theorem g17_9r {x : sl_R} {z : sl_R} {a0 a2 a3 a4 a5 a6 a7 a8 : Option sl_V} : sl_Go xs N 17 9 [a0, some (.inr (.inr z)), a2, a3, a4, a5, a6, a7, a8] (.inr (.inr x) :: st) σ Q ↔ sl_Go xs N 17 10 [a0, some (.inr (.inr z)), some (.inr (.inr x)), a3, a4, a5, a6, a7, a8] st σ Q := gk_astore rfl ⟨Nat.le_of_ble_eq_true rfl, rfl⟩ rfl
theorem g17_10 {x : sl_R} {a1 a2 a3 a4 a5 a6 a7 a8 : Option sl_V} : sl_Go xs N 17 10 [some (.inr (.inr x)), a1, a2, a3, a4, a5, a6, a7, a8] st σ Q ↔ sl_Go xs N 17 11 [some (.inr (.inr x)), a1, a2, a3, a4, a5, a6, a7, a8] (.inr (.inr x) :: st) σ Q := gk_aload rfl rfl
theorem g17_11 {L : sl_L} {i t : Nat} : sl_Go xs N 17 11 L (.inr (.inr (1, i, t)) :: st) σ Q ↔ sl_Go xs N 17 14 L (.inr (.inr (2, i, 0)) :: st) σ Q := gk_get (g := .inr (2, i, 0)) rfl rfl rfl
theorem g17_14 {x : Int32} {a0 a2 a3 a4 a5 a6 a7 a8 : Option sl_V} : sl_Go xs N 17 14 [a0, some (.inl x), a2, a3, a4, a5, a6, a7, a8] st σ Q ↔ sl_Go xs N 17 15 [a0, some (.inl x), a2, a3, a4, a5, a6, a7, a8] (.inl x :: st) σ Q := gk_iload rfl rfl
theorem g17_15 {L : sl_L} {j : Int32} {r : sl_R} : sl_Go xs N 17 15 L (.inl j :: .inr (.inr r) :: st) σ Q ↔ (0 ≤ j.toInt ∧ j.toInt < sl_rlen r) ∧ sl_Go xs N 17 16 L (.inr (.inr (sl_rg r j.toNatClampNeg)) :: st) σ Q := gk_aald rfl
theorem g17_16n {x : sl_R} {a0 a1 a3 a4 a5 a6 a7 a8 : Option sl_V} : sl_Go xs N 17 16 [a0, a1, none, a3, a4, a5, a6, a7, a8] (.inr (.inr x) :: st) σ Q ↔ sl_Go xs N 17 17 [a0, a1, none, some (.inr (.inr x)), a4, a5, a6, a7, a8] st σ Q := gk_astore rfl ⟨Nat.le_of_ble_eq_true rfl, rfl⟩ rfl
theorem g17_16i {x : sl_R} {z : Int32} {a0 a1 a3 a4 a5 a6 a7 a8 : Option sl_V} : sl_Go xs N 17 16 [a0, a1, some (.inl z), a3, a4, a5, a6, a7, a8] (.inr (.inr x) :: st) σ Q ↔ sl_Go xs N 17 17 [a0, a1, some (.inl z), some (.inr (.inr x)), a4, a5, a6, a7, a8] st σ Q := gk_astore rfl ⟨Nat.le_of_ble_eq_true rfl, rfl⟩ rfl
theorem g17_16r {x : sl_R} {z : sl_R} {a0 a1 a3 a4 a5 a6 a7 a8 : Option sl_V} : sl_Go xs N 17 16 [a0, a1, some (.inr (.inr z)), a3, a4, a5, a6, a7, a8] (.inr (.inr x) :: st) σ Q ↔ sl_Go xs N 17 17 [a0, a1, some (.inr (.inr z)), some (.inr (.inr x)), a4, a5, a6, a7, a8] st σ Q := gk_astore rfl ⟨Nat.le_of_ble_eq_true rfl, rfl⟩ rfl
theorem g17_17 {L : sl_L} : sl_Go xs N 17 17 L st σ Q ↔ sl_Go xs N 17 19 L (.inl 10 :: st) σ Q := gk_const rfl
theorem g17_19 {x : sl_R} {a0 a1 a3 a4 a5 a6 a7 a8 : Option sl_V} : sl_Go xs N 17 19 [a0, a1, some (.inr (.inr x)), a3, a4, a5, a6, a7, a8] st σ Q ↔ sl_Go xs N 17 20 [a0, a1, some (.inr (.inr x)), a3, a4, a5, a6, a7, a8] (.inr (.inr x) :: st) σ Q := gk_aload rfl rfl
theorem g17_20 {L : sl_L} {i t : Nat} : sl_Go xs N 17 20 L (.inr (.inr (13, i, t)) :: st) σ Q ↔ sl_Go xs N 17 23 L (.inl (σ 5 1 t) :: st) σ Q := gk_get (g := .inl (5, 1, t)) rfl rfl rfl
theorem g17_23 {x : sl_R} {a1 a2 a3 a4 a5 a6 a7 a8 : Option sl_V} : sl_Go xs N 17 23 [some (.inr (.inr x)), a1, a2, a3, a4, a5, a6, a7, a8] st σ Q ↔ sl_Go xs N 17 24 [some (.inr (.inr x)), a1, a2, a3, a4, a5, a6, a7, a8] (.inr (.inr x) :: st) σ Q := gk_aload rfl rfl
theorem g17_24 {L : sl_L} {i t : Nat} : sl_Go xs N 17 24 L (.inr (.inr (1, i, t)) :: st) σ Q ↔ sl_Go xs N 17 27 L (.inl (σ i 0 1) :: st) σ Q := gk_get (g := .inl (i, 0, 1)) rfl rfl rfl
theorem g17_27 {L : sl_L} {x0 : Int32} {x1 : Int32} : sl_Go xs N 17 27 L (.inl x1 :: .inl x0 :: st) σ Q ↔ sl_cw st ≤ 8 ∧ sl_Go xs N 7 0 [some (.inl x0), some (.inl x1), none] [] σ (fun r τ => sl_Go xs N 17 30 L (r.toList ++ st) τ Q) := gk_call rfl (Nat.le_add_left 2 st.length) rfl rfl rfl
theorem g17_30 {L : sl_L} {x y : Int32} : sl_Go xs N 17 30 L (.inl y :: .inl x :: st) σ Q ↔ sl_Go xs N 17 31 L (.inl (x * y) :: st) σ Q := gk_bin (b := 10) rfl
theorem g17_31n {x : Int32} {a0 a1 a2 a4 a5 a6 a7 a8 : Option sl_V} : sl_Go xs N 17 31 [a0, a1, a2, none, a4, a5, a6, a7, a8] (.inl x :: st) σ Q ↔ sl_Go xs N 17 33 [a0, a1, a2, none, some (.inl x), a5, a6, a7, a8] st σ Q := gk_istore rfl ⟨Nat.le_of_ble_eq_true rfl, rfl⟩ rfl
theorem g17_31i {x : Int32} {z : Int32} {a0 a1 a2 a4 a5 a6 a7 a8 : Option sl_V} : sl_Go xs N 17 31 [a0, a1, a2, some (.inl z), a4, a5, a6, a7, a8] (.inl x :: st) σ Q ↔ sl_Go xs N 17 33 [a0, a1, a2, some (.inl z), some (.inl x), a5, a6, a7, a8] st σ Q := gk_istore rfl ⟨Nat.le_of_ble_eq_true rfl, rfl⟩ rfl
theorem g17_31r {x : Int32} {z : sl_R} {a0 a1 a2 a4 a5 a6 a7 a8 : Option sl_V} : sl_Go xs N 17 31 [a0, a1, a2, some (.inr (.inr z)), a4, a5, a6, a7, a8] (.inl x :: st) σ Q ↔ sl_Go xs N 17 33 [a0, a1, a2, some (.inr (.inr z)), some (.inl x), a5, a6, a7, a8] st σ Q := gk_istore rfl ⟨Nat.le_of_ble_eq_true rfl, rfl⟩ rfl
theorem g17_33 {x : sl_R} {a0 a1 a3 a4 a5 a6 a7 a8 : Option sl_V} : sl_Go xs N 17 33 [a0, a1, some (.inr (.inr x)), a3, a4, a5, a6, a7, a8] st σ Q ↔ sl_Go xs N 17 34 [a0, a1, some (.inr (.inr x)), a3, a4, a5, a6, a7, a8] (.inr (.inr x) :: st) σ Q := gk_aload rfl rfl
theorem g17_34 {L : sl_L} {i t : Nat} : sl_Go xs N 17 34 L (.inr (.inr (13, i, t)) :: st) σ Q ↔ sl_Go xs N 17 37 L (.inl (σ 5 1 t) :: st) σ Q := gk_get (g := .inl (5, 1, t)) rfl rfl rfl
theorem g17_37 {L : sl_L} {x0 : Int32} : sl_Go xs N 17 37 L (.inl x0 :: st) σ Q ↔ sl_cw st ≤ 8 ∧ sl_Go xs N 5 0 [some (.inl x0)] [] σ (fun r τ => sl_Go xs N 17 40 L (r.toList ++ st) τ Q) := gk_call rfl (Nat.le_add_left 1 st.length) rfl rfl rfl
theorem g17_40n {x : Int32} {a0 a1 a2 a3 a5 a6 a7 a8 : Option sl_V} : sl_Go xs N 17 40 [a0, a1, a2, a3, none, a5, a6, a7, a8] (.inl x :: st) σ Q ↔ sl_Go xs N 17 42 [a0, a1, a2, a3, none, some (.inl x), a6, a7, a8] st σ Q := gk_istore rfl ⟨Nat.le_of_ble_eq_true rfl, rfl⟩ rfl
theorem g17_40i {x : Int32} {z : Int32} {a0 a1 a2 a3 a5 a6 a7 a8 : Option sl_V} : sl_Go xs N 17 40 [a0, a1, a2, a3, some (.inl z), a5, a6, a7, a8] (.inl x :: st) σ Q ↔ sl_Go xs N 17 42 [a0, a1, a2, a3, some (.inl z), some (.inl x), a6, a7, a8] st σ Q := gk_istore rfl ⟨Nat.le_of_ble_eq_true rfl, rfl⟩ rfl
theorem g17_40r {x : Int32} {z : sl_R} {a0 a1 a2 a3 a5 a6 a7 a8 : Option sl_V} : sl_Go xs N 17 40 [a0, a1, a2, a3, some (.inr (.inr z)), a5, a6, a7, a8] (.inl x :: st) σ Q ↔ sl_Go xs N 17 42 [a0, a1, a2, a3, some (.inr (.inr z)), some (.inl x), a6, a7, a8] st σ Q := gk_istore rfl ⟨Nat.le_of_ble_eq_true rfl, rfl⟩ rfl
theorem g17_42 {x : sl_R} {a0 a1 a3 a4 a5 a6 a7 a8 : Option sl_V} : sl_Go xs N 17 42 [a0, a1, some (.inr (.inr x)), a3, a4, a5, a6, a7, a8] st σ Q ↔ sl_Go xs N 17 43 [a0, a1, some (.inr (.inr x)), a3, a4, a5, a6, a7, a8] (.inr (.inr x) :: st) σ Q := gk_aload rfl rfl
theorem g17_43 {L : sl_L} {i t : Nat} : sl_Go xs N 17 43 L (.inr (.inr (13, i, t)) :: st) σ Q ↔ sl_Go xs N 17 46 L (.inl (σ 5 1 t) :: st) σ Q := gk_get (g := .inl (5, 1, t)) rfl rfl rfl
theorem g17_46 {L : sl_L} {x0 : Int32} : sl_Go xs N 17 46 L (.inl x0 :: st) σ Q ↔ sl_cw st ≤ 8 ∧ sl_Go xs N 6 0 [some (.inl x0)] [] σ (fun r τ => sl_Go xs N 17 49 L (r.toList ++ st) τ Q) := gk_call rfl (Nat.le_add_left 1 st.length) rfl rfl rfl
theorem g17_49n {x : Int32} {a0 a1 a2 a3 a4 a6 a7 a8 : Option sl_V} : sl_Go xs N 17 49 [a0, a1, a2, a3, a4, none, a6, a7, a8] (.inl x :: st) σ Q ↔ sl_Go xs N 17 51 [a0, a1, a2, a3, a4, none, some (.inl x), a7, a8] st σ Q := gk_istore rfl ⟨Nat.le_of_ble_eq_true rfl, rfl⟩ rfl
theorem g17_49i {x : Int32} {z : Int32} {a0 a1 a2 a3 a4 a6 a7 a8 : Option sl_V} : sl_Go xs N 17 49 [a0, a1, a2, a3, a4, some (.inl z), a6, a7, a8] (.inl x :: st) σ Q ↔ sl_Go xs N 17 51 [a0, a1, a2, a3, a4, some (.inl z), some (.inl x), a7, a8] st σ Q := gk_istore rfl ⟨Nat.le_of_ble_eq_true rfl, rfl⟩ rfl
theorem g17_49r {x : Int32} {z : sl_R} {a0 a1 a2 a3 a4 a6 a7 a8 : Option sl_V} : sl_Go xs N 17 49 [a0, a1, a2, a3, a4, some (.inr (.inr z)), a6, a7, a8] (.inl x :: st) σ Q ↔ sl_Go xs N 17 51 [a0, a1, a2, a3, a4, some (.inr (.inr z)), some (.inl x), a7, a8] st σ Q := gk_istore rfl ⟨Nat.le_of_ble_eq_true rfl, rfl⟩ rfl
theorem g17_51 {L : sl_L} : sl_Go xs N 17 51 L st σ Q ↔ sl_Go xs N 17 52 L (.inl 0 :: st) σ Q := gk_const rfl
theorem g17_52n {x : Int32} {a0 a1 a2 a3 a4 a5 a7 a8 : Option sl_V} : sl_Go xs N 17 52 [a0, a1, a2, a3, a4, a5, none, a7, a8] (.inl x :: st) σ Q ↔ sl_Go xs N 17 54 [a0, a1, a2, a3, a4, a5, none, some (.inl x), a8] st σ Q := gk_istore rfl ⟨Nat.le_of_ble_eq_true rfl, rfl⟩ rfl
theorem g17_52i {x : Int32} {z : Int32} {a0 a1 a2 a3 a4 a5 a7 a8 : Option sl_V} : sl_Go xs N 17 52 [a0, a1, a2, a3, a4, a5, some (.inl z), a7, a8] (.inl x :: st) σ Q ↔ sl_Go xs N 17 54 [a0, a1, a2, a3, a4, a5, some (.inl z), some (.inl x), a8] st σ Q := gk_istore rfl ⟨Nat.le_of_ble_eq_true rfl, rfl⟩ rfl
theorem g17_52r {x : Int32} {z : sl_R} {a0 a1 a2 a3 a4 a5 a7 a8 : Option sl_V} : sl_Go xs N 17 52 [a0, a1, a2, a3, a4, a5, some (.inr (.inr z)), a7, a8] (.inl x :: st) σ Q ↔ sl_Go xs N 17 54 [a0, a1, a2, a3, a4, a5, some (.inr (.inr z)), some (.inl x), a8] st σ Q := gk_istore rfl ⟨Nat.le_of_ble_eq_true rfl, rfl⟩ rfl
theorem g17_54 {x : Int32} {a0 a1 a2 a3 a4 a5 a6 a8 : Option sl_V} : sl_Go xs N 17 54 [a0, a1, a2, a3, a4, a5, a6, some (.inl x), a8] st σ Q ↔ sl_Go xs N 17 56 [a0, a1, a2, a3, a4, a5, a6, some (.inl x), a8] (.inl x :: st) σ Q := gk_iload rfl rfl
theorem g17_56 {x : sl_R} {a0 a1 a3 a4 a5 a6 a7 a8 : Option sl_V} : sl_Go xs N 17 56 [a0, a1, some (.inr (.inr x)), a3, a4, a5, a6, a7, a8] st σ Q ↔ sl_Go xs N 17 57 [a0, a1, some (.inr (.inr x)), a3, a4, a5, a6, a7, a8] (.inr (.inr x) :: st) σ Q := gk_aload rfl rfl
theorem g17_57 {L : sl_L} {i t : Nat} : sl_Go xs N 17 57 L (.inr (.inr (13, i, t)) :: st) σ Q ↔ sl_Go xs N 17 60 L (.inl (σ 5 2 t) :: st) σ Q := gk_get (g := .inl (5, 2, t)) rfl rfl rfl
theorem g17_60 {L : sl_L} : sl_Go xs N 17 60 L st σ Q ↔ sl_Go xs N 17 61 L (.inl 1 :: st) σ Q := gk_const rfl
theorem g17_61 {L : sl_L} {x y : Int32} : sl_Go xs N 17 61 L (.inl y :: .inl x :: st) σ Q ↔ sl_Go xs N 17 62 L (.inl (x - y) :: st) σ Q := gk_bin (b := 9) rfl
theorem g17_62 {L : sl_L} {x y : Int32} : sl_Go xs N 17 62 L (.inl y :: .inl x :: st) σ Q ↔ (y ≤ x → sl_Go xs N 17 153 L st σ Q) ∧ (¬ y ≤ x → sl_Go xs N 17 65 L st σ Q) := gk_ige rfl
theorem g17_65 {x : sl_R} {a1 a2 a3 a4 a5 a6 a7 a8 : Option sl_V} : sl_Go xs N 17 65 [some (.inr (.inr x)), a1, a2, a3, a4, a5, a6, a7, a8] st σ Q ↔ sl_Go xs N 17 66 [some (.inr (.inr x)), a1, a2, a3, a4, a5, a6, a7, a8] (.inr (.inr x) :: st) σ Q := gk_aload rfl rfl
theorem g17_66 {L : sl_L} {i t : Nat} : sl_Go xs N 17 66 L (.inr (.inr (1, i, t)) :: st) σ Q ↔ sl_Go xs N 17 69 L (.inr (.inr (3, i, 0)) :: st) σ Q := gk_get (g := .inr (3, i, 0)) rfl rfl rfl
theorem g17_69 {x : Int32} {a0 a2 a3 a4 a5 a6 a7 a8 : Option sl_V} : sl_Go xs N 17 69 [a0, some (.inl x), a2, a3, a4, a5, a6, a7, a8] st σ Q ↔ sl_Go xs N 17 70 [a0, some (.inl x), a2, a3, a4, a5, a6, a7, a8] (.inl x :: st) σ Q := gk_iload rfl rfl
theorem g17_70 {L : sl_L} {j : Int32} {r : sl_R} : sl_Go xs N 17 70 L (.inl j :: .inr (.inr r) :: st) σ Q ↔ (0 ≤ j.toInt ∧ j.toInt < sl_rlen r) ∧ sl_Go xs N 17 71 L (.inr (.inr (sl_rg r j.toNatClampNeg)) :: st) σ Q := gk_aald rfl
theorem g17_71 {x : Int32} {a0 a1 a2 a3 a4 a5 a6 a8 : Option sl_V} : sl_Go xs N 17 71 [a0, a1, a2, a3, a4, a5, a6, some (.inl x), a8] st σ Q ↔ sl_Go xs N 17 73 [a0, a1, a2, a3, a4, a5, a6, some (.inl x), a8] (.inl x :: st) σ Q := gk_iload rfl rfl
theorem g17_73 {L : sl_L} {j : Int32} {r : sl_R} : sl_Go xs N 17 73 L (.inl j :: .inr (.inr r) :: st) σ Q ↔ (0 ≤ j.toInt ∧ j.toInt < sl_ilen N r) ∧ sl_Go xs N 17 74 L (.inl (sl_rd xs σ r j.toNatClampNeg) :: st) σ Q := gk_iald rfl
theorem g17_74 {L : sl_L} : sl_Go xs N 17 74 L st σ Q ↔ sl_Go xs N 17 76 L (.inl 20 :: st) σ Q := gk_const rfl
theorem g17_76 {x : sl_R} {a0 a1 a2 a4 a5 a6 a7 a8 : Option sl_V} : sl_Go xs N 17 76 [a0, a1, a2, some (.inr (.inr x)), a4, a5, a6, a7, a8] st σ Q ↔ sl_Go xs N 17 77 [a0, a1, a2, some (.inr (.inr x)), a4, a5, a6, a7, a8] (.inr (.inr x) :: st) σ Q := gk_aload rfl rfl
theorem g17_77 {x : Int32} {a0 a1 a2 a3 a4 a5 a6 a8 : Option sl_V} : sl_Go xs N 17 77 [a0, a1, a2, a3, a4, a5, a6, some (.inl x), a8] st σ Q ↔ sl_Go xs N 17 79 [a0, a1, a2, a3, a4, a5, a6, some (.inl x), a8] (.inl x :: st) σ Q := gk_iload rfl rfl
theorem g17_79 {L : sl_L} {j : Int32} {r : sl_R} : sl_Go xs N 17 79 L (.inl j :: .inr (.inr r) :: st) σ Q ↔ (0 ≤ j.toInt ∧ j.toInt < sl_ilen N r) ∧ sl_Go xs N 17 80 L (.inl (sl_rd xs σ r j.toNatClampNeg) :: st) σ Q := gk_iald rfl
theorem g17_80 {x : sl_R} {a0 a1 a2 a4 a5 a6 a7 a8 : Option sl_V} : sl_Go xs N 17 80 [a0, a1, a2, some (.inr (.inr x)), a4, a5, a6, a7, a8] st σ Q ↔ sl_Go xs N 17 81 [a0, a1, a2, some (.inr (.inr x)), a4, a5, a6, a7, a8] (.inr (.inr x) :: st) σ Q := gk_aload rfl rfl
theorem g17_81 {x : Int32} {a0 a1 a2 a3 a4 a5 a6 a8 : Option sl_V} : sl_Go xs N 17 81 [a0, a1, a2, a3, a4, a5, a6, some (.inl x), a8] st σ Q ↔ sl_Go xs N 17 83 [a0, a1, a2, a3, a4, a5, a6, some (.inl x), a8] (.inl x :: st) σ Q := gk_iload rfl rfl
theorem g17_83 {L : sl_L} : sl_Go xs N 17 83 L st σ Q ↔ sl_Go xs N 17 84 L (.inl 1 :: st) σ Q := gk_const rfl
theorem g17_84 {L : sl_L} {x y : Int32} : sl_Go xs N 17 84 L (.inl y :: .inl x :: st) σ Q ↔ sl_Go xs N 17 85 L (.inl (x + y) :: st) σ Q := gk_bin (b := 8) rfl
theorem g17_85 {L : sl_L} {j : Int32} {r : sl_R} : sl_Go xs N 17 85 L (.inl j :: .inr (.inr r) :: st) σ Q ↔ (0 ≤ j.toInt ∧ j.toInt < sl_ilen N r) ∧ sl_Go xs N 17 86 L (.inl (sl_rd xs σ r j.toNatClampNeg) :: st) σ Q := gk_iald rfl
theorem g17_86 {L : sl_L} {x y : Int32} : sl_Go xs N 17 86 L (.inl y :: .inl x :: st) σ Q ↔ sl_Go xs N 17 87 L (.inl (x - y) :: st) σ Q := gk_bin (b := 9) rfl
theorem g17_87 {L : sl_L} {x y : Int32} : sl_Go xs N 17 87 L (.inl y :: .inl x :: st) σ Q ↔ sl_Go xs N 17 88 L (.inl (x * y) :: st) σ Q := gk_bin (b := 10) rfl
theorem g17_88 {L : sl_L} {x y : Int32} : sl_Go xs N 17 88 L (.inl y :: .inl x :: st) σ Q ↔ sl_Go xs N 17 89 L (.inl (x + y) :: st) σ Q := gk_bin (b := 8) rfl
theorem g17_89 {x : Int32} {a0 a1 a2 a3 a5 a6 a7 a8 : Option sl_V} : sl_Go xs N 17 89 [a0, a1, a2, a3, some (.inl x), a5, a6, a7, a8] st σ Q ↔ sl_Go xs N 17 91 [a0, a1, a2, a3, some (.inl x), a5, a6, a7, a8] (.inl x :: st) σ Q := gk_iload rfl rfl
theorem g17_91 {L : sl_L} {x y : Int32} : sl_Go xs N 17 91 L (.inl y :: .inl x :: st) σ Q ↔ sl_Go xs N 17 92 L (.inl (x + y) :: st) σ Q := gk_bin (b := 8) rfl
theorem g17_92n {x : Int32} {a0 a1 a2 a3 a4 a5 a6 a8 : Option sl_V} : sl_Go xs N 17 92 [a0, a1, a2, a3, a4, a5, a6, none, a8] (.inl x :: st) σ Q ↔ sl_Go xs N 17 94 [a0, a1, a2, a3, a4, a5, a6, none, some (.inl x)] st σ Q := gk_istore rfl ⟨Nat.le_of_ble_eq_true rfl, rfl⟩ rfl
theorem g17_92i {x : Int32} {z : Int32} {a0 a1 a2 a3 a4 a5 a6 a8 : Option sl_V} : sl_Go xs N 17 92 [a0, a1, a2, a3, a4, a5, a6, some (.inl z), a8] (.inl x :: st) σ Q ↔ sl_Go xs N 17 94 [a0, a1, a2, a3, a4, a5, a6, some (.inl z), some (.inl x)] st σ Q := gk_istore rfl ⟨Nat.le_of_ble_eq_true rfl, rfl⟩ rfl
theorem g17_92r {x : Int32} {z : sl_R} {a0 a1 a2 a3 a4 a5 a6 a8 : Option sl_V} : sl_Go xs N 17 92 [a0, a1, a2, a3, a4, a5, a6, some (.inr (.inr z)), a8] (.inl x :: st) σ Q ↔ sl_Go xs N 17 94 [a0, a1, a2, a3, a4, a5, a6, some (.inr (.inr z)), some (.inl x)] st σ Q := gk_istore rfl ⟨Nat.le_of_ble_eq_true rfl, rfl⟩ rfl
theorem g17_94 {x : Int32} {a0 a1 a2 a3 a4 a5 a6 a7 : Option sl_V} : sl_Go xs N 17 94 [a0, a1, a2, a3, a4, a5, a6, a7, some (.inl x)] st σ Q ↔ sl_Go xs N 17 96 [a0, a1, a2, a3, a4, a5, a6, a7, some (.inl x)] (.inl x :: st) σ Q := gk_iload rfl rfl
theorem g17_96 {x : Int32} {a0 a1 a2 a3 a4 a5 a6 a7 : Option sl_V} : sl_Go xs N 17 96 [a0, a1, a2, a3, a4, a5, a6, a7, some (.inl x)] st σ Q ↔ sl_Go xs N 17 98 [a0, a1, a2, a3, a4, a5, a6, a7, some (.inl x)] (.inl x :: st) σ Q := gk_iload rfl rfl
theorem g17_98 {x : Int32} {a0 a1 a2 a3 a4 a6 a7 a8 : Option sl_V} : sl_Go xs N 17 98 [a0, a1, a2, a3, a4, some (.inl x), a6, a7, a8] st σ Q ↔ sl_Go xs N 17 100 [a0, a1, a2, a3, a4, some (.inl x), a6, a7, a8] (.inl x :: st) σ Q := gk_iload rfl rfl
theorem g17_100 {L : sl_L} {x y : Int32} : sl_Go xs N 17 100 L (.inl y :: .inl x :: st) σ Q ↔ sl_Go xs N 17 101 L (.inl (x * y) :: st) σ Q := gk_bin (b := 10) rfl
theorem g17_101 {L : sl_L} : sl_Go xs N 17 101 L st σ Q ↔ sl_Go xs N 17 103 L (.inl 100 :: st) σ Q := gk_const rfl
theorem g17_103 {L : sl_L} {x y : Int32} : sl_Go xs N 17 103 L (.inl y :: .inl x :: st) σ Q ↔ ¬ y = 0 ∧ sl_Go xs N 17 104 L (.inl (x / y) :: st) σ Q := gk_idiv rfl
theorem g17_104 {L : sl_L} {x y : Int32} : sl_Go xs N 17 104 L (.inl y :: .inl x :: st) σ Q ↔ sl_Go xs N 17 105 L (.inl (x - y) :: st) σ Q := gk_bin (b := 9) rfl
theorem g17_105n {x : Int32} {a0 a1 a2 a3 a4 a5 a6 a8 : Option sl_V} : sl_Go xs N 17 105 [a0, a1, a2, a3, a4, a5, a6, none, a8] (.inl x :: st) σ Q ↔ sl_Go xs N 17 107 [a0, a1, a2, a3, a4, a5, a6, none, some (.inl x)] st σ Q := gk_istore rfl ⟨Nat.le_of_ble_eq_true rfl, rfl⟩ rfl
theorem g17_105i {x : Int32} {z : Int32} {a0 a1 a2 a3 a4 a5 a6 a8 : Option sl_V} : sl_Go xs N 17 105 [a0, a1, a2, a3, a4, a5, a6, some (.inl z), a8] (.inl x :: st) σ Q ↔ sl_Go xs N 17 107 [a0, a1, a2, a3, a4, a5, a6, some (.inl z), some (.inl x)] st σ Q := gk_istore rfl ⟨Nat.le_of_ble_eq_true rfl, rfl⟩ rfl
theorem g17_105r {x : Int32} {z : sl_R} {a0 a1 a2 a3 a4 a5 a6 a8 : Option sl_V} : sl_Go xs N 17 105 [a0, a1, a2, a3, a4, a5, a6, some (.inr (.inr z)), a8] (.inl x :: st) σ Q ↔ sl_Go xs N 17 107 [a0, a1, a2, a3, a4, a5, a6, some (.inr (.inr z)), some (.inl x)] st σ Q := gk_istore rfl ⟨Nat.le_of_ble_eq_true rfl, rfl⟩ rfl
theorem g17_107 {x : sl_R} {a0 a1 a3 a4 a5 a6 a7 a8 : Option sl_V} : sl_Go xs N 17 107 [a0, a1, some (.inr (.inr x)), a3, a4, a5, a6, a7, a8] st σ Q ↔ sl_Go xs N 17 108 [a0, a1, some (.inr (.inr x)), a3, a4, a5, a6, a7, a8] (.inr (.inr x) :: st) σ Q := gk_aload rfl rfl
theorem g17_108 {L : sl_L} {i t : Nat} : sl_Go xs N 17 108 L (.inr (.inr (13, i, t)) :: st) σ Q ↔ sl_Go xs N 17 111 L (.inl (σ 5 5 t) :: st) σ Q := gk_get (g := .inl (5, 5, t)) rfl rfl rfl
theorem g17_111 {x : Int32} {a0 a1 a2 a3 a4 a5 a6 a8 : Option sl_V} : sl_Go xs N 17 111 [a0, a1, a2, a3, a4, a5, a6, some (.inl x), a8] st σ Q ↔ sl_Go xs N 17 113 [a0, a1, a2, a3, a4, a5, a6, some (.inl x), a8] (.inl x :: st) σ Q := gk_iload rfl rfl
theorem g17_113 {L : sl_L} {x y : Int32} : sl_Go xs N 17 113 L (.inl y :: .inl x :: st) σ Q ↔ sl_Go xs N 17 114 L (.inl (x >>> (y &&& 31)) :: st) σ Q := gk_bin (b := 15) rfl
theorem g17_114 {L : sl_L} : sl_Go xs N 17 114 L st σ Q ↔ sl_Go xs N 17 115 L (.inl 1 :: st) σ Q := gk_const rfl
theorem g17_115 {L : sl_L} {x y : Int32} : sl_Go xs N 17 115 L (.inl y :: .inl x :: st) σ Q ↔ sl_Go xs N 17 116 L (.inl (x &&& y) :: st) σ Q := gk_bin (b := 11) rfl
theorem g17_116 {L : sl_L} {x : Int32} : sl_Go xs N 17 116 L (.inl x :: st) σ Q ↔ (x = 0 → sl_Go xs N 17 129 L st σ Q) ∧ (¬ x = 0 → sl_Go xs N 17 119 L st σ Q) := gk_zeq rfl
theorem g17_119 {x : Int32} {a0 a1 a2 a3 a4 a5 a6 a7 : Option sl_V} : sl_Go xs N 17 119 [a0, a1, a2, a3, a4, a5, a6, a7, some (.inl x)] st σ Q ↔ sl_Go xs N 17 121 [a0, a1, a2, a3, a4, a5, a6, a7, some (.inl x)] (.inl x :: st) σ Q := gk_iload rfl rfl
theorem g17_121 {x : Int32} {a0 a1 a2 a3 a4 a5 a7 a8 : Option sl_V} : sl_Go xs N 17 121 [a0, a1, a2, a3, a4, a5, some (.inl x), a7, a8] st σ Q ↔ sl_Go xs N 17 123 [a0, a1, a2, a3, a4, a5, some (.inl x), a7, a8] (.inl x :: st) σ Q := gk_iload rfl rfl
theorem g17_123 {L : sl_L} {x y : Int32} : sl_Go xs N 17 123 L (.inl y :: .inl x :: st) σ Q ↔ sl_Go xs N 17 124 L (.inl (x * y) :: st) σ Q := gk_bin (b := 10) rfl
theorem g17_124 {L : sl_L} : sl_Go xs N 17 124 L st σ Q ↔ sl_Go xs N 17 126 L (.inl 100 :: st) σ Q := gk_const rfl
theorem g17_126 {L : sl_L} {x y : Int32} : sl_Go xs N 17 126 L (.inl y :: .inl x :: st) σ Q ↔ ¬ y = 0 ∧ sl_Go xs N 17 127 L (.inl (x / y) :: st) σ Q := gk_idiv rfl
theorem g17_127n {x : Int32} {a0 a1 a2 a3 a4 a5 a6 a8 : Option sl_V} : sl_Go xs N 17 127 [a0, a1, a2, a3, a4, a5, a6, none, a8] (.inl x :: st) σ Q ↔ sl_Go xs N 17 129 [a0, a1, a2, a3, a4, a5, a6, none, some (.inl x)] st σ Q := gk_istore rfl ⟨Nat.le_of_ble_eq_true rfl, rfl⟩ rfl
theorem g17_127i {x : Int32} {z : Int32} {a0 a1 a2 a3 a4 a5 a6 a8 : Option sl_V} : sl_Go xs N 17 127 [a0, a1, a2, a3, a4, a5, a6, some (.inl z), a8] (.inl x :: st) σ Q ↔ sl_Go xs N 17 129 [a0, a1, a2, a3, a4, a5, a6, some (.inl z), some (.inl x)] st σ Q := gk_istore rfl ⟨Nat.le_of_ble_eq_true rfl, rfl⟩ rfl
theorem g17_127r {x : Int32} {z : sl_R} {a0 a1 a2 a3 a4 a5 a6 a8 : Option sl_V} : sl_Go xs N 17 127 [a0, a1, a2, a3, a4, a5, a6, some (.inr (.inr z)), a8] (.inl x :: st) σ Q ↔ sl_Go xs N 17 129 [a0, a1, a2, a3, a4, a5, a6, some (.inr (.inr z)), some (.inl x)] st σ Q := gk_istore rfl ⟨Nat.le_of_ble_eq_true rfl, rfl⟩ rfl
theorem g17_129 {x : sl_R} {a1 a2 a3 a4 a5 a6 a7 a8 : Option sl_V} : sl_Go xs N 17 129 [some (.inr (.inr x)), a1, a2, a3, a4, a5, a6, a7, a8] st σ Q ↔ sl_Go xs N 17 130 [some (.inr (.inr x)), a1, a2, a3, a4, a5, a6, a7, a8] (.inr (.inr x) :: st) σ Q := gk_aload rfl rfl
theorem g17_130 {L : sl_L} {i t : Nat} : sl_Go xs N 17 130 L (.inr (.inr (1, i, t)) :: st) σ Q ↔ sl_Go xs N 17 133 L (.inr (.inr (3, i, 0)) :: st) σ Q := gk_get (g := .inr (3, i, 0)) rfl rfl rfl
theorem g17_133 {x : Int32} {a0 a2 a3 a4 a5 a6 a7 a8 : Option sl_V} : sl_Go xs N 17 133 [a0, some (.inl x), a2, a3, a4, a5, a6, a7, a8] st σ Q ↔ sl_Go xs N 17 134 [a0, some (.inl x), a2, a3, a4, a5, a6, a7, a8] (.inl x :: st) σ Q := gk_iload rfl rfl
theorem g17_134 {L : sl_L} {j : Int32} {r : sl_R} : sl_Go xs N 17 134 L (.inl j :: .inr (.inr r) :: st) σ Q ↔ (0 ≤ j.toInt ∧ j.toInt < sl_rlen r) ∧ sl_Go xs N 17 135 L (.inr (.inr (sl_rg r j.toNatClampNeg)) :: st) σ Q := gk_aald rfl
theorem g17_135 {x : Int32} {a0 a1 a2 a3 a4 a5 a6 a8 : Option sl_V} : sl_Go xs N 17 135 [a0, a1, a2, a3, a4, a5, a6, some (.inl x), a8] st σ Q ↔ sl_Go xs N 17 137 [a0, a1, a2, a3, a4, a5, a6, some (.inl x), a8] (.inl x :: st) σ Q := gk_iload rfl rfl
theorem g17_137 {x : Int32} {a0 a1 a2 a3 a4 a5 a6 a7 : Option sl_V} : sl_Go xs N 17 137 [a0, a1, a2, a3, a4, a5, a6, a7, some (.inl x)] st σ Q ↔ sl_Go xs N 17 139 [a0, a1, a2, a3, a4, a5, a6, a7, some (.inl x)] (.inl x :: st) σ Q := gk_iload rfl rfl
theorem g17_139 {L : sl_L} {j x : Int32} {r : sl_R} : sl_Go xs N 17 139 L (.inl x :: .inl j :: .inr (.inr r) :: st) σ Q ↔ (0 ≤ j.toInt ∧ j.toInt < sl_wlen r 0) ∧ sl_Go xs N 17 140 L st (sl_wr σ r j.toNatClampNeg x) Q := gk_iast rfl
theorem g17_140 {x : sl_R} {a1 a2 a3 a4 a5 a6 a7 a8 : Option sl_V} : sl_Go xs N 17 140 [some (.inr (.inr x)), a1, a2, a3, a4, a5, a6, a7, a8] st σ Q ↔ sl_Go xs N 17 141 [some (.inr (.inr x)), a1, a2, a3, a4, a5, a6, a7, a8] (.inr (.inr x) :: st) σ Q := gk_aload rfl rfl
theorem g17_141 {x : Int32} {a0 a2 a3 a4 a5 a6 a7 a8 : Option sl_V} : sl_Go xs N 17 141 [a0, some (.inl x), a2, a3, a4, a5, a6, a7, a8] st σ Q ↔ sl_Go xs N 17 142 [a0, some (.inl x), a2, a3, a4, a5, a6, a7, a8] (.inl x :: st) σ Q := gk_iload rfl rfl
theorem g17_142 {x : Int32} {a0 a1 a2 a3 a4 a5 a6 a8 : Option sl_V} : sl_Go xs N 17 142 [a0, a1, a2, a3, a4, a5, a6, some (.inl x), a8] st σ Q ↔ sl_Go xs N 17 144 [a0, a1, a2, a3, a4, a5, a6, some (.inl x), a8] (.inl x :: st) σ Q := gk_iload rfl rfl
theorem g17_144 {L : sl_L} {o : sl_R} {x0 : Int32} {x1 : Int32} : sl_Go xs N 17 144 L (.inl x1 :: .inl x0 :: .inr (.inr o) :: st) σ Q ↔ sl_cw st ≤ 8 ∧ sl_Go xs N 18 0 [some (.inr (.inr o)), some (.inl x0), some (.inl x1), none, none, none, none, none, none, none, none] [] σ (fun r τ => sl_Go xs N 17 147 L (r.toList ++ st) τ Q) := gk_call rfl (Nat.le_add_left 3 st.length) rfl rfl rfl
theorem g17_147n {x : Int32} {a0 a1 a2 a3 a4 a5 a8 : Option sl_V} : sl_Go xs N 17 147 [a0, a1, a2, a3, a4, a5, none, some (.inl x), a8] st σ Q ↔ sl_Go xs N 17 150 [a0, a1, a2, a3, a4, a5, none, some (.inl (x + 1)), a8] st σ Q := gk_iinc rfl rfl rfl rfl
theorem g17_147i {x : Int32} {z : Int32} {a0 a1 a2 a3 a4 a5 a8 : Option sl_V} : sl_Go xs N 17 147 [a0, a1, a2, a3, a4, a5, some (.inl z), some (.inl x), a8] st σ Q ↔ sl_Go xs N 17 150 [a0, a1, a2, a3, a4, a5, some (.inl z), some (.inl (x + 1)), a8] st σ Q := gk_iinc rfl rfl rfl rfl
theorem g17_147r {x : Int32} {z : sl_R} {a0 a1 a2 a3 a4 a5 a8 : Option sl_V} : sl_Go xs N 17 147 [a0, a1, a2, a3, a4, a5, some (.inr (.inr z)), some (.inl x), a8] st σ Q ↔ sl_Go xs N 17 150 [a0, a1, a2, a3, a4, a5, some (.inr (.inr z)), some (.inl (x + 1)), a8] st σ Q := gk_iinc rfl rfl rfl rfl
theorem g17_150 {L : sl_L} : sl_Go xs N 17 150 L st σ Q ↔ sl_Go xs N 17 54 L st σ Q := gk_goto rfl
theorem g17_153 {L : sl_L} : sl_Go xs N 17 153 L [] σ Q ↔ Q none σ := gk_vret rfl
theorem g18_0 {x : sl_R} {a1 a2 a3 a4 a5 a6 a7 a8 a9 a10 : Option sl_V} : sl_Go xs N 18 0 [some (.inr (.inr x)), a1, a2, a3, a4, a5, a6, a7, a8, a9, a10] st σ Q ↔ sl_Go xs N 18 1 [some (.inr (.inr x)), a1, a2, a3, a4, a5, a6, a7, a8, a9, a10] (.inr (.inr x) :: st) σ Q := gk_aload rfl rfl
theorem g18_1 {L : sl_L} {i t : Nat} : sl_Go xs N 18 1 L (.inr (.inr (1, i, t)) :: st) σ Q ↔ sl_Go xs N 18 4 L (.inr (.inr (11, 0, 0)) :: st) σ Q := gk_get (g := .inr (11, 0, 0)) rfl rfl rfl
theorem g18_4 {L : sl_L} {i t : Nat} : sl_Go xs N 18 4 L (.inr (.inr (11, i, t)) :: st) σ Q ↔ sl_Go xs N 18 7 L (.inr (.inr (12, 0, 0)) :: st) σ Q := gk_get (g := .inr (12, 0, 0)) rfl rfl rfl
theorem g18_7 {x : Int32} {a0 a2 a3 a4 a5 a6 a7 a8 a9 a10 : Option sl_V} : sl_Go xs N 18 7 [a0, some (.inl x), a2, a3, a4, a5, a6, a7, a8, a9, a10] st σ Q ↔ sl_Go xs N 18 8 [a0, some (.inl x), a2, a3, a4, a5, a6, a7, a8, a9, a10] (.inl x :: st) σ Q := gk_iload rfl rfl
theorem g18_8 {L : sl_L} {j : Int32} {r : sl_R} : sl_Go xs N 18 8 L (.inl j :: .inr (.inr r) :: st) σ Q ↔ (0 ≤ j.toInt ∧ j.toInt < sl_rlen r) ∧ sl_Go xs N 18 9 L (.inr (.inr (sl_rg r j.toNatClampNeg)) :: st) σ Q := gk_aald rfl
theorem g18_9n {x : sl_R} {a0 a1 a3 a4 a5 a6 a7 a8 a9 a10 : Option sl_V} : sl_Go xs N 18 9 [a0, a1, none, a3, a4, a5, a6, a7, a8, a9, a10] (.inr (.inr x) :: st) σ Q ↔ sl_Go xs N 18 10 [a0, a1, none, some (.inr (.inr x)), a4, a5, a6, a7, a8, a9, a10] st σ Q := gk_astore rfl ⟨Nat.le_of_ble_eq_true rfl, rfl⟩ rfl
theorem g18_9i {x : sl_R} {z : Int32} {a0 a1 a3 a4 a5 a6 a7 a8 a9 a10 : Option sl_V} : sl_Go xs N 18 9 [a0, a1, some (.inl z), a3, a4, a5, a6, a7, a8, a9, a10] (.inr (.inr x) :: st) σ Q ↔ sl_Go xs N 18 10 [a0, a1, some (.inl z), some (.inr (.inr x)), a4, a5, a6, a7, a8, a9, a10] st σ Q := gk_astore rfl ⟨Nat.le_of_ble_eq_true rfl, rfl⟩ rfl
theorem g18_9r {x : sl_R} {z : sl_R} {a0 a1 a3 a4 a5 a6 a7 a8 a9 a10 : Option sl_V} : sl_Go xs N 18 9 [a0, a1, some (.inr (.inr z)), a3, a4, a5, a6, a7, a8, a9, a10] (.inr (.inr x) :: st) σ Q ↔ sl_Go xs N 18 10 [a0, a1, some (.inr (.inr z)), some (.inr (.inr x)), a4, a5, a6, a7, a8, a9, a10] st σ Q := gk_astore rfl ⟨Nat.le_of_ble_eq_true rfl, rfl⟩ rfl
theorem g18_10 {x : sl_R} {a1 a2 a3 a4 a5 a6 a7 a8 a9 a10 : Option sl_V} : sl_Go xs N 18 10 [some (.inr (.inr x)), a1, a2, a3, a4, a5, a6, a7, a8, a9, a10] st σ Q ↔ sl_Go xs N 18 11 [some (.inr (.inr x)), a1, a2, a3, a4, a5, a6, a7, a8, a9, a10] (.inr (.inr x) :: st) σ Q := gk_aload rfl rfl
theorem g18_11 {L : sl_L} {i t : Nat} : sl_Go xs N 18 11 L (.inr (.inr (1, i, t)) :: st) σ Q ↔ sl_Go xs N 18 14 L (.inr (.inr (2, i, 0)) :: st) σ Q := gk_get (g := .inr (2, i, 0)) rfl rfl rfl
theorem g18_14 {x : Int32} {a0 a2 a3 a4 a5 a6 a7 a8 a9 a10 : Option sl_V} : sl_Go xs N 18 14 [a0, some (.inl x), a2, a3, a4, a5, a6, a7, a8, a9, a10] st σ Q ↔ sl_Go xs N 18 15 [a0, some (.inl x), a2, a3, a4, a5, a6, a7, a8, a9, a10] (.inl x :: st) σ Q := gk_iload rfl rfl
theorem g18_15 {L : sl_L} {j : Int32} {r : sl_R} : sl_Go xs N 18 15 L (.inl j :: .inr (.inr r) :: st) σ Q ↔ (0 ≤ j.toInt ∧ j.toInt < sl_rlen r) ∧ sl_Go xs N 18 16 L (.inr (.inr (sl_rg r j.toNatClampNeg)) :: st) σ Q := gk_aald rfl
theorem g18_16n {x : sl_R} {a0 a1 a2 a4 a5 a6 a7 a8 a9 a10 : Option sl_V} : sl_Go xs N 18 16 [a0, a1, a2, none, a4, a5, a6, a7, a8, a9, a10] (.inr (.inr x) :: st) σ Q ↔ sl_Go xs N 18 18 [a0, a1, a2, none, some (.inr (.inr x)), a5, a6, a7, a8, a9, a10] st σ Q := gk_astore rfl ⟨Nat.le_of_ble_eq_true rfl, rfl⟩ rfl
theorem g18_16i {x : sl_R} {z : Int32} {a0 a1 a2 a4 a5 a6 a7 a8 a9 a10 : Option sl_V} : sl_Go xs N 18 16 [a0, a1, a2, some (.inl z), a4, a5, a6, a7, a8, a9, a10] (.inr (.inr x) :: st) σ Q ↔ sl_Go xs N 18 18 [a0, a1, a2, some (.inl z), some (.inr (.inr x)), a5, a6, a7, a8, a9, a10] st σ Q := gk_astore rfl ⟨Nat.le_of_ble_eq_true rfl, rfl⟩ rfl
theorem g18_16r {x : sl_R} {z : sl_R} {a0 a1 a2 a4 a5 a6 a7 a8 a9 a10 : Option sl_V} : sl_Go xs N 18 16 [a0, a1, a2, some (.inr (.inr z)), a4, a5, a6, a7, a8, a9, a10] (.inr (.inr x) :: st) σ Q ↔ sl_Go xs N 18 18 [a0, a1, a2, some (.inr (.inr z)), some (.inr (.inr x)), a5, a6, a7, a8, a9, a10] st σ Q := gk_astore rfl ⟨Nat.le_of_ble_eq_true rfl, rfl⟩ rfl
theorem g18_18 {x : sl_R} {a1 a2 a3 a4 a5 a6 a7 a8 a9 a10 : Option sl_V} : sl_Go xs N 18 18 [some (.inr (.inr x)), a1, a2, a3, a4, a5, a6, a7, a8, a9, a10] st σ Q ↔ sl_Go xs N 18 19 [some (.inr (.inr x)), a1, a2, a3, a4, a5, a6, a7, a8, a9, a10] (.inr (.inr x) :: st) σ Q := gk_aload rfl rfl
theorem g18_19 {L : sl_L} {i t : Nat} : sl_Go xs N 18 19 L (.inr (.inr (1, i, t)) :: st) σ Q ↔ sl_Go xs N 18 22 L (.inr (.inr (3, i, 0)) :: st) σ Q := gk_get (g := .inr (3, i, 0)) rfl rfl rfl
theorem g18_22 {x : Int32} {a0 a2 a3 a4 a5 a6 a7 a8 a9 a10 : Option sl_V} : sl_Go xs N 18 22 [a0, some (.inl x), a2, a3, a4, a5, a6, a7, a8, a9, a10] st σ Q ↔ sl_Go xs N 18 23 [a0, some (.inl x), a2, a3, a4, a5, a6, a7, a8, a9, a10] (.inl x :: st) σ Q := gk_iload rfl rfl
theorem g18_23 {L : sl_L} {j : Int32} {r : sl_R} : sl_Go xs N 18 23 L (.inl j :: .inr (.inr r) :: st) σ Q ↔ (0 ≤ j.toInt ∧ j.toInt < sl_rlen r) ∧ sl_Go xs N 18 24 L (.inr (.inr (sl_rg r j.toNatClampNeg)) :: st) σ Q := gk_aald rfl
theorem g18_24 {x : Int32} {a0 a1 a3 a4 a5 a6 a7 a8 a9 a10 : Option sl_V} : sl_Go xs N 18 24 [a0, a1, some (.inl x), a3, a4, a5, a6, a7, a8, a9, a10] st σ Q ↔ sl_Go xs N 18 25 [a0, a1, some (.inl x), a3, a4, a5, a6, a7, a8, a9, a10] (.inl x :: st) σ Q := gk_iload rfl rfl
theorem g18_25 {L : sl_L} {j : Int32} {r : sl_R} : sl_Go xs N 18 25 L (.inl j :: .inr (.inr r) :: st) σ Q ↔ (0 ≤ j.toInt ∧ j.toInt < sl_ilen N r) ∧ sl_Go xs N 18 26 L (.inl (sl_rd xs σ r j.toNatClampNeg) :: st) σ Q := gk_iald rfl
theorem g18_26n {x : Int32} {a0 a1 a2 a3 a5 a6 a7 a8 a9 a10 : Option sl_V} : sl_Go xs N 18 26 [a0, a1, a2, a3, none, a5, a6, a7, a8, a9, a10] (.inl x :: st) σ Q ↔ sl_Go xs N 18 28 [a0, a1, a2, a3, none, some (.inl x), a6, a7, a8, a9, a10] st σ Q := gk_istore rfl ⟨Nat.le_of_ble_eq_true rfl, rfl⟩ rfl
theorem g18_26i {x : Int32} {z : Int32} {a0 a1 a2 a3 a5 a6 a7 a8 a9 a10 : Option sl_V} : sl_Go xs N 18 26 [a0, a1, a2, a3, some (.inl z), a5, a6, a7, a8, a9, a10] (.inl x :: st) σ Q ↔ sl_Go xs N 18 28 [a0, a1, a2, a3, some (.inl z), some (.inl x), a6, a7, a8, a9, a10] st σ Q := gk_istore rfl ⟨Nat.le_of_ble_eq_true rfl, rfl⟩ rfl
theorem g18_26r {x : Int32} {z : sl_R} {a0 a1 a2 a3 a5 a6 a7 a8 a9 a10 : Option sl_V} : sl_Go xs N 18 26 [a0, a1, a2, a3, some (.inr (.inr z)), a5, a6, a7, a8, a9, a10] (.inl x :: st) σ Q ↔ sl_Go xs N 18 28 [a0, a1, a2, a3, some (.inr (.inr z)), some (.inl x), a6, a7, a8, a9, a10] st σ Q := gk_istore rfl ⟨Nat.le_of_ble_eq_true rfl, rfl⟩ rfl
theorem g18_28 {x : Int32} {a0 a1 a2 a3 a4 a6 a7 a8 a9 a10 : Option sl_V} : sl_Go xs N 18 28 [a0, a1, a2, a3, a4, some (.inl x), a6, a7, a8, a9, a10] st σ Q ↔ sl_Go xs N 18 30 [a0, a1, a2, a3, a4, some (.inl x), a6, a7, a8, a9, a10] (.inl x :: st) σ Q := gk_iload rfl rfl
theorem g18_30 {L : sl_L} {x : Int32} : sl_Go xs N 18 30 L (.inl x :: st) σ Q ↔ (0 ≤ x → sl_Go xs N 18 39 L st σ Q) ∧ (¬ 0 ≤ x → sl_Go xs N 18 33 L st σ Q) := gk_zge rfl
theorem g18_33 {x : Int32} {a0 a1 a3 a4 a5 a6 a7 a8 a9 a10 : Option sl_V} : sl_Go xs N 18 33 [a0, a1, some (.inl x), a3, a4, a5, a6, a7, a8, a9, a10] st σ Q ↔ sl_Go xs N 18 34 [a0, a1, some (.inl x), a3, a4, a5, a6, a7, a8, a9, a10] (.inl x :: st) σ Q := gk_iload rfl rfl
theorem g18_34 {L : sl_L} : sl_Go xs N 18 34 L st σ Q ↔ sl_Go xs N 18 35 L (.inl 1 :: st) σ Q := gk_const rfl
theorem g18_35 {L : sl_L} {x y : Int32} : sl_Go xs N 18 35 L (.inl y :: .inl x :: st) σ Q ↔ sl_Go xs N 18 36 L (.inl (x + y) :: st) σ Q := gk_bin (b := 8) rfl
theorem g18_36 {L : sl_L} : sl_Go xs N 18 36 L st σ Q ↔ sl_Go xs N 18 40 L st σ Q := gk_goto rfl
theorem g18_39 {x : Int32} {a0 a1 a3 a4 a5 a6 a7 a8 a9 a10 : Option sl_V} : sl_Go xs N 18 39 [a0, a1, some (.inl x), a3, a4, a5, a6, a7, a8, a9, a10] st σ Q ↔ sl_Go xs N 18 40 [a0, a1, some (.inl x), a3, a4, a5, a6, a7, a8, a9, a10] (.inl x :: st) σ Q := gk_iload rfl rfl
theorem g18_40n {x : Int32} {a0 a1 a2 a3 a4 a6 a7 a8 a9 a10 : Option sl_V} : sl_Go xs N 18 40 [a0, a1, a2, a3, a4, none, a6, a7, a8, a9, a10] (.inl x :: st) σ Q ↔ sl_Go xs N 18 42 [a0, a1, a2, a3, a4, none, some (.inl x), a7, a8, a9, a10] st σ Q := gk_istore rfl ⟨Nat.le_of_ble_eq_true rfl, rfl⟩ rfl
theorem g18_40i {x : Int32} {z : Int32} {a0 a1 a2 a3 a4 a6 a7 a8 a9 a10 : Option sl_V} : sl_Go xs N 18 40 [a0, a1, a2, a3, a4, some (.inl z), a6, a7, a8, a9, a10] (.inl x :: st) σ Q ↔ sl_Go xs N 18 42 [a0, a1, a2, a3, a4, some (.inl z), some (.inl x), a7, a8, a9, a10] st σ Q := gk_istore rfl ⟨Nat.le_of_ble_eq_true rfl, rfl⟩ rfl
theorem g18_40r {x : Int32} {z : sl_R} {a0 a1 a2 a3 a4 a6 a7 a8 a9 a10 : Option sl_V} : sl_Go xs N 18 40 [a0, a1, a2, a3, a4, some (.inr (.inr z)), a6, a7, a8, a9, a10] (.inl x :: st) σ Q ↔ sl_Go xs N 18 42 [a0, a1, a2, a3, a4, some (.inr (.inr z)), some (.inl x), a7, a8, a9, a10] st σ Q := gk_istore rfl ⟨Nat.le_of_ble_eq_true rfl, rfl⟩ rfl
theorem g18_42 {x : Int32} {a0 a1 a2 a3 a4 a6 a7 a8 a9 a10 : Option sl_V} : sl_Go xs N 18 42 [a0, a1, a2, a3, a4, some (.inl x), a6, a7, a8, a9, a10] st σ Q ↔ sl_Go xs N 18 44 [a0, a1, a2, a3, a4, some (.inl x), a6, a7, a8, a9, a10] (.inl x :: st) σ Q := gk_iload rfl rfl
theorem g18_44 {L : sl_L} {x : Int32} : sl_Go xs N 18 44 L (.inl x :: st) σ Q ↔ (0 ≤ x → sl_Go xs N 18 51 L st σ Q) ∧ (¬ 0 ≤ x → sl_Go xs N 18 47 L st σ Q) := gk_zge rfl
theorem g18_47 {x : Int32} {a0 a1 a3 a4 a5 a6 a7 a8 a9 a10 : Option sl_V} : sl_Go xs N 18 47 [a0, a1, some (.inl x), a3, a4, a5, a6, a7, a8, a9, a10] st σ Q ↔ sl_Go xs N 18 48 [a0, a1, some (.inl x), a3, a4, a5, a6, a7, a8, a9, a10] (.inl x :: st) σ Q := gk_iload rfl rfl
theorem g18_48 {L : sl_L} : sl_Go xs N 18 48 L st σ Q ↔ sl_Go xs N 18 54 L st σ Q := gk_goto rfl
theorem g18_51 {x : Int32} {a0 a1 a3 a4 a5 a6 a7 a8 a9 a10 : Option sl_V} : sl_Go xs N 18 51 [a0, a1, some (.inl x), a3, a4, a5, a6, a7, a8, a9, a10] st σ Q ↔ sl_Go xs N 18 52 [a0, a1, some (.inl x), a3, a4, a5, a6, a7, a8, a9, a10] (.inl x :: st) σ Q := gk_iload rfl rfl
theorem g18_52 {L : sl_L} : sl_Go xs N 18 52 L st σ Q ↔ sl_Go xs N 18 53 L (.inl 1 :: st) σ Q := gk_const rfl
theorem g18_53 {L : sl_L} {x y : Int32} : sl_Go xs N 18 53 L (.inl y :: .inl x :: st) σ Q ↔ sl_Go xs N 18 54 L (.inl (x + y) :: st) σ Q := gk_bin (b := 8) rfl
theorem g18_54n {x : Int32} {a0 a1 a2 a3 a4 a5 a7 a8 a9 a10 : Option sl_V} : sl_Go xs N 18 54 [a0, a1, a2, a3, a4, a5, none, a7, a8, a9, a10] (.inl x :: st) σ Q ↔ sl_Go xs N 18 56 [a0, a1, a2, a3, a4, a5, none, some (.inl x), a8, a9, a10] st σ Q := gk_istore rfl ⟨Nat.le_of_ble_eq_true rfl, rfl⟩ rfl
theorem g18_54i {x : Int32} {z : Int32} {a0 a1 a2 a3 a4 a5 a7 a8 a9 a10 : Option sl_V} : sl_Go xs N 18 54 [a0, a1, a2, a3, a4, a5, some (.inl z), a7, a8, a9, a10] (.inl x :: st) σ Q ↔ sl_Go xs N 18 56 [a0, a1, a2, a3, a4, a5, some (.inl z), some (.inl x), a8, a9, a10] st σ Q := gk_istore rfl ⟨Nat.le_of_ble_eq_true rfl, rfl⟩ rfl
theorem g18_54r {x : Int32} {z : sl_R} {a0 a1 a2 a3 a4 a5 a7 a8 a9 a10 : Option sl_V} : sl_Go xs N 18 54 [a0, a1, a2, a3, a4, a5, some (.inr (.inr z)), a7, a8, a9, a10] (.inl x :: st) σ Q ↔ sl_Go xs N 18 56 [a0, a1, a2, a3, a4, a5, some (.inr (.inr z)), some (.inl x), a8, a9, a10] st σ Q := gk_istore rfl ⟨Nat.le_of_ble_eq_true rfl, rfl⟩ rfl
theorem g18_56 {x : Int32} {a0 a1 a2 a3 a4 a6 a7 a8 a9 a10 : Option sl_V} : sl_Go xs N 18 56 [a0, a1, a2, a3, a4, some (.inl x), a6, a7, a8, a9, a10] st σ Q ↔ sl_Go xs N 18 58 [a0, a1, a2, a3, a4, some (.inl x), a6, a7, a8, a9, a10] (.inl x :: st) σ Q := gk_iload rfl rfl
theorem g18_58 {L : sl_L} {x0 : Int32} : sl_Go xs N 18 58 L (.inl x0 :: st) σ Q ↔ sl_cw st ≤ 8 ∧ sl_Go xs N 159 0 [some (.inl x0)] [] σ (fun r τ => sl_Go xs N 18 61 L (r.toList ++ st) τ Q) := gk_call rfl (Nat.le_add_left 1 st.length) rfl rfl rfl
theorem g18_61 {L : sl_L} : sl_Go xs N 18 61 L st σ Q ↔ sl_Go xs N 18 63 L (.inl 100 :: st) σ Q := gk_const rfl
theorem g18_63 {L : sl_L} {x y : Int32} : sl_Go xs N 18 63 L (.inl y :: .inl x :: st) σ Q ↔ ¬ y = 0 ∧ sl_Go xs N 18 64 L (.inl (x / y) :: st) σ Q := gk_idiv rfl
theorem g18_64 {x : sl_R} {a0 a1 a2 a3 a5 a6 a7 a8 a9 a10 : Option sl_V} : sl_Go xs N 18 64 [a0, a1, a2, a3, some (.inr (.inr x)), a5, a6, a7, a8, a9, a10] st σ Q ↔ sl_Go xs N 18 66 [a0, a1, a2, a3, some (.inr (.inr x)), a5, a6, a7, a8, a9, a10] (.inr (.inr x) :: st) σ Q := gk_aload rfl rfl
theorem g18_66 {x : Int32} {a0 a1 a2 a3 a4 a5 a7 a8 a9 a10 : Option sl_V} : sl_Go xs N 18 66 [a0, a1, a2, a3, a4, a5, some (.inl x), a7, a8, a9, a10] st σ Q ↔ sl_Go xs N 18 68 [a0, a1, a2, a3, a4, a5, some (.inl x), a7, a8, a9, a10] (.inl x :: st) σ Q := gk_iload rfl rfl
theorem g18_68 {L : sl_L} {j : Int32} {r : sl_R} : sl_Go xs N 18 68 L (.inl j :: .inr (.inr r) :: st) σ Q ↔ (0 ≤ j.toInt ∧ j.toInt < sl_ilen N r) ∧ sl_Go xs N 18 69 L (.inl (sl_rd xs σ r j.toNatClampNeg) :: st) σ Q := gk_iald rfl
theorem g18_69 {L : sl_L} {x0 : Int32} {x1 : Int32} : sl_Go xs N 18 69 L (.inl x1 :: .inl x0 :: st) σ Q ↔ sl_cw st ≤ 8 ∧ sl_Go xs N 162 0 [some (.inl x0), some (.inl x1)] [] σ (fun r τ => sl_Go xs N 18 72 L (r.toList ++ st) τ Q) := gk_call rfl (Nat.le_add_left 2 st.length) rfl rfl rfl
theorem g18_72n {x : Int32} {a0 a1 a2 a3 a4 a5 a6 a8 a9 a10 : Option sl_V} : sl_Go xs N 18 72 [a0, a1, a2, a3, a4, a5, a6, none, a8, a9, a10] (.inl x :: st) σ Q ↔ sl_Go xs N 18 74 [a0, a1, a2, a3, a4, a5, a6, none, some (.inl x), a9, a10] st σ Q := gk_istore rfl ⟨Nat.le_of_ble_eq_true rfl, rfl⟩ rfl
theorem g18_72i {x : Int32} {z : Int32} {a0 a1 a2 a3 a4 a5 a6 a8 a9 a10 : Option sl_V} : sl_Go xs N 18 72 [a0, a1, a2, a3, a4, a5, a6, some (.inl z), a8, a9, a10] (.inl x :: st) σ Q ↔ sl_Go xs N 18 74 [a0, a1, a2, a3, a4, a5, a6, some (.inl z), some (.inl x), a9, a10] st σ Q := gk_istore rfl ⟨Nat.le_of_ble_eq_true rfl, rfl⟩ rfl
theorem g18_72r {x : Int32} {z : sl_R} {a0 a1 a2 a3 a4 a5 a6 a8 a9 a10 : Option sl_V} : sl_Go xs N 18 72 [a0, a1, a2, a3, a4, a5, a6, some (.inr (.inr z)), a8, a9, a10] (.inl x :: st) σ Q ↔ sl_Go xs N 18 74 [a0, a1, a2, a3, a4, a5, a6, some (.inr (.inr z)), some (.inl x), a9, a10] st σ Q := gk_istore rfl ⟨Nat.le_of_ble_eq_true rfl, rfl⟩ rfl
theorem g18_74 {x : Int32} {a0 a1 a2 a3 a4 a5 a6 a7 a9 a10 : Option sl_V} : sl_Go xs N 18 74 [a0, a1, a2, a3, a4, a5, a6, a7, some (.inl x), a9, a10] st σ Q ↔ sl_Go xs N 18 76 [a0, a1, a2, a3, a4, a5, a6, a7, some (.inl x), a9, a10] (.inl x :: st) σ Q := gk_iload rfl rfl
theorem g18_76 {x : sl_R} {a0 a1 a2 a4 a5 a6 a7 a8 a9 a10 : Option sl_V} : sl_Go xs N 18 76 [a0, a1, a2, some (.inr (.inr x)), a4, a5, a6, a7, a8, a9, a10] st σ Q ↔ sl_Go xs N 18 77 [a0, a1, a2, some (.inr (.inr x)), a4, a5, a6, a7, a8, a9, a10] (.inr (.inr x) :: st) σ Q := gk_aload rfl rfl
theorem g18_77 {L : sl_L} {i t : Nat} : sl_Go xs N 18 77 L (.inr (.inr (13, i, t)) :: st) σ Q ↔ sl_Go xs N 18 80 L (.inl (σ 5 3 t) :: st) σ Q := gk_get (g := .inl (5, 3, t)) rfl rfl rfl
theorem g18_80 {x : sl_R} {a0 a1 a2 a3 a5 a6 a7 a8 a9 a10 : Option sl_V} : sl_Go xs N 18 80 [a0, a1, a2, a3, some (.inr (.inr x)), a5, a6, a7, a8, a9, a10] st σ Q ↔ sl_Go xs N 18 82 [a0, a1, a2, a3, some (.inr (.inr x)), a5, a6, a7, a8, a9, a10] (.inr (.inr x) :: st) σ Q := gk_aload rfl rfl
theorem g18_82 {x : Int32} {a0 a1 a2 a3 a4 a5 a6 a8 a9 a10 : Option sl_V} : sl_Go xs N 18 82 [a0, a1, a2, a3, a4, a5, a6, some (.inl x), a8, a9, a10] st σ Q ↔ sl_Go xs N 18 84 [a0, a1, a2, a3, a4, a5, a6, some (.inl x), a8, a9, a10] (.inl x :: st) σ Q := gk_iload rfl rfl
theorem g18_84 {L : sl_L} {j : Int32} {r : sl_R} : sl_Go xs N 18 84 L (.inl j :: .inr (.inr r) :: st) σ Q ↔ (0 ≤ j.toInt ∧ j.toInt < sl_ilen N r) ∧ sl_Go xs N 18 85 L (.inl (sl_rd xs σ r j.toNatClampNeg) :: st) σ Q := gk_iald rfl
theorem g18_85 {L : sl_L} {x y : Int32} : sl_Go xs N 18 85 L (.inl y :: .inl x :: st) σ Q ↔ sl_Go xs N 18 86 L (.inl (x - y) :: st) σ Q := gk_bin (b := 9) rfl
theorem g18_86 {L : sl_L} {x0 : Int32} {x1 : Int32} : sl_Go xs N 18 86 L (.inl x1 :: .inl x0 :: st) σ Q ↔ sl_cw st ≤ 8 ∧ sl_Go xs N 162 0 [some (.inl x0), some (.inl x1)] [] σ (fun r τ => sl_Go xs N 18 89 L (r.toList ++ st) τ Q) := gk_call rfl (Nat.le_add_left 2 st.length) rfl rfl rfl
theorem g18_89n {x : Int32} {a0 a1 a2 a3 a4 a5 a6 a7 a9 a10 : Option sl_V} : sl_Go xs N 18 89 [a0, a1, a2, a3, a4, a5, a6, a7, none, a9, a10] (.inl x :: st) σ Q ↔ sl_Go xs N 18 91 [a0, a1, a2, a3, a4, a5, a6, a7, none, some (.inl x), a10] st σ Q := gk_istore rfl ⟨Nat.le_of_ble_eq_true rfl, rfl⟩ rfl
theorem g18_89i {x : Int32} {z : Int32} {a0 a1 a2 a3 a4 a5 a6 a7 a9 a10 : Option sl_V} : sl_Go xs N 18 89 [a0, a1, a2, a3, a4, a5, a6, a7, some (.inl z), a9, a10] (.inl x :: st) σ Q ↔ sl_Go xs N 18 91 [a0, a1, a2, a3, a4, a5, a6, a7, some (.inl z), some (.inl x), a10] st σ Q := gk_istore rfl ⟨Nat.le_of_ble_eq_true rfl, rfl⟩ rfl
theorem g18_89r {x : Int32} {z : sl_R} {a0 a1 a2 a3 a4 a5 a6 a7 a9 a10 : Option sl_V} : sl_Go xs N 18 89 [a0, a1, a2, a3, a4, a5, a6, a7, some (.inr (.inr z)), a9, a10] (.inl x :: st) σ Q ↔ sl_Go xs N 18 91 [a0, a1, a2, a3, a4, a5, a6, a7, some (.inr (.inr z)), some (.inl x), a10] st σ Q := gk_istore rfl ⟨Nat.le_of_ble_eq_true rfl, rfl⟩ rfl
theorem g18_91 {x : Int32} {a0 a1 a2 a3 a4 a5 a6 a7 a9 a10 : Option sl_V} : sl_Go xs N 18 91 [a0, a1, a2, a3, a4, a5, a6, a7, some (.inl x), a9, a10] st σ Q ↔ sl_Go xs N 18 93 [a0, a1, a2, a3, a4, a5, a6, a7, some (.inl x), a9, a10] (.inl x :: st) σ Q := gk_iload rfl rfl
theorem g18_93 {x : Int32} {a0 a1 a2 a3 a4 a5 a6 a7 a8 a10 : Option sl_V} : sl_Go xs N 18 93 [a0, a1, a2, a3, a4, a5, a6, a7, a8, some (.inl x), a10] st σ Q ↔ sl_Go xs N 18 95 [a0, a1, a2, a3, a4, a5, a6, a7, a8, some (.inl x), a10] (.inl x :: st) σ Q := gk_iload rfl rfl
theorem g18_95 {L : sl_L} {x y : Int32} : sl_Go xs N 18 95 L (.inl y :: .inl x :: st) σ Q ↔ sl_Go xs N 18 96 L (.inl (x - y) :: st) σ Q := gk_bin (b := 9) rfl
theorem g18_96n {x : Int32} {a0 a1 a2 a3 a4 a5 a6 a7 a8 a10 : Option sl_V} : sl_Go xs N 18 96 [a0, a1, a2, a3, a4, a5, a6, a7, a8, none, a10] (.inl x :: st) σ Q ↔ sl_Go xs N 18 98 [a0, a1, a2, a3, a4, a5, a6, a7, a8, none, some (.inl x)] st σ Q := gk_istore rfl ⟨Nat.le_of_ble_eq_true rfl, rfl⟩ rfl
theorem g18_96i {x : Int32} {z : Int32} {a0 a1 a2 a3 a4 a5 a6 a7 a8 a10 : Option sl_V} : sl_Go xs N 18 96 [a0, a1, a2, a3, a4, a5, a6, a7, a8, some (.inl z), a10] (.inl x :: st) σ Q ↔ sl_Go xs N 18 98 [a0, a1, a2, a3, a4, a5, a6, a7, a8, some (.inl z), some (.inl x)] st σ Q := gk_istore rfl ⟨Nat.le_of_ble_eq_true rfl, rfl⟩ rfl
theorem g18_96r {x : Int32} {z : sl_R} {a0 a1 a2 a3 a4 a5 a6 a7 a8 a10 : Option sl_V} : sl_Go xs N 18 96 [a0, a1, a2, a3, a4, a5, a6, a7, a8, some (.inr (.inr z)), a10] (.inl x :: st) σ Q ↔ sl_Go xs N 18 98 [a0, a1, a2, a3, a4, a5, a6, a7, a8, some (.inr (.inr z)), some (.inl x)] st σ Q := gk_istore rfl ⟨Nat.le_of_ble_eq_true rfl, rfl⟩ rfl
theorem g18_98 {x : sl_R} {a0 a1 a2 a3 a5 a6 a7 a8 a9 a10 : Option sl_V} : sl_Go xs N 18 98 [a0, a1, a2, a3, some (.inr (.inr x)), a5, a6, a7, a8, a9, a10] st σ Q ↔ sl_Go xs N 18 100 [a0, a1, a2, a3, some (.inr (.inr x)), a5, a6, a7, a8, a9, a10] (.inr (.inr x) :: st) σ Q := gk_aload rfl rfl
theorem g18_100 {x : Int32} {a0 a1 a2 a3 a4 a5 a6 a8 a9 a10 : Option sl_V} : sl_Go xs N 18 100 [a0, a1, a2, a3, a4, a5, a6, some (.inl x), a8, a9, a10] st σ Q ↔ sl_Go xs N 18 102 [a0, a1, a2, a3, a4, a5, a6, some (.inl x), a8, a9, a10] (.inl x :: st) σ Q := gk_iload rfl rfl
theorem g18_102 {L : sl_L} {x : sl_R} {y : Int32} : sl_Go xs N 18 102 L (.inl y :: .inr (.inr x) :: st) σ Q ↔ sl_Go xs N 18 103 L (.inl y :: .inr (.inr x) :: .inl y :: .inr (.inr x) :: st) σ Q := gk_dup2 rfl
theorem g18_103 {L : sl_L} {j : Int32} {r : sl_R} : sl_Go xs N 18 103 L (.inl j :: .inr (.inr r) :: st) σ Q ↔ (0 ≤ j.toInt ∧ j.toInt < sl_ilen N r) ∧ sl_Go xs N 18 104 L (.inl (sl_rd xs σ r j.toNatClampNeg) :: st) σ Q := gk_iald rfl
theorem g18_104 {x : Int32} {a0 a1 a2 a3 a4 a5 a6 a7 a8 a10 : Option sl_V} : sl_Go xs N 18 104 [a0, a1, a2, a3, a4, a5, a6, a7, a8, some (.inl x), a10] st σ Q ↔ sl_Go xs N 18 106 [a0, a1, a2, a3, a4, a5, a6, a7, a8, some (.inl x), a10] (.inl x :: st) σ Q := gk_iload rfl rfl
theorem g18_106 {L : sl_L} {x y : Int32} : sl_Go xs N 18 106 L (.inl y :: .inl x :: st) σ Q ↔ sl_Go xs N 18 107 L (.inl (x + y) :: st) σ Q := gk_bin (b := 8) rfl
theorem g18_107 {L : sl_L} {j x : Int32} {r : sl_R} : sl_Go xs N 18 107 L (.inl x :: .inl j :: .inr (.inr r) :: st) σ Q ↔ (0 ≤ j.toInt ∧ j.toInt < sl_wlen r 0) ∧ sl_Go xs N 18 108 L st (sl_wr σ r j.toNatClampNeg x) Q := gk_iast rfl
theorem g18_108 {x : Int32} {a0 a1 a2 a3 a4 a5 a6 a7 a8 a9 : Option sl_V} : sl_Go xs N 18 108 [a0, a1, a2, a3, a4, a5, a6, a7, a8, a9, some (.inl x)] st σ Q ↔ sl_Go xs N 18 110 [a0, a1, a2, a3, a4, a5, a6, a7, a8, a9, some (.inl x)] (.inl x :: st) σ Q := gk_iload rfl rfl
theorem g18_110 {L : sl_L} {x : Int32} : sl_Go xs N 18 110 L (.inl x :: st) σ Q ↔ (x ≤ 0 → sl_Go xs N 18 171 L st σ Q) ∧ (¬ x ≤ 0 → sl_Go xs N 18 113 L st σ Q) := gk_zle rfl
theorem g18_113 {x : sl_R} {a1 a2 a3 a4 a5 a6 a7 a8 a9 a10 : Option sl_V} : sl_Go xs N 18 113 [some (.inr (.inr x)), a1, a2, a3, a4, a5, a6, a7, a8, a9, a10] st σ Q ↔ sl_Go xs N 18 114 [some (.inr (.inr x)), a1, a2, a3, a4, a5, a6, a7, a8, a9, a10] (.inr (.inr x) :: st) σ Q := gk_aload rfl rfl
theorem g18_114 {L : sl_L} {i t : Nat} : sl_Go xs N 18 114 L (.inr (.inr (1, i, t)) :: st) σ Q ↔ sl_Go xs N 18 117 L (.inr (.inr (3, i, 0)) :: st) σ Q := gk_get (g := .inr (3, i, 0)) rfl rfl rfl
theorem g18_117 {x : Int32} {a0 a2 a3 a4 a5 a6 a7 a8 a9 a10 : Option sl_V} : sl_Go xs N 18 117 [a0, some (.inl x), a2, a3, a4, a5, a6, a7, a8, a9, a10] st σ Q ↔ sl_Go xs N 18 118 [a0, some (.inl x), a2, a3, a4, a5, a6, a7, a8, a9, a10] (.inl x :: st) σ Q := gk_iload rfl rfl
theorem g18_118 {L : sl_L} {j : Int32} {r : sl_R} : sl_Go xs N 18 118 L (.inl j :: .inr (.inr r) :: st) σ Q ↔ (0 ≤ j.toInt ∧ j.toInt < sl_rlen r) ∧ sl_Go xs N 18 119 L (.inr (.inr (sl_rg r j.toNatClampNeg)) :: st) σ Q := gk_aald rfl
theorem g18_119 {x : Int32} {a0 a1 a3 a4 a5 a6 a7 a8 a9 a10 : Option sl_V} : sl_Go xs N 18 119 [a0, a1, some (.inl x), a3, a4, a5, a6, a7, a8, a9, a10] st σ Q ↔ sl_Go xs N 18 120 [a0, a1, some (.inl x), a3, a4, a5, a6, a7, a8, a9, a10] (.inl x :: st) σ Q := gk_iload rfl rfl
theorem g18_120 {L : sl_L} : sl_Go xs N 18 120 L st σ Q ↔ sl_Go xs N 18 121 L (.inl 0 :: st) σ Q := gk_const rfl
theorem g18_121 {L : sl_L} {j x : Int32} {r : sl_R} : sl_Go xs N 18 121 L (.inl x :: .inl j :: .inr (.inr r) :: st) σ Q ↔ (0 ≤ j.toInt ∧ j.toInt < sl_wlen r 0) ∧ sl_Go xs N 18 122 L st (sl_wr σ r j.toNatClampNeg x) Q := gk_iast rfl
theorem g18_122 {x : sl_R} {a0 a1 a2 a4 a5 a6 a7 a8 a9 a10 : Option sl_V} : sl_Go xs N 18 122 [a0, a1, a2, some (.inr (.inr x)), a4, a5, a6, a7, a8, a9, a10] st σ Q ↔ sl_Go xs N 18 123 [a0, a1, a2, some (.inr (.inr x)), a4, a5, a6, a7, a8, a9, a10] (.inr (.inr x) :: st) σ Q := gk_aload rfl rfl
theorem g18_123 {L : sl_L} {i t : Nat} : sl_Go xs N 18 123 L (.inr (.inr (13, i, t)) :: st) σ Q ↔ sl_Go xs N 18 126 L (.inl (σ 5 1 t) :: st) σ Q := gk_get (g := .inl (5, 1, t)) rfl rfl rfl
theorem g18_126 {L : sl_L} {x0 : Int32} : sl_Go xs N 18 126 L (.inl x0 :: st) σ Q ↔ sl_cw st ≤ 8 ∧ sl_Go xs N 8 0 [some (.inl x0)] [] σ (fun r τ => sl_Go xs N 18 129 L (r.toList ++ st) τ Q) := gk_call rfl (Nat.le_add_left 1 st.length) rfl rfl rfl
theorem g18_129 {L : sl_L} {x : Int32} : sl_Go xs N 18 129 L (.inl x :: st) σ Q ↔ (x = 0 → sl_Go xs N 18 149 L st σ Q) ∧ (¬ x = 0 → sl_Go xs N 18 132 L st σ Q) := gk_zeq rfl
theorem g18_132 {x : sl_R} {a1 a2 a3 a4 a5 a6 a7 a8 a9 a10 : Option sl_V} : sl_Go xs N 18 132 [some (.inr (.inr x)), a1, a2, a3, a4, a5, a6, a7, a8, a9, a10] st σ Q ↔ sl_Go xs N 18 133 [some (.inr (.inr x)), a1, a2, a3, a4, a5, a6, a7, a8, a9, a10] (.inr (.inr x) :: st) σ Q := gk_aload rfl rfl
theorem g18_133i {L : sl_L} {x : Int32} : sl_Go xs N 18 133 L (.inl x :: st) σ Q ↔ sl_Go xs N 18 134 L (.inl x :: .inl x :: st) σ Q := gk_dupi rfl
theorem g18_133r {L : sl_L} {x : sl_R} : sl_Go xs N 18 133 L (.inr (.inr x) :: st) σ Q ↔ sl_Go xs N 18 134 L (.inr (.inr x) :: .inr (.inr x) :: st) σ Q := gk_dupr rfl
theorem g18_134 {L : sl_L} {i t : Nat} : sl_Go xs N 18 134 L (.inr (.inr (1, i, t)) :: st) σ Q ↔ sl_Go xs N 18 137 L (.inl (σ i 0 5) :: st) σ Q := gk_get (g := .inl (i, 0, 5)) rfl rfl rfl
theorem g18_137 {L : sl_L} : sl_Go xs N 18 137 L st σ Q ↔ sl_Go xs N 18 138 L (.inl 1 :: st) σ Q := gk_const rfl
theorem g18_138 {L : sl_L} {x y : Int32} : sl_Go xs N 18 138 L (.inl y :: .inl x :: st) σ Q ↔ sl_Go xs N 18 139 L (.inl (x + y) :: st) σ Q := gk_bin (b := 8) rfl
theorem g18_139 {L : sl_L} {x : Int32} {i t : Nat} : sl_Go xs N 18 139 L (.inl x :: .inr (.inr (1, i, t)) :: st) σ Q ↔ sl_Go xs N 18 142 L st (sl_up σ i 0 5 x) Q := gk_put0 (q := (i, 0, 5)) rfl rfl rfl
theorem g18_142 {x : Int32} {a0 a1 a2 a3 a4 a5 a6 a7 a8 a10 : Option sl_V} : sl_Go xs N 18 142 [a0, a1, a2, a3, a4, a5, a6, a7, a8, some (.inl x), a10] st σ Q ↔ sl_Go xs N 18 144 [a0, a1, a2, a3, a4, a5, a6, a7, a8, some (.inl x), a10] (.inl x :: st) σ Q := gk_iload rfl rfl
theorem g18_144n {x : Int32} {a0 a1 a2 a3 a4 a5 a6 a8 a9 a10 : Option sl_V} : sl_Go xs N 18 144 [a0, a1, a2, a3, a4, a5, a6, none, a8, a9, a10] (.inl x :: st) σ Q ↔ sl_Go xs N 18 146 [a0, a1, a2, a3, a4, a5, a6, none, some (.inl x), a9, a10] st σ Q := gk_istore rfl ⟨Nat.le_of_ble_eq_true rfl, rfl⟩ rfl
theorem g18_144i {x : Int32} {z : Int32} {a0 a1 a2 a3 a4 a5 a6 a8 a9 a10 : Option sl_V} : sl_Go xs N 18 144 [a0, a1, a2, a3, a4, a5, a6, some (.inl z), a8, a9, a10] (.inl x :: st) σ Q ↔ sl_Go xs N 18 146 [a0, a1, a2, a3, a4, a5, a6, some (.inl z), some (.inl x), a9, a10] st σ Q := gk_istore rfl ⟨Nat.le_of_ble_eq_true rfl, rfl⟩ rfl
theorem g18_144r {x : Int32} {z : sl_R} {a0 a1 a2 a3 a4 a5 a6 a8 a9 a10 : Option sl_V} : sl_Go xs N 18 144 [a0, a1, a2, a3, a4, a5, a6, some (.inr (.inr z)), a8, a9, a10] (.inl x :: st) σ Q ↔ sl_Go xs N 18 146 [a0, a1, a2, a3, a4, a5, a6, some (.inr (.inr z)), some (.inl x), a9, a10] st σ Q := gk_istore rfl ⟨Nat.le_of_ble_eq_true rfl, rfl⟩ rfl
theorem g18_146 {L : sl_L} : sl_Go xs N 18 146 L st σ Q ↔ sl_Go xs N 18 171 L st σ Q := gk_goto rfl
theorem g18_149 {x : sl_R} {a1 a2 a3 a4 a5 a6 a7 a8 a9 a10 : Option sl_V} : sl_Go xs N 18 149 [some (.inr (.inr x)), a1, a2, a3, a4, a5, a6, a7, a8, a9, a10] st σ Q ↔ sl_Go xs N 18 150 [some (.inr (.inr x)), a1, a2, a3, a4, a5, a6, a7, a8, a9, a10] (.inr (.inr x) :: st) σ Q := gk_aload rfl rfl
theorem g18_150i {L : sl_L} {x : Int32} : sl_Go xs N 18 150 L (.inl x :: st) σ Q ↔ sl_Go xs N 18 151 L (.inl x :: .inl x :: st) σ Q := gk_dupi rfl
theorem g18_150r {L : sl_L} {x : sl_R} : sl_Go xs N 18 150 L (.inr (.inr x) :: st) σ Q ↔ sl_Go xs N 18 151 L (.inr (.inr x) :: .inr (.inr x) :: st) σ Q := gk_dupr rfl
theorem g18_151 {L : sl_L} {i t : Nat} : sl_Go xs N 18 151 L (.inr (.inr (1, i, t)) :: st) σ Q ↔ sl_Go xs N 18 154 L (.inl (σ i 0 6) :: st) σ Q := gk_get (g := .inl (i, 0, 6)) rfl rfl rfl
theorem g18_154 {x : Int32} {a0 a1 a2 a3 a4 a5 a6 a7 a8 a9 : Option sl_V} : sl_Go xs N 18 154 [a0, a1, a2, a3, a4, a5, a6, a7, a8, a9, some (.inl x)] st σ Q ↔ sl_Go xs N 18 156 [a0, a1, a2, a3, a4, a5, a6, a7, a8, a9, some (.inl x)] (.inl x :: st) σ Q := gk_iload rfl rfl
theorem g18_156 {L : sl_L} {x y : Int32} : sl_Go xs N 18 156 L (.inl y :: .inl x :: st) σ Q ↔ sl_Go xs N 18 157 L (.inl (x + y) :: st) σ Q := gk_bin (b := 8) rfl
theorem g18_157 {L : sl_L} {x : Int32} {i t : Nat} : sl_Go xs N 18 157 L (.inl x :: .inr (.inr (1, i, t)) :: st) σ Q ↔ sl_Go xs N 18 160 L st (sl_up σ i 0 6 x) Q := gk_put0 (q := (i, 0, 6)) rfl rfl rfl
theorem g18_160 {x : sl_R} {a1 a2 a3 a4 a5 a6 a7 a8 a9 a10 : Option sl_V} : sl_Go xs N 18 160 [some (.inr (.inr x)), a1, a2, a3, a4, a5, a6, a7, a8, a9, a10] st σ Q ↔ sl_Go xs N 18 161 [some (.inr (.inr x)), a1, a2, a3, a4, a5, a6, a7, a8, a9, a10] (.inr (.inr x) :: st) σ Q := gk_aload rfl rfl
theorem g18_161 {L : sl_L} {i t : Nat} : sl_Go xs N 18 161 L (.inr (.inr (1, i, t)) :: st) σ Q ↔ sl_Go xs N 18 164 L (.inr (.inr (7, i, 0)) :: st) σ Q := gk_get (g := .inr (7, i, 0)) rfl rfl rfl
theorem g18_164 {x : Int32} {a0 a2 a3 a4 a5 a6 a7 a8 a9 a10 : Option sl_V} : sl_Go xs N 18 164 [a0, some (.inl x), a2, a3, a4, a5, a6, a7, a8, a9, a10] st σ Q ↔ sl_Go xs N 18 165 [a0, some (.inl x), a2, a3, a4, a5, a6, a7, a8, a9, a10] (.inl x :: st) σ Q := gk_iload rfl rfl
theorem g18_165 {L : sl_L} {x : sl_R} {y : Int32} : sl_Go xs N 18 165 L (.inl y :: .inr (.inr x) :: st) σ Q ↔ sl_Go xs N 18 166 L (.inl y :: .inr (.inr x) :: .inl y :: .inr (.inr x) :: st) σ Q := gk_dup2 rfl
theorem g18_166 {L : sl_L} {j : Int32} {r : sl_R} : sl_Go xs N 18 166 L (.inl j :: .inr (.inr r) :: st) σ Q ↔ (0 ≤ j.toInt ∧ j.toInt < sl_ilen N r) ∧ sl_Go xs N 18 167 L (.inl (sl_rd xs σ r j.toNatClampNeg) :: st) σ Q := gk_iald rfl
theorem g18_167 {x : Int32} {a0 a1 a2 a3 a4 a5 a6 a7 a8 a9 : Option sl_V} : sl_Go xs N 18 167 [a0, a1, a2, a3, a4, a5, a6, a7, a8, a9, some (.inl x)] st σ Q ↔ sl_Go xs N 18 169 [a0, a1, a2, a3, a4, a5, a6, a7, a8, a9, some (.inl x)] (.inl x :: st) σ Q := gk_iload rfl rfl
theorem g18_169 {L : sl_L} {x y : Int32} : sl_Go xs N 18 169 L (.inl y :: .inl x :: st) σ Q ↔ sl_Go xs N 18 170 L (.inl (x + y) :: st) σ Q := gk_bin (b := 8) rfl
theorem g18_170 {L : sl_L} {j x : Int32} {r : sl_R} : sl_Go xs N 18 170 L (.inl x :: .inl j :: .inr (.inr r) :: st) σ Q ↔ (0 ≤ j.toInt ∧ j.toInt < sl_wlen r 0) ∧ sl_Go xs N 18 171 L st (sl_wr σ r j.toNatClampNeg x) Q := gk_iast rfl
theorem g18_171 {x : sl_R} {a0 a1 a2 a3 a5 a6 a7 a8 a9 a10 : Option sl_V} : sl_Go xs N 18 171 [a0, a1, a2, a3, some (.inr (.inr x)), a5, a6, a7, a8, a9, a10] st σ Q ↔ sl_Go xs N 18 173 [a0, a1, a2, a3, some (.inr (.inr x)), a5, a6, a7, a8, a9, a10] (.inr (.inr x) :: st) σ Q := gk_aload rfl rfl
theorem g18_173 {x : Int32} {a0 a1 a2 a3 a4 a5 a7 a8 a9 a10 : Option sl_V} : sl_Go xs N 18 173 [a0, a1, a2, a3, a4, a5, some (.inl x), a7, a8, a9, a10] st σ Q ↔ sl_Go xs N 18 175 [a0, a1, a2, a3, a4, a5, some (.inl x), a7, a8, a9, a10] (.inl x :: st) σ Q := gk_iload rfl rfl
theorem g18_175 {L : sl_L} {x : sl_R} {y : Int32} : sl_Go xs N 18 175 L (.inl y :: .inr (.inr x) :: st) σ Q ↔ sl_Go xs N 18 176 L (.inl y :: .inr (.inr x) :: .inl y :: .inr (.inr x) :: st) σ Q := gk_dup2 rfl
theorem g18_176 {L : sl_L} {j : Int32} {r : sl_R} : sl_Go xs N 18 176 L (.inl j :: .inr (.inr r) :: st) σ Q ↔ (0 ≤ j.toInt ∧ j.toInt < sl_ilen N r) ∧ sl_Go xs N 18 177 L (.inl (sl_rd xs σ r j.toNatClampNeg) :: st) σ Q := gk_iald rfl
theorem g18_177 {x : Int32} {a0 a1 a2 a3 a4 a5 a6 a7 a9 a10 : Option sl_V} : sl_Go xs N 18 177 [a0, a1, a2, a3, a4, a5, a6, a7, some (.inl x), a9, a10] st σ Q ↔ sl_Go xs N 18 179 [a0, a1, a2, a3, a4, a5, a6, a7, some (.inl x), a9, a10] (.inl x :: st) σ Q := gk_iload rfl rfl
theorem g18_179 {L : sl_L} {x y : Int32} : sl_Go xs N 18 179 L (.inl y :: .inl x :: st) σ Q ↔ sl_Go xs N 18 180 L (.inl (x - y) :: st) σ Q := gk_bin (b := 9) rfl
theorem g18_180 {L : sl_L} {j x : Int32} {r : sl_R} : sl_Go xs N 18 180 L (.inl x :: .inl j :: .inr (.inr r) :: st) σ Q ↔ (0 ≤ j.toInt ∧ j.toInt < sl_wlen r 0) ∧ sl_Go xs N 18 181 L st (sl_wr σ r j.toNatClampNeg x) Q := gk_iast rfl
theorem g18_181 {L : sl_L} : sl_Go xs N 18 181 L [] σ Q ↔ Q none σ := gk_vret rfl
theorem g19_0 {x : sl_R} {a1 a2 a3 a4 a5 : Option sl_V} : sl_Go xs N 19 0 [some (.inr (.inr x)), a1, a2, a3, a4, a5] st σ Q ↔ sl_Go xs N 19 1 [some (.inr (.inr x)), a1, a2, a3, a4, a5] (.inr (.inr x) :: st) σ Q := gk_aload rfl rfl
theorem g19_1 {L : sl_L} {i t : Nat} : sl_Go xs N 19 1 L (.inr (.inr (1, i, t)) :: st) σ Q ↔ sl_Go xs N 19 4 L (.inr (.inr (11, 0, 0)) :: st) σ Q := gk_get (g := .inr (11, 0, 0)) rfl rfl rfl
theorem g19_4 {L : sl_L} {i t : Nat} : sl_Go xs N 19 4 L (.inr (.inr (11, i, t)) :: st) σ Q ↔ sl_Go xs N 19 7 L (.inr (.inr (14, 0, 0)) :: st) σ Q := gk_get (g := .inr (14, 0, 0)) rfl rfl rfl
theorem g19_7 {x : Int32} {a0 a2 a3 a4 a5 : Option sl_V} : sl_Go xs N 19 7 [a0, some (.inl x), a2, a3, a4, a5] st σ Q ↔ sl_Go xs N 19 8 [a0, some (.inl x), a2, a3, a4, a5] (.inl x :: st) σ Q := gk_iload rfl rfl
theorem g19_8 {L : sl_L} {j : Int32} {r : sl_R} : sl_Go xs N 19 8 L (.inl j :: .inr (.inr r) :: st) σ Q ↔ (0 ≤ j.toInt ∧ j.toInt < sl_ilen N r) ∧ sl_Go xs N 19 9 L (.inl (sl_rd xs σ r j.toNatClampNeg) :: st) σ Q := gk_iald rfl
theorem g19_9n {x : Int32} {a0 a2 a3 a4 a5 : Option sl_V} : sl_Go xs N 19 9 [a0, none, a2, a3, a4, a5] (.inl x :: st) σ Q ↔ sl_Go xs N 19 10 [a0, none, some (.inl x), a3, a4, a5] st σ Q := gk_istore rfl ⟨Nat.le_of_ble_eq_true rfl, rfl⟩ rfl
theorem g19_9i {x : Int32} {z : Int32} {a0 a2 a3 a4 a5 : Option sl_V} : sl_Go xs N 19 9 [a0, some (.inl z), a2, a3, a4, a5] (.inl x :: st) σ Q ↔ sl_Go xs N 19 10 [a0, some (.inl z), some (.inl x), a3, a4, a5] st σ Q := gk_istore rfl ⟨Nat.le_of_ble_eq_true rfl, rfl⟩ rfl
theorem g19_9r {x : Int32} {z : sl_R} {a0 a2 a3 a4 a5 : Option sl_V} : sl_Go xs N 19 9 [a0, some (.inr (.inr z)), a2, a3, a4, a5] (.inl x :: st) σ Q ↔ sl_Go xs N 19 10 [a0, some (.inr (.inr z)), some (.inl x), a3, a4, a5] st σ Q := gk_istore rfl ⟨Nat.le_of_ble_eq_true rfl, rfl⟩ rfl
theorem g19_10 {x : sl_R} {a1 a2 a3 a4 a5 : Option sl_V} : sl_Go xs N 19 10 [some (.inr (.inr x)), a1, a2, a3, a4, a5] st σ Q ↔ sl_Go xs N 19 11 [some (.inr (.inr x)), a1, a2, a3, a4, a5] (.inr (.inr x) :: st) σ Q := gk_aload rfl rfl
theorem g19_11 {L : sl_L} {i t : Nat} : sl_Go xs N 19 11 L (.inr (.inr (1, i, t)) :: st) σ Q ↔ sl_Go xs N 19 14 L (.inr (.inr (11, 0, 0)) :: st) σ Q := gk_get (g := .inr (11, 0, 0)) rfl rfl rfl
theorem g19_14 {L : sl_L} {i t : Nat} : sl_Go xs N 19 14 L (.inr (.inr (11, i, t)) :: st) σ Q ↔ sl_Go xs N 19 17 L (.inr (.inr (15, 0, 0)) :: st) σ Q := gk_get (g := .inr (15, 0, 0)) rfl rfl rfl
theorem g19_17 {x : Int32} {a0 a2 a3 a4 a5 : Option sl_V} : sl_Go xs N 19 17 [a0, some (.inl x), a2, a3, a4, a5] st σ Q ↔ sl_Go xs N 19 18 [a0, some (.inl x), a2, a3, a4, a5] (.inl x :: st) σ Q := gk_iload rfl rfl
theorem g19_18 {L : sl_L} {j : Int32} {r : sl_R} : sl_Go xs N 19 18 L (.inl j :: .inr (.inr r) :: st) σ Q ↔ (0 ≤ j.toInt ∧ j.toInt < sl_ilen N r) ∧ sl_Go xs N 19 19 L (.inl (sl_rd xs σ r j.toNatClampNeg) :: st) σ Q := gk_iald rfl
theorem g19_19n {x : Int32} {a0 a1 a3 a4 a5 : Option sl_V} : sl_Go xs N 19 19 [a0, a1, none, a3, a4, a5] (.inl x :: st) σ Q ↔ sl_Go xs N 19 20 [a0, a1, none, some (.inl x), a4, a5] st σ Q := gk_istore rfl ⟨Nat.le_of_ble_eq_true rfl, rfl⟩ rfl
theorem g19_19i {x : Int32} {z : Int32} {a0 a1 a3 a4 a5 : Option sl_V} : sl_Go xs N 19 19 [a0, a1, some (.inl z), a3, a4, a5] (.inl x :: st) σ Q ↔ sl_Go xs N 19 20 [a0, a1, some (.inl z), some (.inl x), a4, a5] st σ Q := gk_istore rfl ⟨Nat.le_of_ble_eq_true rfl, rfl⟩ rfl
theorem g19_19r {x : Int32} {z : sl_R} {a0 a1 a3 a4 a5 : Option sl_V} : sl_Go xs N 19 19 [a0, a1, some (.inr (.inr z)), a3, a4, a5] (.inl x :: st) σ Q ↔ sl_Go xs N 19 20 [a0, a1, some (.inr (.inr z)), some (.inl x), a4, a5] st σ Q := gk_istore rfl ⟨Nat.le_of_ble_eq_true rfl, rfl⟩ rfl
theorem g19_20 {x : sl_R} {a1 a2 a3 a4 a5 : Option sl_V} : sl_Go xs N 19 20 [some (.inr (.inr x)), a1, a2, a3, a4, a5] st σ Q ↔ sl_Go xs N 19 21 [some (.inr (.inr x)), a1, a2, a3, a4, a5] (.inr (.inr x) :: st) σ Q := gk_aload rfl rfl
theorem g19_21 {L : sl_L} {i t : Nat} : sl_Go xs N 19 21 L (.inr (.inr (1, i, t)) :: st) σ Q ↔ sl_Go xs N 19 24 L (.inr (.inr (8, i, 0)) :: st) σ Q := gk_get (g := .inr (8, i, 0)) rfl rfl rfl
theorem g19_24 {x : Int32} {a0 a2 a3 a4 a5 : Option sl_V} : sl_Go xs N 19 24 [a0, some (.inl x), a2, a3, a4, a5] st σ Q ↔ sl_Go xs N 19 25 [a0, some (.inl x), a2, a3, a4, a5] (.inl x :: st) σ Q := gk_iload rfl rfl
theorem g19_25 {L : sl_L} {j : Int32} {r : sl_R} : sl_Go xs N 19 25 L (.inl j :: .inr (.inr r) :: st) σ Q ↔ (0 ≤ j.toInt ∧ j.toInt < sl_ilen N r) ∧ sl_Go xs N 19 26 L (.inl (sl_rd xs σ r j.toNatClampNeg) :: st) σ Q := gk_iald rfl
theorem g19_26 {x : sl_R} {a1 a2 a3 a4 a5 : Option sl_V} : sl_Go xs N 19 26 [some (.inr (.inr x)), a1, a2, a3, a4, a5] st σ Q ↔ sl_Go xs N 19 27 [some (.inr (.inr x)), a1, a2, a3, a4, a5] (.inr (.inr x) :: st) σ Q := gk_aload rfl rfl
theorem g19_27 {L : sl_L} {i t : Nat} : sl_Go xs N 19 27 L (.inr (.inr (1, i, t)) :: st) σ Q ↔ sl_Go xs N 19 30 L (.inr (.inr (2, i, 0)) :: st) σ Q := gk_get (g := .inr (2, i, 0)) rfl rfl rfl
theorem g19_30 {x : Int32} {a0 a1 a3 a4 a5 : Option sl_V} : sl_Go xs N 19 30 [a0, a1, some (.inl x), a3, a4, a5] st σ Q ↔ sl_Go xs N 19 31 [a0, a1, some (.inl x), a3, a4, a5] (.inl x :: st) σ Q := gk_iload rfl rfl
theorem g19_31 {L : sl_L} {j : Int32} {r : sl_R} : sl_Go xs N 19 31 L (.inl j :: .inr (.inr r) :: st) σ Q ↔ (0 ≤ j.toInt ∧ j.toInt < sl_rlen r) ∧ sl_Go xs N 19 32 L (.inr (.inr (sl_rg r j.toNatClampNeg)) :: st) σ Q := gk_aald rfl
theorem g19_32 {x : Int32} {a0 a1 a2 a4 a5 : Option sl_V} : sl_Go xs N 19 32 [a0, a1, a2, some (.inl x), a4, a5] st σ Q ↔ sl_Go xs N 19 33 [a0, a1, a2, some (.inl x), a4, a5] (.inl x :: st) σ Q := gk_iload rfl rfl
theorem g19_33 {L : sl_L} {j : Int32} {r : sl_R} : sl_Go xs N 19 33 L (.inl j :: .inr (.inr r) :: st) σ Q ↔ (0 ≤ j.toInt ∧ j.toInt < sl_ilen N r) ∧ sl_Go xs N 19 34 L (.inl (sl_rd xs σ r j.toNatClampNeg) :: st) σ Q := gk_iald rfl
theorem g19_34 {L : sl_L} {x0 : Int32} {x1 : Int32} : sl_Go xs N 19 34 L (.inl x1 :: .inl x0 :: st) σ Q ↔ sl_cw st ≤ 8 ∧ sl_Go xs N 162 0 [some (.inl x0), some (.inl x1)] [] σ (fun r τ => sl_Go xs N 19 37 L (r.toList ++ st) τ Q) := gk_call rfl (Nat.le_add_left 2 st.length) rfl rfl rfl
theorem g19_37n {x : Int32} {a0 a1 a2 a4 a5 : Option sl_V} : sl_Go xs N 19 37 [a0, a1, a2, none, a4, a5] (.inl x :: st) σ Q ↔ sl_Go xs N 19 39 [a0, a1, a2, none, some (.inl x), a5] st σ Q := gk_istore rfl ⟨Nat.le_of_ble_eq_true rfl, rfl⟩ rfl
theorem g19_37i {x : Int32} {z : Int32} {a0 a1 a2 a4 a5 : Option sl_V} : sl_Go xs N 19 37 [a0, a1, a2, some (.inl z), a4, a5] (.inl x :: st) σ Q ↔ sl_Go xs N 19 39 [a0, a1, a2, some (.inl z), some (.inl x), a5] st σ Q := gk_istore rfl ⟨Nat.le_of_ble_eq_true rfl, rfl⟩ rfl
theorem g19_37r {x : Int32} {z : sl_R} {a0 a1 a2 a4 a5 : Option sl_V} : sl_Go xs N 19 37 [a0, a1, a2, some (.inr (.inr z)), a4, a5] (.inl x :: st) σ Q ↔ sl_Go xs N 19 39 [a0, a1, a2, some (.inr (.inr z)), some (.inl x), a5] st σ Q := gk_istore rfl ⟨Nat.le_of_ble_eq_true rfl, rfl⟩ rfl
theorem g19_39 {x : sl_R} {a1 a2 a3 a4 a5 : Option sl_V} : sl_Go xs N 19 39 [some (.inr (.inr x)), a1, a2, a3, a4, a5] st σ Q ↔ sl_Go xs N 19 40 [some (.inr (.inr x)), a1, a2, a3, a4, a5] (.inr (.inr x) :: st) σ Q := gk_aload rfl rfl
theorem g19_40 {L : sl_L} {i t : Nat} : sl_Go xs N 19 40 L (.inr (.inr (1, i, t)) :: st) σ Q ↔ sl_Go xs N 19 43 L (.inr (.inr (8, i, 0)) :: st) σ Q := gk_get (g := .inr (8, i, 0)) rfl rfl rfl
theorem g19_43 {x : Int32} {a0 a2 a3 a4 a5 : Option sl_V} : sl_Go xs N 19 43 [a0, some (.inl x), a2, a3, a4, a5] st σ Q ↔ sl_Go xs N 19 44 [a0, some (.inl x), a2, a3, a4, a5] (.inl x :: st) σ Q := gk_iload rfl rfl
theorem g19_44 {L : sl_L} {j : Int32} {r : sl_R} : sl_Go xs N 19 44 L (.inl j :: .inr (.inr r) :: st) σ Q ↔ (0 ≤ j.toInt ∧ j.toInt < sl_ilen N r) ∧ sl_Go xs N 19 45 L (.inl (sl_rd xs σ r j.toNatClampNeg) :: st) σ Q := gk_iald rfl
theorem g19_45 {x : Int32} {a0 a1 a2 a3 a5 : Option sl_V} : sl_Go xs N 19 45 [a0, a1, a2, a3, some (.inl x), a5] st σ Q ↔ sl_Go xs N 19 47 [a0, a1, a2, a3, some (.inl x), a5] (.inl x :: st) σ Q := gk_iload rfl rfl
theorem g19_47 {L : sl_L} {x y : Int32} : sl_Go xs N 19 47 L (.inl y :: .inl x :: st) σ Q ↔ sl_Go xs N 19 48 L (.inl (x - y) :: st) σ Q := gk_bin (b := 9) rfl
theorem g19_48n {x : Int32} {a0 a1 a2 a3 a5 : Option sl_V} : sl_Go xs N 19 48 [a0, a1, a2, a3, none, a5] (.inl x :: st) σ Q ↔ sl_Go xs N 19 50 [a0, a1, a2, a3, none, some (.inl x)] st σ Q := gk_istore rfl ⟨Nat.le_of_ble_eq_true rfl, rfl⟩ rfl
theorem g19_48i {x : Int32} {z : Int32} {a0 a1 a2 a3 a5 : Option sl_V} : sl_Go xs N 19 48 [a0, a1, a2, a3, some (.inl z), a5] (.inl x :: st) σ Q ↔ sl_Go xs N 19 50 [a0, a1, a2, a3, some (.inl z), some (.inl x)] st σ Q := gk_istore rfl ⟨Nat.le_of_ble_eq_true rfl, rfl⟩ rfl
theorem g19_48r {x : Int32} {z : sl_R} {a0 a1 a2 a3 a5 : Option sl_V} : sl_Go xs N 19 48 [a0, a1, a2, a3, some (.inr (.inr z)), a5] (.inl x :: st) σ Q ↔ sl_Go xs N 19 50 [a0, a1, a2, a3, some (.inr (.inr z)), some (.inl x)] st σ Q := gk_istore rfl ⟨Nat.le_of_ble_eq_true rfl, rfl⟩ rfl
theorem g19_50 {x : sl_R} {a1 a2 a3 a4 a5 : Option sl_V} : sl_Go xs N 19 50 [some (.inr (.inr x)), a1, a2, a3, a4, a5] st σ Q ↔ sl_Go xs N 19 51 [some (.inr (.inr x)), a1, a2, a3, a4, a5] (.inr (.inr x) :: st) σ Q := gk_aload rfl rfl
theorem g19_51 {L : sl_L} {i t : Nat} : sl_Go xs N 19 51 L (.inr (.inr (1, i, t)) :: st) σ Q ↔ sl_Go xs N 19 54 L (.inr (.inr (2, i, 0)) :: st) σ Q := gk_get (g := .inr (2, i, 0)) rfl rfl rfl
theorem g19_54 {x : Int32} {a0 a1 a3 a4 a5 : Option sl_V} : sl_Go xs N 19 54 [a0, a1, some (.inl x), a3, a4, a5] st σ Q ↔ sl_Go xs N 19 55 [a0, a1, some (.inl x), a3, a4, a5] (.inl x :: st) σ Q := gk_iload rfl rfl
theorem g19_55 {L : sl_L} {j : Int32} {r : sl_R} : sl_Go xs N 19 55 L (.inl j :: .inr (.inr r) :: st) σ Q ↔ (0 ≤ j.toInt ∧ j.toInt < sl_rlen r) ∧ sl_Go xs N 19 56 L (.inr (.inr (sl_rg r j.toNatClampNeg)) :: st) σ Q := gk_aald rfl
theorem g19_56 {x : Int32} {a0 a1 a2 a4 a5 : Option sl_V} : sl_Go xs N 19 56 [a0, a1, a2, some (.inl x), a4, a5] st σ Q ↔ sl_Go xs N 19 57 [a0, a1, a2, some (.inl x), a4, a5] (.inl x :: st) σ Q := gk_iload rfl rfl
theorem g19_57 {L : sl_L} {x : sl_R} {y : Int32} : sl_Go xs N 19 57 L (.inl y :: .inr (.inr x) :: st) σ Q ↔ sl_Go xs N 19 58 L (.inl y :: .inr (.inr x) :: .inl y :: .inr (.inr x) :: st) σ Q := gk_dup2 rfl
theorem g19_58 {L : sl_L} {j : Int32} {r : sl_R} : sl_Go xs N 19 58 L (.inl j :: .inr (.inr r) :: st) σ Q ↔ (0 ≤ j.toInt ∧ j.toInt < sl_ilen N r) ∧ sl_Go xs N 19 59 L (.inl (sl_rd xs σ r j.toNatClampNeg) :: st) σ Q := gk_iald rfl
theorem g19_59 {x : Int32} {a0 a1 a2 a3 a5 : Option sl_V} : sl_Go xs N 19 59 [a0, a1, a2, a3, some (.inl x), a5] st σ Q ↔ sl_Go xs N 19 61 [a0, a1, a2, a3, some (.inl x), a5] (.inl x :: st) σ Q := gk_iload rfl rfl
theorem g19_61 {L : sl_L} {x y : Int32} : sl_Go xs N 19 61 L (.inl y :: .inl x :: st) σ Q ↔ sl_Go xs N 19 62 L (.inl (x - y) :: st) σ Q := gk_bin (b := 9) rfl
theorem g19_62 {L : sl_L} {j x : Int32} {r : sl_R} : sl_Go xs N 19 62 L (.inl x :: .inl j :: .inr (.inr r) :: st) σ Q ↔ (0 ≤ j.toInt ∧ j.toInt < sl_wlen r 0) ∧ sl_Go xs N 19 63 L st (sl_wr σ r j.toNatClampNeg x) Q := gk_iast rfl
theorem g19_63 {x : sl_R} {a1 a2 a3 a4 a5 : Option sl_V} : sl_Go xs N 19 63 [some (.inr (.inr x)), a1, a2, a3, a4, a5] st σ Q ↔ sl_Go xs N 19 64 [some (.inr (.inr x)), a1, a2, a3, a4, a5] (.inr (.inr x) :: st) σ Q := gk_aload rfl rfl
theorem g19_64 {L : sl_L} {i t : Nat} : sl_Go xs N 19 64 L (.inr (.inr (1, i, t)) :: st) σ Q ↔ sl_Go xs N 19 67 L (.inr (.inr (7, i, 0)) :: st) σ Q := gk_get (g := .inr (7, i, 0)) rfl rfl rfl
theorem g19_67 {x : Int32} {a0 a1 a3 a4 a5 : Option sl_V} : sl_Go xs N 19 67 [a0, a1, some (.inl x), a3, a4, a5] st σ Q ↔ sl_Go xs N 19 68 [a0, a1, some (.inl x), a3, a4, a5] (.inl x :: st) σ Q := gk_iload rfl rfl
theorem g19_68 {L : sl_L} {x : sl_R} {y : Int32} : sl_Go xs N 19 68 L (.inl y :: .inr (.inr x) :: st) σ Q ↔ sl_Go xs N 19 69 L (.inl y :: .inr (.inr x) :: .inl y :: .inr (.inr x) :: st) σ Q := gk_dup2 rfl
theorem g19_69 {L : sl_L} {j : Int32} {r : sl_R} : sl_Go xs N 19 69 L (.inl j :: .inr (.inr r) :: st) σ Q ↔ (0 ≤ j.toInt ∧ j.toInt < sl_ilen N r) ∧ sl_Go xs N 19 70 L (.inl (sl_rd xs σ r j.toNatClampNeg) :: st) σ Q := gk_iald rfl
theorem g19_70 {x : Int32} {a0 a1 a2 a3 a5 : Option sl_V} : sl_Go xs N 19 70 [a0, a1, a2, a3, some (.inl x), a5] st σ Q ↔ sl_Go xs N 19 72 [a0, a1, a2, a3, some (.inl x), a5] (.inl x :: st) σ Q := gk_iload rfl rfl
theorem g19_72 {L : sl_L} {x y : Int32} : sl_Go xs N 19 72 L (.inl y :: .inl x :: st) σ Q ↔ sl_Go xs N 19 73 L (.inl (x + y) :: st) σ Q := gk_bin (b := 8) rfl
theorem g19_73 {L : sl_L} {j x : Int32} {r : sl_R} : sl_Go xs N 19 73 L (.inl x :: .inl j :: .inr (.inr r) :: st) σ Q ↔ (0 ≤ j.toInt ∧ j.toInt < sl_wlen r 0) ∧ sl_Go xs N 19 74 L st (sl_wr σ r j.toNatClampNeg x) Q := gk_iast rfl
theorem g19_74 {x : sl_R} {a1 a2 a3 a4 a5 : Option sl_V} : sl_Go xs N 19 74 [some (.inr (.inr x)), a1, a2, a3, a4, a5] st σ Q ↔ sl_Go xs N 19 75 [some (.inr (.inr x)), a1, a2, a3, a4, a5] (.inr (.inr x) :: st) σ Q := gk_aload rfl rfl
theorem g19_75i {L : sl_L} {x : Int32} : sl_Go xs N 19 75 L (.inl x :: st) σ Q ↔ sl_Go xs N 19 76 L (.inl x :: .inl x :: st) σ Q := gk_dupi rfl
theorem g19_75r {L : sl_L} {x : sl_R} : sl_Go xs N 19 75 L (.inr (.inr x) :: st) σ Q ↔ sl_Go xs N 19 76 L (.inr (.inr x) :: .inr (.inr x) :: st) σ Q := gk_dupr rfl
theorem g19_76 {L : sl_L} {i t : Nat} : sl_Go xs N 19 76 L (.inr (.inr (1, i, t)) :: st) σ Q ↔ sl_Go xs N 19 79 L (.inl (σ i 0 7) :: st) σ Q := gk_get (g := .inl (i, 0, 7)) rfl rfl rfl
theorem g19_79 {x : Int32} {a0 a1 a2 a3 a5 : Option sl_V} : sl_Go xs N 19 79 [a0, a1, a2, a3, some (.inl x), a5] st σ Q ↔ sl_Go xs N 19 81 [a0, a1, a2, a3, some (.inl x), a5] (.inl x :: st) σ Q := gk_iload rfl rfl
theorem g19_81 {L : sl_L} {x y : Int32} : sl_Go xs N 19 81 L (.inl y :: .inl x :: st) σ Q ↔ sl_Go xs N 19 82 L (.inl (x + y) :: st) σ Q := gk_bin (b := 8) rfl
theorem g19_82 {L : sl_L} {x : Int32} {i t : Nat} : sl_Go xs N 19 82 L (.inl x :: .inr (.inr (1, i, t)) :: st) σ Q ↔ sl_Go xs N 19 85 L st (sl_up σ i 0 7 x) Q := gk_put0 (q := (i, 0, 7)) rfl rfl rfl
theorem g19_85 {x : Int32} {a0 a1 a2 a3 a4 : Option sl_V} : sl_Go xs N 19 85 [a0, a1, a2, a3, a4, some (.inl x)] st σ Q ↔ sl_Go xs N 19 87 [a0, a1, a2, a3, a4, some (.inl x)] (.inl x :: st) σ Q := gk_iload rfl rfl
theorem g19_87 {L : sl_L} {x : Int32} : sl_Go xs N 19 87 L (.inl x :: st) σ Q ↔ (x ≤ 0 → sl_Go xs N 19 121 L st σ Q) ∧ (¬ x ≤ 0 → sl_Go xs N 19 90 L st σ Q) := gk_zle rfl
theorem g19_90 {x : sl_R} {a1 a2 a3 a4 a5 : Option sl_V} : sl_Go xs N 19 90 [some (.inr (.inr x)), a1, a2, a3, a4, a5] st σ Q ↔ sl_Go xs N 19 91 [some (.inr (.inr x)), a1, a2, a3, a4, a5] (.inr (.inr x) :: st) σ Q := gk_aload rfl rfl
theorem g19_91 {L : sl_L} {i t : Nat} : sl_Go xs N 19 91 L (.inr (.inr (1, i, t)) :: st) σ Q ↔ sl_Go xs N 19 94 L (.inr (.inr (9, i, 0)) :: st) σ Q := gk_get (g := .inr (9, i, 0)) rfl rfl rfl
theorem g19_94 {x : Int32} {a0 a2 a3 a4 a5 : Option sl_V} : sl_Go xs N 19 94 [a0, some (.inl x), a2, a3, a4, a5] st σ Q ↔ sl_Go xs N 19 95 [a0, some (.inl x), a2, a3, a4, a5] (.inl x :: st) σ Q := gk_iload rfl rfl
theorem g19_95 {L : sl_L} {x : sl_R} {y : Int32} : sl_Go xs N 19 95 L (.inl y :: .inr (.inr x) :: st) σ Q ↔ sl_Go xs N 19 96 L (.inl y :: .inr (.inr x) :: .inl y :: .inr (.inr x) :: st) σ Q := gk_dup2 rfl
theorem g19_96 {L : sl_L} {j : Int32} {r : sl_R} : sl_Go xs N 19 96 L (.inl j :: .inr (.inr r) :: st) σ Q ↔ (0 ≤ j.toInt ∧ j.toInt < sl_ilen N r) ∧ sl_Go xs N 19 97 L (.inl (sl_rd xs σ r j.toNatClampNeg) :: st) σ Q := gk_iald rfl
theorem g19_97 {x : Int32} {a0 a1 a2 a3 a4 : Option sl_V} : sl_Go xs N 19 97 [a0, a1, a2, a3, a4, some (.inl x)] st σ Q ↔ sl_Go xs N 19 99 [a0, a1, a2, a3, a4, some (.inl x)] (.inl x :: st) σ Q := gk_iload rfl rfl
theorem g19_99 {L : sl_L} {x y : Int32} : sl_Go xs N 19 99 L (.inl y :: .inl x :: st) σ Q ↔ sl_Go xs N 19 100 L (.inl (x + y) :: st) σ Q := gk_bin (b := 8) rfl
theorem g19_100 {L : sl_L} {j x : Int32} {r : sl_R} : sl_Go xs N 19 100 L (.inl x :: .inl j :: .inr (.inr r) :: st) σ Q ↔ (0 ≤ j.toInt ∧ j.toInt < sl_wlen r 0) ∧ sl_Go xs N 19 101 L st (sl_wr σ r j.toNatClampNeg x) Q := gk_iast rfl
theorem g19_101 {x : sl_R} {a1 a2 a3 a4 a5 : Option sl_V} : sl_Go xs N 19 101 [some (.inr (.inr x)), a1, a2, a3, a4, a5] st σ Q ↔ sl_Go xs N 19 102 [some (.inr (.inr x)), a1, a2, a3, a4, a5] (.inr (.inr x) :: st) σ Q := gk_aload rfl rfl
theorem g19_102 {L : sl_L} {i t : Nat} : sl_Go xs N 19 102 L (.inr (.inr (1, i, t)) :: st) σ Q ↔ sl_Go xs N 19 105 L (.inr (.inr (10, i, 0)) :: st) σ Q := gk_get (g := .inr (10, i, 0)) rfl rfl rfl
theorem g19_105 {x : Int32} {a0 a2 a3 a4 a5 : Option sl_V} : sl_Go xs N 19 105 [a0, some (.inl x), a2, a3, a4, a5] st σ Q ↔ sl_Go xs N 19 106 [a0, some (.inl x), a2, a3, a4, a5] (.inl x :: st) σ Q := gk_iload rfl rfl
theorem g19_106 {L : sl_L} {j : Int32} {r : sl_R} : sl_Go xs N 19 106 L (.inl j :: .inr (.inr r) :: st) σ Q ↔ (0 ≤ j.toInt ∧ j.toInt < sl_ilen N r) ∧ sl_Go xs N 19 107 L (.inl (sl_rd xs σ r j.toNatClampNeg) :: st) σ Q := gk_iald rfl
theorem g19_107 {L : sl_L} : sl_Go xs N 19 107 L st σ Q ↔ sl_Go xs N 19 108 L (.inl (-1) :: st) σ Q := gk_const rfl
theorem g19_108 {L : sl_L} {x y : Int32} : sl_Go xs N 19 108 L (.inl y :: .inl x :: st) σ Q ↔ (¬ x = y → sl_Go xs N 19 121 L st σ Q) ∧ (x = y → sl_Go xs N 19 111 L st σ Q) := gk_ine rfl
theorem g19_111 {x : sl_R} {a1 a2 a3 a4 a5 : Option sl_V} : sl_Go xs N 19 111 [some (.inr (.inr x)), a1, a2, a3, a4, a5] st σ Q ↔ sl_Go xs N 19 112 [some (.inr (.inr x)), a1, a2, a3, a4, a5] (.inr (.inr x) :: st) σ Q := gk_aload rfl rfl
theorem g19_112 {L : sl_L} {i t : Nat} : sl_Go xs N 19 112 L (.inr (.inr (1, i, t)) :: st) σ Q ↔ sl_Go xs N 19 115 L (.inr (.inr (10, i, 0)) :: st) σ Q := gk_get (g := .inr (10, i, 0)) rfl rfl rfl
theorem g19_115 {x : Int32} {a0 a2 a3 a4 a5 : Option sl_V} : sl_Go xs N 19 115 [a0, some (.inl x), a2, a3, a4, a5] st σ Q ↔ sl_Go xs N 19 116 [a0, some (.inl x), a2, a3, a4, a5] (.inl x :: st) σ Q := gk_iload rfl rfl
theorem g19_116 {x : sl_R} {a1 a2 a3 a4 a5 : Option sl_V} : sl_Go xs N 19 116 [some (.inr (.inr x)), a1, a2, a3, a4, a5] st σ Q ↔ sl_Go xs N 19 117 [some (.inr (.inr x)), a1, a2, a3, a4, a5] (.inr (.inr x) :: st) σ Q := gk_aload rfl rfl
theorem g19_117 {L : sl_L} {i t : Nat} : sl_Go xs N 19 117 L (.inr (.inr (1, i, t)) :: st) σ Q ↔ sl_Go xs N 19 120 L (.inl (σ i 0 0) :: st) σ Q := gk_get (g := .inl (i, 0, 0)) rfl rfl rfl
theorem g19_120 {L : sl_L} {j x : Int32} {r : sl_R} : sl_Go xs N 19 120 L (.inl x :: .inl j :: .inr (.inr r) :: st) σ Q ↔ (0 ≤ j.toInt ∧ j.toInt < sl_wlen r 0) ∧ sl_Go xs N 19 121 L st (sl_wr σ r j.toNatClampNeg x) Q := gk_iast rfl
theorem g19_121 {L : sl_L} : sl_Go xs N 19 121 L [] σ Q ↔ Q none σ := gk_vret rfl
theorem g20_0 {L : sl_L} : sl_Go xs N 20 0 L st σ Q ↔ sl_Go xs N 20 1 L (.inl 0 :: st) σ Q := gk_const rfl
theorem g20_1n {x : Int32} {a1 a2 a3 a4 : Option sl_V} : sl_Go xs N 20 1 [none, a1, a2, a3, a4] (.inl x :: st) σ Q ↔ sl_Go xs N 20 2 [none, some (.inl x), a2, a3, a4] st σ Q := gk_istore rfl ⟨Nat.le_of_ble_eq_true rfl, rfl⟩ rfl
theorem g20_1i {x : Int32} {z : Int32} {a1 a2 a3 a4 : Option sl_V} : sl_Go xs N 20 1 [some (.inl z), a1, a2, a3, a4] (.inl x :: st) σ Q ↔ sl_Go xs N 20 2 [some (.inl z), some (.inl x), a2, a3, a4] st σ Q := gk_istore rfl ⟨Nat.le_of_ble_eq_true rfl, rfl⟩ rfl
theorem g20_1r {x : Int32} {z : sl_R} {a1 a2 a3 a4 : Option sl_V} : sl_Go xs N 20 1 [some (.inr (.inr z)), a1, a2, a3, a4] (.inl x :: st) σ Q ↔ sl_Go xs N 20 2 [some (.inr (.inr z)), some (.inl x), a2, a3, a4] st σ Q := gk_istore rfl ⟨Nat.le_of_ble_eq_true rfl, rfl⟩ rfl
theorem g20_2 {L : sl_L} : sl_Go xs N 20 2 L st σ Q ↔ sl_Go xs N 20 3 L (.inl 0 :: st) σ Q := gk_const rfl
theorem g20_3n {x : Int32} {a0 a2 a3 a4 : Option sl_V} : sl_Go xs N 20 3 [a0, none, a2, a3, a4] (.inl x :: st) σ Q ↔ sl_Go xs N 20 4 [a0, none, some (.inl x), a3, a4] st σ Q := gk_istore rfl ⟨Nat.le_of_ble_eq_true rfl, rfl⟩ rfl
theorem g20_3i {x : Int32} {z : Int32} {a0 a2 a3 a4 : Option sl_V} : sl_Go xs N 20 3 [a0, some (.inl z), a2, a3, a4] (.inl x :: st) σ Q ↔ sl_Go xs N 20 4 [a0, some (.inl z), some (.inl x), a3, a4] st σ Q := gk_istore rfl ⟨Nat.le_of_ble_eq_true rfl, rfl⟩ rfl
theorem g20_3r {x : Int32} {z : sl_R} {a0 a2 a3 a4 : Option sl_V} : sl_Go xs N 20 3 [a0, some (.inr (.inr z)), a2, a3, a4] (.inl x :: st) σ Q ↔ sl_Go xs N 20 4 [a0, some (.inr (.inr z)), some (.inl x), a3, a4] st σ Q := gk_istore rfl ⟨Nat.le_of_ble_eq_true rfl, rfl⟩ rfl
theorem g20_4 {x : Int32} {a0 a1 a3 a4 : Option sl_V} : sl_Go xs N 20 4 [a0, a1, some (.inl x), a3, a4] st σ Q ↔ sl_Go xs N 20 5 [a0, a1, some (.inl x), a3, a4] (.inl x :: st) σ Q := gk_iload rfl rfl
theorem g20_5 {x : sl_R} {a1 a2 a3 a4 : Option sl_V} : sl_Go xs N 20 5 [some (.inr (.inr x)), a1, a2, a3, a4] st σ Q ↔ sl_Go xs N 20 6 [some (.inr (.inr x)), a1, a2, a3, a4] (.inr (.inr x) :: st) σ Q := gk_aload rfl rfl
theorem g20_6 {L : sl_L} {i t : Nat} : sl_Go xs N 20 6 L (.inr (.inr (1, i, t)) :: st) σ Q ↔ sl_Go xs N 20 9 L (.inr (.inr (11, 0, 0)) :: st) σ Q := gk_get (g := .inr (11, 0, 0)) rfl rfl rfl
theorem g20_9 {L : sl_L} {i t : Nat} : sl_Go xs N 20 9 L (.inr (.inr (11, i, t)) :: st) σ Q ↔ sl_Go xs N 20 12 L (.inl (σ 5 0 0) :: st) σ Q := gk_get (g := .inl (5, 0, 0)) rfl rfl rfl
theorem g20_12 {L : sl_L} {x y : Int32} : sl_Go xs N 20 12 L (.inl y :: .inl x :: st) σ Q ↔ (y ≤ x → sl_Go xs N 20 78 L st σ Q) ∧ (¬ y ≤ x → sl_Go xs N 20 15 L st σ Q) := gk_ige rfl
theorem g20_15 {x : sl_R} {a1 a2 a3 a4 : Option sl_V} : sl_Go xs N 20 15 [some (.inr (.inr x)), a1, a2, a3, a4] st σ Q ↔ sl_Go xs N 20 16 [some (.inr (.inr x)), a1, a2, a3, a4] (.inr (.inr x) :: st) σ Q := gk_aload rfl rfl
theorem g20_16 {L : sl_L} {i t : Nat} : sl_Go xs N 20 16 L (.inr (.inr (1, i, t)) :: st) σ Q ↔ sl_Go xs N 20 19 L (.inr (.inr (11, 0, 0)) :: st) σ Q := gk_get (g := .inr (11, 0, 0)) rfl rfl rfl
theorem g20_19 {L : sl_L} {i t : Nat} : sl_Go xs N 20 19 L (.inr (.inr (11, i, t)) :: st) σ Q ↔ sl_Go xs N 20 22 L (.inr (.inr (12, 0, 0)) :: st) σ Q := gk_get (g := .inr (12, 0, 0)) rfl rfl rfl
theorem g20_22 {x : Int32} {a0 a1 a3 a4 : Option sl_V} : sl_Go xs N 20 22 [a0, a1, some (.inl x), a3, a4] st σ Q ↔ sl_Go xs N 20 23 [a0, a1, some (.inl x), a3, a4] (.inl x :: st) σ Q := gk_iload rfl rfl
theorem g20_23 {L : sl_L} {j : Int32} {r : sl_R} : sl_Go xs N 20 23 L (.inl j :: .inr (.inr r) :: st) σ Q ↔ (0 ≤ j.toInt ∧ j.toInt < sl_rlen r) ∧ sl_Go xs N 20 24 L (.inr (.inr (sl_rg r j.toNatClampNeg)) :: st) σ Q := gk_aald rfl
theorem g20_24n {x : sl_R} {a0 a1 a3 a4 : Option sl_V} : sl_Go xs N 20 24 [a0, a1, none, a3, a4] (.inr (.inr x) :: st) σ Q ↔ sl_Go xs N 20 25 [a0, a1, none, some (.inr (.inr x)), a4] st σ Q := gk_astore rfl ⟨Nat.le_of_ble_eq_true rfl, rfl⟩ rfl
theorem g20_24i {x : sl_R} {z : Int32} {a0 a1 a3 a4 : Option sl_V} : sl_Go xs N 20 24 [a0, a1, some (.inl z), a3, a4] (.inr (.inr x) :: st) σ Q ↔ sl_Go xs N 20 25 [a0, a1, some (.inl z), some (.inr (.inr x)), a4] st σ Q := gk_astore rfl ⟨Nat.le_of_ble_eq_true rfl, rfl⟩ rfl
theorem g20_24r {x : sl_R} {z : sl_R} {a0 a1 a3 a4 : Option sl_V} : sl_Go xs N 20 24 [a0, a1, some (.inr (.inr z)), a3, a4] (.inr (.inr x) :: st) σ Q ↔ sl_Go xs N 20 25 [a0, a1, some (.inr (.inr z)), some (.inr (.inr x)), a4] st σ Q := gk_astore rfl ⟨Nat.le_of_ble_eq_true rfl, rfl⟩ rfl
theorem g20_25 {L : sl_L} : sl_Go xs N 20 25 L st σ Q ↔ sl_Go xs N 20 26 L (.inl 0 :: st) σ Q := gk_const rfl
theorem g20_26n {x : Int32} {a0 a1 a2 a4 : Option sl_V} : sl_Go xs N 20 26 [a0, a1, a2, none, a4] (.inl x :: st) σ Q ↔ sl_Go xs N 20 28 [a0, a1, a2, none, some (.inl x)] st σ Q := gk_istore rfl ⟨Nat.le_of_ble_eq_true rfl, rfl⟩ rfl
theorem g20_26i {x : Int32} {z : Int32} {a0 a1 a2 a4 : Option sl_V} : sl_Go xs N 20 26 [a0, a1, a2, some (.inl z), a4] (.inl x :: st) σ Q ↔ sl_Go xs N 20 28 [a0, a1, a2, some (.inl z), some (.inl x)] st σ Q := gk_istore rfl ⟨Nat.le_of_ble_eq_true rfl, rfl⟩ rfl
theorem g20_26r {x : Int32} {z : sl_R} {a0 a1 a2 a4 : Option sl_V} : sl_Go xs N 20 26 [a0, a1, a2, some (.inr (.inr z)), a4] (.inl x :: st) σ Q ↔ sl_Go xs N 20 28 [a0, a1, a2, some (.inr (.inr z)), some (.inl x)] st σ Q := gk_istore rfl ⟨Nat.le_of_ble_eq_true rfl, rfl⟩ rfl
theorem g20_28 {x : Int32} {a0 a1 a2 a3 : Option sl_V} : sl_Go xs N 20 28 [a0, a1, a2, a3, some (.inl x)] st σ Q ↔ sl_Go xs N 20 30 [a0, a1, a2, a3, some (.inl x)] (.inl x :: st) σ Q := gk_iload rfl rfl
theorem g20_30 {x : sl_R} {a0 a1 a2 a4 : Option sl_V} : sl_Go xs N 20 30 [a0, a1, a2, some (.inr (.inr x)), a4] st σ Q ↔ sl_Go xs N 20 31 [a0, a1, a2, some (.inr (.inr x)), a4] (.inr (.inr x) :: st) σ Q := gk_aload rfl rfl
theorem g20_31 {L : sl_L} {i t : Nat} : sl_Go xs N 20 31 L (.inr (.inr (13, i, t)) :: st) σ Q ↔ sl_Go xs N 20 34 L (.inl (σ 5 2 t) :: st) σ Q := gk_get (g := .inl (5, 2, t)) rfl rfl rfl
theorem g20_34 {L : sl_L} {x y : Int32} : sl_Go xs N 20 34 L (.inl y :: .inl x :: st) σ Q ↔ (y ≤ x → sl_Go xs N 20 72 L st σ Q) ∧ (¬ y ≤ x → sl_Go xs N 20 37 L st σ Q) := gk_ige rfl
theorem g20_37 {x : Int32} {a0 a2 a3 a4 : Option sl_V} : sl_Go xs N 20 37 [a0, some (.inl x), a2, a3, a4] st σ Q ↔ sl_Go xs N 20 38 [a0, some (.inl x), a2, a3, a4] (.inl x :: st) σ Q := gk_iload rfl rfl
theorem g20_38 {x : sl_R} {a1 a2 a3 a4 : Option sl_V} : sl_Go xs N 20 38 [some (.inr (.inr x)), a1, a2, a3, a4] st σ Q ↔ sl_Go xs N 20 39 [some (.inr (.inr x)), a1, a2, a3, a4] (.inr (.inr x) :: st) σ Q := gk_aload rfl rfl
theorem g20_39 {L : sl_L} {i t : Nat} : sl_Go xs N 20 39 L (.inr (.inr (1, i, t)) :: st) σ Q ↔ sl_Go xs N 20 42 L (.inr (.inr (2, i, 0)) :: st) σ Q := gk_get (g := .inr (2, i, 0)) rfl rfl rfl
theorem g20_42 {x : Int32} {a0 a1 a3 a4 : Option sl_V} : sl_Go xs N 20 42 [a0, a1, some (.inl x), a3, a4] st σ Q ↔ sl_Go xs N 20 43 [a0, a1, some (.inl x), a3, a4] (.inl x :: st) σ Q := gk_iload rfl rfl
theorem g20_43 {L : sl_L} {j : Int32} {r : sl_R} : sl_Go xs N 20 43 L (.inl j :: .inr (.inr r) :: st) σ Q ↔ (0 ≤ j.toInt ∧ j.toInt < sl_rlen r) ∧ sl_Go xs N 20 44 L (.inr (.inr (sl_rg r j.toNatClampNeg)) :: st) σ Q := gk_aald rfl
theorem g20_44 {x : Int32} {a0 a1 a2 a3 : Option sl_V} : sl_Go xs N 20 44 [a0, a1, a2, a3, some (.inl x)] st σ Q ↔ sl_Go xs N 20 46 [a0, a1, a2, a3, some (.inl x)] (.inl x :: st) σ Q := gk_iload rfl rfl
theorem g20_46 {L : sl_L} {j : Int32} {r : sl_R} : sl_Go xs N 20 46 L (.inl j :: .inr (.inr r) :: st) σ Q ↔ (0 ≤ j.toInt ∧ j.toInt < sl_ilen N r) ∧ sl_Go xs N 20 47 L (.inl (sl_rd xs σ r j.toNatClampNeg) :: st) σ Q := gk_iald rfl
theorem g20_47 {x : sl_R} {a0 a1 a2 a4 : Option sl_V} : sl_Go xs N 20 47 [a0, a1, a2, some (.inr (.inr x)), a4] st σ Q ↔ sl_Go xs N 20 48 [a0, a1, a2, some (.inr (.inr x)), a4] (.inr (.inr x) :: st) σ Q := gk_aload rfl rfl
theorem g20_48 {L : sl_L} {i t : Nat} : sl_Go xs N 20 48 L (.inr (.inr (13, i, t)) :: st) σ Q ↔ sl_Go xs N 20 51 L (.inl (σ 5 4 t) :: st) σ Q := gk_get (g := .inl (5, 4, t)) rfl rfl rfl
theorem g20_51 {L : sl_L} : sl_Go xs N 20 51 L st σ Q ↔ sl_Go xs N 20 52 L (.inl 2 :: st) σ Q := gk_const rfl
theorem g20_52 {x : Int32} {a0 a1 a2 a3 : Option sl_V} : sl_Go xs N 20 52 [a0, a1, a2, a3, some (.inl x)] st σ Q ↔ sl_Go xs N 20 54 [a0, a1, a2, a3, some (.inl x)] (.inl x :: st) σ Q := gk_iload rfl rfl
theorem g20_54 {L : sl_L} {x y : Int32} : sl_Go xs N 20 54 L (.inl y :: .inl x :: st) σ Q ↔ sl_Go xs N 20 55 L (.inl (x * y) :: st) σ Q := gk_bin (b := 10) rfl
theorem g20_55 {L : sl_L} {x y : Int32} : sl_Go xs N 20 55 L (.inl y :: .inl x :: st) σ Q ↔ sl_Go xs N 20 56 L (.inl (x + y) :: st) σ Q := gk_bin (b := 8) rfl
theorem g20_56 {x : sl_R} {a0 a1 a2 a4 : Option sl_V} : sl_Go xs N 20 56 [a0, a1, a2, some (.inr (.inr x)), a4] st σ Q ↔ sl_Go xs N 20 57 [a0, a1, a2, some (.inr (.inr x)), a4] (.inr (.inr x) :: st) σ Q := gk_aload rfl rfl
theorem g20_57 {L : sl_L} {i t : Nat} : sl_Go xs N 20 57 L (.inr (.inr (13, i, t)) :: st) σ Q ↔ sl_Go xs N 20 60 L (.inl (σ 5 2 t) :: st) σ Q := gk_get (g := .inl (5, 2, t)) rfl rfl rfl
theorem g20_60 {L : sl_L} {x y : Int32} : sl_Go xs N 20 60 L (.inl y :: .inl x :: st) σ Q ↔ sl_Go xs N 20 61 L (.inl (x - y) :: st) σ Q := gk_bin (b := 9) rfl
theorem g20_61 {L : sl_L} : sl_Go xs N 20 61 L st σ Q ↔ sl_Go xs N 20 62 L (.inl 1 :: st) σ Q := gk_const rfl
theorem g20_62 {L : sl_L} {x y : Int32} : sl_Go xs N 20 62 L (.inl y :: .inl x :: st) σ Q ↔ sl_Go xs N 20 63 L (.inl (x + y) :: st) σ Q := gk_bin (b := 8) rfl
theorem g20_63 {L : sl_L} {x y : Int32} : sl_Go xs N 20 63 L (.inl y :: .inl x :: st) σ Q ↔ sl_Go xs N 20 64 L (.inl (x * y) :: st) σ Q := gk_bin (b := 10) rfl
theorem g20_64 {L : sl_L} {x y : Int32} : sl_Go xs N 20 64 L (.inl y :: .inl x :: st) σ Q ↔ sl_Go xs N 20 65 L (.inl (x + y) :: st) σ Q := gk_bin (b := 8) rfl
theorem g20_65n {x : Int32} {a1 a2 a3 a4 : Option sl_V} : sl_Go xs N 20 65 [none, a1, a2, a3, a4] (.inl x :: st) σ Q ↔ sl_Go xs N 20 66 [none, some (.inl x), a2, a3, a4] st σ Q := gk_istore rfl ⟨Nat.le_of_ble_eq_true rfl, rfl⟩ rfl
theorem g20_65i {x : Int32} {z : Int32} {a1 a2 a3 a4 : Option sl_V} : sl_Go xs N 20 65 [some (.inl z), a1, a2, a3, a4] (.inl x :: st) σ Q ↔ sl_Go xs N 20 66 [some (.inl z), some (.inl x), a2, a3, a4] st σ Q := gk_istore rfl ⟨Nat.le_of_ble_eq_true rfl, rfl⟩ rfl
theorem g20_65r {x : Int32} {z : sl_R} {a1 a2 a3 a4 : Option sl_V} : sl_Go xs N 20 65 [some (.inr (.inr z)), a1, a2, a3, a4] (.inl x :: st) σ Q ↔ sl_Go xs N 20 66 [some (.inr (.inr z)), some (.inl x), a2, a3, a4] st σ Q := gk_istore rfl ⟨Nat.le_of_ble_eq_true rfl, rfl⟩ rfl
theorem g20_66n {x : Int32} {a0 a1 a2 : Option sl_V} : sl_Go xs N 20 66 [a0, a1, a2, none, some (.inl x)] st σ Q ↔ sl_Go xs N 20 69 [a0, a1, a2, none, some (.inl (x + 1))] st σ Q := gk_iinc rfl rfl rfl rfl
theorem g20_66i {x : Int32} {z : Int32} {a0 a1 a2 : Option sl_V} : sl_Go xs N 20 66 [a0, a1, a2, some (.inl z), some (.inl x)] st σ Q ↔ sl_Go xs N 20 69 [a0, a1, a2, some (.inl z), some (.inl (x + 1))] st σ Q := gk_iinc rfl rfl rfl rfl
theorem g20_66r {x : Int32} {z : sl_R} {a0 a1 a2 : Option sl_V} : sl_Go xs N 20 66 [a0, a1, a2, some (.inr (.inr z)), some (.inl x)] st σ Q ↔ sl_Go xs N 20 69 [a0, a1, a2, some (.inr (.inr z)), some (.inl (x + 1))] st σ Q := gk_iinc rfl rfl rfl rfl
theorem g20_69 {L : sl_L} : sl_Go xs N 20 69 L st σ Q ↔ sl_Go xs N 20 28 L st σ Q := gk_goto rfl
theorem g20_72n {x : Int32} {a0 a3 a4 : Option sl_V} : sl_Go xs N 20 72 [a0, none, some (.inl x), a3, a4] st σ Q ↔ sl_Go xs N 20 75 [a0, none, some (.inl (x + 1)), a3, a4] st σ Q := gk_iinc rfl rfl rfl rfl
theorem g20_72i {x : Int32} {z : Int32} {a0 a3 a4 : Option sl_V} : sl_Go xs N 20 72 [a0, some (.inl z), some (.inl x), a3, a4] st σ Q ↔ sl_Go xs N 20 75 [a0, some (.inl z), some (.inl (x + 1)), a3, a4] st σ Q := gk_iinc rfl rfl rfl rfl
theorem g20_72r {x : Int32} {z : sl_R} {a0 a3 a4 : Option sl_V} : sl_Go xs N 20 72 [a0, some (.inr (.inr z)), some (.inl x), a3, a4] st σ Q ↔ sl_Go xs N 20 75 [a0, some (.inr (.inr z)), some (.inl (x + 1)), a3, a4] st σ Q := gk_iinc rfl rfl rfl rfl
theorem g20_75 {L : sl_L} : sl_Go xs N 20 75 L st σ Q ↔ sl_Go xs N 20 4 L st σ Q := gk_goto rfl
theorem g20_78 {x : Int32} {a0 a2 a3 a4 : Option sl_V} : sl_Go xs N 20 78 [a0, some (.inl x), a2, a3, a4] st σ Q ↔ sl_Go xs N 20 79 [a0, some (.inl x), a2, a3, a4] (.inl x :: st) σ Q := gk_iload rfl rfl
theorem g20_79 {L : sl_L} {x : Int32} : sl_Go xs N 20 79 L [.inl x] σ Q ↔ Q (some (.inl x)) σ := gk_iret rfl
theorem g21_0 {x : sl_R} : sl_Go xs N 21 0 [some (.inr (.inr x))] st σ Q ↔ sl_Go xs N 21 1 [some (.inr (.inr x))] (.inr (.inr x) :: st) σ Q := gk_aload rfl rfl
theorem g21_1 {L : sl_L} {o : sl_R} : sl_Go xs N 21 1 L (.inr (.inr o) :: st) σ Q ↔ sl_cw st ≤ 8 ∧ sl_Go xs N 20 0 [some (.inr (.inr o)), none, none, none, none] [] σ (fun r τ => sl_Go xs N 21 4 L (r.toList ++ st) τ Q) := gk_call rfl (Nat.le_add_left 1 st.length) rfl rfl rfl
theorem g21_4 {x : sl_R} : sl_Go xs N 21 4 [some (.inr (.inr x))] st σ Q ↔ sl_Go xs N 21 5 [some (.inr (.inr x))] (.inr (.inr x) :: st) σ Q := gk_aload rfl rfl
theorem g21_5 {L : sl_L} {i t : Nat} : sl_Go xs N 21 5 L (.inr (.inr (1, i, t)) :: st) σ Q ↔ sl_Go xs N 21 8 L (.inr (.inr (11, 0, 0)) :: st) σ Q := gk_get (g := .inr (11, 0, 0)) rfl rfl rfl
theorem g21_8 {L : sl_L} {i t : Nat} : sl_Go xs N 21 8 L (.inr (.inr (11, i, t)) :: st) σ Q ↔ sl_Go xs N 21 11 L (.inl (σ 5 0 3) :: st) σ Q := gk_get (g := .inl (5, 0, 3)) rfl rfl rfl
theorem g21_11 {L : sl_L} {x y : Int32} : sl_Go xs N 21 11 L (.inl y :: .inl x :: st) σ Q ↔ sl_Go xs N 21 12 L (.inl (x * y) :: st) σ Q := gk_bin (b := 10) rfl
theorem g21_12 {L : sl_L} : sl_Go xs N 21 12 L st σ Q ↔ sl_Go xs N 21 14 L (.inl 10 :: st) σ Q := gk_const rfl
theorem g21_14 {L : sl_L} {x y : Int32} : sl_Go xs N 21 14 L (.inl y :: .inl x :: st) σ Q ↔ ¬ y = 0 ∧ sl_Go xs N 21 15 L (.inl (x / y) :: st) σ Q := gk_idiv rfl
theorem g21_15 {L : sl_L} : sl_Go xs N 21 15 L st σ Q ↔ sl_Go xs N 21 17 L (.inl 20 :: st) σ Q := gk_const rfl
theorem g21_17 {x : sl_R} : sl_Go xs N 21 17 [some (.inr (.inr x))] st σ Q ↔ sl_Go xs N 21 18 [some (.inr (.inr x))] (.inr (.inr x) :: st) σ Q := gk_aload rfl rfl
theorem g21_18 {L : sl_L} {i t : Nat} : sl_Go xs N 21 18 L (.inr (.inr (1, i, t)) :: st) σ Q ↔ sl_Go xs N 21 21 L (.inl (σ i 0 1) :: st) σ Q := gk_get (g := .inl (i, 0, 1)) rfl rfl rfl
theorem g21_21 {L : sl_L} {x y : Int32} : sl_Go xs N 21 21 L (.inl y :: .inl x :: st) σ Q ↔ sl_Go xs N 21 22 L (.inl (x * y) :: st) σ Q := gk_bin (b := 10) rfl
theorem g21_22 {L : sl_L} {x y : Int32} : sl_Go xs N 21 22 L (.inl y :: .inl x :: st) σ Q ↔ sl_Go xs N 21 23 L (.inl (x + y) :: st) σ Q := gk_bin (b := 8) rfl
theorem g21_23 {L : sl_L} {x : Int32} : sl_Go xs N 21 23 L [.inl x] σ Q ↔ Q (some (.inl x)) σ := gk_iret rfl
theorem g22_0 {x : sl_R} {a1 a2 a3 a4 : Option sl_V} : sl_Go xs N 22 0 [some (.inr (.inr x)), a1, a2, a3, a4] st σ Q ↔ sl_Go xs N 22 1 [some (.inr (.inr x)), a1, a2, a3, a4] (.inr (.inr x) :: st) σ Q := gk_aload rfl rfl
theorem g22_1 {x : Int32} {a0 a2 a3 a4 : Option sl_V} : sl_Go xs N 22 1 [a0, some (.inl x), a2, a3, a4] st σ Q ↔ sl_Go xs N 22 2 [a0, some (.inl x), a2, a3, a4] (.inl x :: st) σ Q := gk_iload rfl rfl
theorem g22_2 {L : sl_L} {x : Int32} {i t : Nat} : sl_Go xs N 22 2 L (.inl x :: .inr (.inr (27, i, t)) :: st) σ Q ↔ sl_Go xs N 22 5 L st (sl_up σ 7 5 t x) Q := gk_put0 (q := (7, 5, t)) rfl rfl rfl
theorem g22_5 {x : sl_R} {a1 a2 a3 a4 : Option sl_V} : sl_Go xs N 22 5 [some (.inr (.inr x)), a1, a2, a3, a4] st σ Q ↔ sl_Go xs N 22 6 [some (.inr (.inr x)), a1, a2, a3, a4] (.inr (.inr x) :: st) σ Q := gk_aload rfl rfl
theorem g22_6 {x : Int32} {a0 a1 a3 a4 : Option sl_V} : sl_Go xs N 22 6 [a0, a1, some (.inl x), a3, a4] st σ Q ↔ sl_Go xs N 22 7 [a0, a1, some (.inl x), a3, a4] (.inl x :: st) σ Q := gk_iload rfl rfl
theorem g22_7 {L : sl_L} {x : Int32} {i t : Nat} : sl_Go xs N 22 7 L (.inl x :: .inr (.inr (27, i, t)) :: st) σ Q ↔ sl_Go xs N 22 10 L st (sl_up σ 7 6 t x) Q := gk_put0 (q := (7, 6, t)) rfl rfl rfl
theorem g22_10 {x : sl_R} {a1 a2 a3 a4 : Option sl_V} : sl_Go xs N 22 10 [some (.inr (.inr x)), a1, a2, a3, a4] st σ Q ↔ sl_Go xs N 22 11 [some (.inr (.inr x)), a1, a2, a3, a4] (.inr (.inr x) :: st) σ Q := gk_aload rfl rfl
theorem g22_11 {x : Int32} {a0 a1 a2 a4 : Option sl_V} : sl_Go xs N 22 11 [a0, a1, a2, some (.inl x), a4] st σ Q ↔ sl_Go xs N 22 12 [a0, a1, a2, some (.inl x), a4] (.inl x :: st) σ Q := gk_iload rfl rfl
theorem g22_12 {L : sl_L} {x : Int32} {i t : Nat} : sl_Go xs N 22 12 L (.inl x :: .inr (.inr (27, i, t)) :: st) σ Q ↔ sl_Go xs N 22 15 L st (sl_up σ 7 7 t x) Q := gk_put0 (q := (7, 7, t)) rfl rfl rfl
theorem g22_15 {x : sl_R} {a1 a2 a3 a4 : Option sl_V} : sl_Go xs N 22 15 [some (.inr (.inr x)), a1, a2, a3, a4] st σ Q ↔ sl_Go xs N 22 16 [some (.inr (.inr x)), a1, a2, a3, a4] (.inr (.inr x) :: st) σ Q := gk_aload rfl rfl
theorem g22_16 {x : sl_R} {a0 a1 a2 a3 : Option sl_V} : sl_Go xs N 22 16 [a0, a1, a2, a3, some (.inr (.inr x))] st σ Q ↔ sl_Go xs N 22 18 [a0, a1, a2, a3, some (.inr (.inr x))] (.inr (.inr x) :: st) σ Q := gk_aload rfl rfl
theorem g22_18 {L : sl_L} {i t : Nat} : sl_Go xs N 22 18 L (.inr (.inr (30, i, t)) :: st) σ Q ↔ sl_Go xs N 22 21 L (.inl (σ 7 12 t) :: st) σ Q := gk_get (g := .inl (7, 12, t)) rfl rfl rfl
theorem g22_21 {L : sl_L} : sl_Go xs N 22 21 L st σ Q ↔ sl_Go xs N 22 23 L (.inl 24 :: st) σ Q := gk_const rfl
theorem g22_23 {L : sl_L} {x0 : Int32} {x1 : Int32} : sl_Go xs N 22 23 L (.inl x1 :: .inl x0 :: st) σ Q ↔ sl_cw st ≤ 8 ∧ sl_Go xs N 162 0 [some (.inl x0), some (.inl x1)] [] σ (fun r τ => sl_Go xs N 22 26 L (r.toList ++ st) τ Q) := gk_call rfl (Nat.le_add_left 2 st.length) rfl rfl rfl
theorem g22_26 {L : sl_L} {x : Int32} {i t : Nat} : sl_Go xs N 22 26 L (.inl x :: .inr (.inr (27, i, t)) :: st) σ Q ↔ sl_Go xs N 22 29 L st (sl_up σ 7 8 t x) Q := gk_put0 (q := (7, 8, t)) rfl rfl rfl
theorem g22_29 {x : sl_R} {a0 a1 a2 a3 : Option sl_V} : sl_Go xs N 22 29 [a0, a1, a2, a3, some (.inr (.inr x))] st σ Q ↔ sl_Go xs N 22 31 [a0, a1, a2, a3, some (.inr (.inr x))] (.inr (.inr x) :: st) σ Q := gk_aload rfl rfl
theorem g22_31 {L : sl_L} {i t : Nat} : sl_Go xs N 22 31 L (.inr (.inr (30, i, t)) :: st) σ Q ↔ sl_Go xs N 22 34 L (.inr (.inr (31, 0, t)) :: st) σ Q := gk_get (g := .inr (31, 0, t)) rfl rfl rfl
theorem g22_34 {L : sl_L} : sl_Go xs N 22 34 L st σ Q ↔ sl_Go xs N 22 35 L (.inl 0 :: st) σ Q := gk_const rfl
theorem g22_35 {x : sl_R} {a1 a2 a3 a4 : Option sl_V} : sl_Go xs N 22 35 [some (.inr (.inr x)), a1, a2, a3, a4] st σ Q ↔ sl_Go xs N 22 36 [some (.inr (.inr x)), a1, a2, a3, a4] (.inr (.inr x) :: st) σ Q := gk_aload rfl rfl
theorem g22_36 {L : sl_L} {i t : Nat} : sl_Go xs N 22 36 L (.inr (.inr (27, i, t)) :: st) σ Q ↔ sl_Go xs N 22 39 L (.inr (.inr (28, 0, t)) :: st) σ Q := gk_get (g := .inr (28, 0, t)) rfl rfl rfl
theorem g22_39 {L : sl_L} : sl_Go xs N 22 39 L st σ Q ↔ sl_Go xs N 22 40 L (.inl 0 :: st) σ Q := gk_const rfl
theorem g22_40 {x : sl_R} {a1 a2 a3 a4 : Option sl_V} : sl_Go xs N 22 40 [some (.inr (.inr x)), a1, a2, a3, a4] st σ Q ↔ sl_Go xs N 22 41 [some (.inr (.inr x)), a1, a2, a3, a4] (.inr (.inr x) :: st) σ Q := gk_aload rfl rfl
theorem g22_41 {L : sl_L} {i t : Nat} : sl_Go xs N 22 41 L (.inr (.inr (27, i, t)) :: st) σ Q ↔ sl_Go xs N 22 44 L (.inl (σ 7 8 t) :: st) σ Q := gk_get (g := .inl (7, 8, t)) rfl rfl rfl
theorem g22_44 {L : sl_L} {i j n : Int32} {q r : sl_R} : sl_Go xs N 22 44 L (.inl n :: .inl j :: .inr (.inr r) :: .inl i :: .inr (.inr q) :: st) σ Q ↔ (0 ≤ n.toInt ∧ 0 ≤ i.toInt ∧ 0 ≤ j.toInt ∧ i.toInt + n.toInt ≤ sl_wlen q 0 ∧ j.toInt + n.toInt ≤ sl_wlen r 0 ∧ sl_cw st ≤ 8) ∧ sl_Go xs N 22 47 L st (sl_cp σ q r i.toNatClampNeg j.toNatClampNeg n.toNatClampNeg) Q := gk_copy rfl
theorem g22_47 {L : sl_L} : sl_Go xs N 22 47 L [] σ Q ↔ Q none σ := gk_vret rfl
theorem g23_0 {x : Int32} {a0 : Option sl_V} : sl_Go xs N 23 0 [a0, some (.inl x)] st σ Q ↔ sl_Go xs N 23 1 [a0, some (.inl x)] (.inl x :: st) σ Q := gk_iload rfl rfl
theorem g23_1 {L : sl_L} : sl_Go xs N 23 1 L st σ Q ↔ sl_Go xs N 23 2 L (.inl 0 :: st) σ Q := gk_const rfl
theorem g23_2 {x : sl_R} {a1 : Option sl_V} : sl_Go xs N 23 2 [some (.inr (.inr x)), a1] st σ Q ↔ sl_Go xs N 23 3 [some (.inr (.inr x)), a1] (.inr (.inr x) :: st) σ Q := gk_aload rfl rfl
theorem g23_3 {L : sl_L} {i t : Nat} : sl_Go xs N 23 3 L (.inr (.inr (11, i, t)) :: st) σ Q ↔ sl_Go xs N 23 6 L (.inl (σ 5 0 0) :: st) σ Q := gk_get (g := .inl (5, 0, 0)) rfl rfl rfl
theorem g23_6 {L : sl_L} : sl_Go xs N 23 6 L st σ Q ↔ sl_Go xs N 23 7 L (.inl 1 :: st) σ Q := gk_const rfl
theorem g23_7 {L : sl_L} {x y : Int32} : sl_Go xs N 23 7 L (.inl y :: .inl x :: st) σ Q ↔ sl_Go xs N 23 8 L (.inl (x - y) :: st) σ Q := gk_bin (b := 9) rfl
theorem g23_8 {L : sl_L} {x0 : Int32} {x1 : Int32} {x2 : Int32} : sl_Go xs N 23 8 L (.inl x2 :: .inl x1 :: .inl x0 :: st) σ Q ↔ sl_cw st ≤ 8 ∧ sl_Go xs N 81 0 [some (.inl x0), some (.inl x1), some (.inl x2)] [] σ (fun r τ => sl_Go xs N 23 11 L (r.toList ++ st) τ Q) := gk_call rfl (Nat.le_add_left 3 st.length) rfl rfl rfl
theorem g23_11 {L : sl_L} {x : Int32} : sl_Go xs N 23 11 L [.inl x] σ Q ↔ (x = 0 ∨ x = 1) ∧ Q (some (.inl x)) σ := gk_zret rfl
theorem g24_0 {x : Int32} {a0 : Option sl_V} : sl_Go xs N 24 0 [a0, some (.inl x)] st σ Q ↔ sl_Go xs N 24 1 [a0, some (.inl x)] (.inl x :: st) σ Q := gk_iload rfl rfl
theorem g24_1 {L : sl_L} : sl_Go xs N 24 1 L st σ Q ↔ sl_Go xs N 24 2 L (.inl 0 :: st) σ Q := gk_const rfl
theorem g24_2 {x : sl_R} {a1 : Option sl_V} : sl_Go xs N 24 2 [some (.inr (.inr x)), a1] st σ Q ↔ sl_Go xs N 24 3 [some (.inr (.inr x)), a1] (.inr (.inr x) :: st) σ Q := gk_aload rfl rfl
theorem g24_3 {L : sl_L} {i t : Nat} : sl_Go xs N 24 3 L (.inr (.inr (11, i, t)) :: st) σ Q ↔ sl_Go xs N 24 6 L (.inl (σ 5 0 1) :: st) σ Q := gk_get (g := .inl (5, 0, 1)) rfl rfl rfl
theorem g24_6 {L : sl_L} : sl_Go xs N 24 6 L st σ Q ↔ sl_Go xs N 24 7 L (.inl 1 :: st) σ Q := gk_const rfl
theorem g24_7 {L : sl_L} {x y : Int32} : sl_Go xs N 24 7 L (.inl y :: .inl x :: st) σ Q ↔ sl_Go xs N 24 8 L (.inl (x - y) :: st) σ Q := gk_bin (b := 9) rfl
theorem g24_8 {L : sl_L} {x0 : Int32} {x1 : Int32} {x2 : Int32} : sl_Go xs N 24 8 L (.inl x2 :: .inl x1 :: .inl x0 :: st) σ Q ↔ sl_cw st ≤ 8 ∧ sl_Go xs N 81 0 [some (.inl x0), some (.inl x1), some (.inl x2)] [] σ (fun r τ => sl_Go xs N 24 11 L (r.toList ++ st) τ Q) := gk_call rfl (Nat.le_add_left 3 st.length) rfl rfl rfl
theorem g24_11 {L : sl_L} {x : Int32} : sl_Go xs N 24 11 L [.inl x] σ Q ↔ (x = 0 ∨ x = 1) ∧ Q (some (.inl x)) σ := gk_zret rfl
theorem g25_0 {x : Int32} {a0 : Option sl_V} : sl_Go xs N 25 0 [a0, some (.inl x)] st σ Q ↔ sl_Go xs N 25 1 [a0, some (.inl x)] (.inl x :: st) σ Q := gk_iload rfl rfl
theorem g25_1 {L : sl_L} : sl_Go xs N 25 1 L st σ Q ↔ sl_Go xs N 25 2 L (.inl 0 :: st) σ Q := gk_const rfl
theorem g25_2 {x : sl_R} {a1 : Option sl_V} : sl_Go xs N 25 2 [some (.inr (.inr x)), a1] st σ Q ↔ sl_Go xs N 25 3 [some (.inr (.inr x)), a1] (.inr (.inr x) :: st) σ Q := gk_aload rfl rfl
theorem g25_3 {L : sl_L} {i t : Nat} : sl_Go xs N 25 3 L (.inr (.inr (11, i, t)) :: st) σ Q ↔ sl_Go xs N 25 6 L (.inl (σ 5 0 2) :: st) σ Q := gk_get (g := .inl (5, 0, 2)) rfl rfl rfl
theorem g25_6 {L : sl_L} : sl_Go xs N 25 6 L st σ Q ↔ sl_Go xs N 25 7 L (.inl 1 :: st) σ Q := gk_const rfl
theorem g25_7 {L : sl_L} {x y : Int32} : sl_Go xs N 25 7 L (.inl y :: .inl x :: st) σ Q ↔ sl_Go xs N 25 8 L (.inl (x - y) :: st) σ Q := gk_bin (b := 9) rfl
theorem g25_8 {L : sl_L} {x0 : Int32} {x1 : Int32} {x2 : Int32} : sl_Go xs N 25 8 L (.inl x2 :: .inl x1 :: .inl x0 :: st) σ Q ↔ sl_cw st ≤ 8 ∧ sl_Go xs N 81 0 [some (.inl x0), some (.inl x1), some (.inl x2)] [] σ (fun r τ => sl_Go xs N 25 11 L (r.toList ++ st) τ Q) := gk_call rfl (Nat.le_add_left 3 st.length) rfl rfl rfl
theorem g25_11 {L : sl_L} {x : Int32} : sl_Go xs N 25 11 L [.inl x] σ Q ↔ (x = 0 ∨ x = 1) ∧ Q (some (.inl x)) σ := gk_zret rfl
theorem g26_0 {x : Int32} {a0 a2 a3 a4 a5 : Option sl_V} : sl_Go xs N 26 0 [a0, some (.inl x), a2, a3, a4, a5] st σ Q ↔ sl_Go xs N 26 1 [a0, some (.inl x), a2, a3, a4, a5] (.inl x :: st) σ Q := gk_iload rfl rfl
theorem g26_1 {L : sl_L} {x0 : Int32} : sl_Go xs N 26 1 L (.inl x0 :: st) σ Q ↔ sl_cw st ≤ 8 ∧ sl_Go xs N 4 0 [some (.inl x0)] [] σ (fun r τ => sl_Go xs N 26 4 L (r.toList ++ st) τ Q) := gk_call rfl (Nat.le_add_left 1 st.length) rfl rfl rfl
theorem g26_4 {L : sl_L} {x : Int32} : sl_Go xs N 26 4 L (.inl x :: st) σ Q ↔ (x = 0 → sl_Go xs N 26 39 L st σ Q) ∧ (¬ x = 0 → sl_Go xs N 26 7 L st σ Q) := gk_zeq rfl
theorem g26_7 {x : Int32} {a0 a1 a3 a4 a5 : Option sl_V} : sl_Go xs N 26 7 [a0, a1, some (.inl x), a3, a4, a5] st σ Q ↔ sl_Go xs N 26 8 [a0, a1, some (.inl x), a3, a4, a5] (.inl x :: st) σ Q := gk_iload rfl rfl
theorem g26_8 {L : sl_L} : sl_Go xs N 26 8 L st σ Q ↔ sl_Go xs N 26 9 L (.inl 2 :: st) σ Q := gk_const rfl
theorem g26_9 {L : sl_L} : sl_Go xs N 26 9 L st σ Q ↔ sl_Go xs N 26 11 L (.inl 12 :: st) σ Q := gk_const rfl
theorem g26_11 {L : sl_L} {x0 : Int32} {x1 : Int32} {x2 : Int32} : sl_Go xs N 26 11 L (.inl x2 :: .inl x1 :: .inl x0 :: st) σ Q ↔ sl_cw st ≤ 8 ∧ sl_Go xs N 81 0 [some (.inl x0), some (.inl x1), some (.inl x2)] [] σ (fun r τ => sl_Go xs N 26 14 L (r.toList ++ st) τ Q) := gk_call rfl (Nat.le_add_left 3 st.length) rfl rfl rfl
theorem g26_14 {L : sl_L} {x : Int32} : sl_Go xs N 26 14 L (.inl x :: st) σ Q ↔ (x = 0 → sl_Go xs N 26 39 L st σ Q) ∧ (¬ x = 0 → sl_Go xs N 26 17 L st σ Q) := gk_zeq rfl
theorem g26_17 {x : Int32} {a0 a1 a2 a4 a5 : Option sl_V} : sl_Go xs N 26 17 [a0, a1, a2, some (.inl x), a4, a5] st σ Q ↔ sl_Go xs N 26 18 [a0, a1, a2, some (.inl x), a4, a5] (.inl x :: st) σ Q := gk_iload rfl rfl
theorem g26_18 {L : sl_L} : sl_Go xs N 26 18 L st σ Q ↔ sl_Go xs N 26 19 L (.inl 1 :: st) σ Q := gk_const rfl
theorem g26_19 {L : sl_L} : sl_Go xs N 26 19 L st σ Q ↔ sl_Go xs N 26 21 L (.inl 99 :: st) σ Q := gk_const rfl
theorem g26_21 {L : sl_L} {x0 : Int32} {x1 : Int32} {x2 : Int32} : sl_Go xs N 26 21 L (.inl x2 :: .inl x1 :: .inl x0 :: st) σ Q ↔ sl_cw st ≤ 8 ∧ sl_Go xs N 81 0 [some (.inl x0), some (.inl x1), some (.inl x2)] [] σ (fun r τ => sl_Go xs N 26 24 L (r.toList ++ st) τ Q) := gk_call rfl (Nat.le_add_left 3 st.length) rfl rfl rfl
theorem g26_24 {L : sl_L} {x : Int32} : sl_Go xs N 26 24 L (.inl x :: st) σ Q ↔ (x = 0 → sl_Go xs N 26 39 L st σ Q) ∧ (¬ x = 0 → sl_Go xs N 26 27 L st σ Q) := gk_zeq rfl
theorem g26_27 {x : Int32} {a0 a1 a2 a3 a5 : Option sl_V} : sl_Go xs N 26 27 [a0, a1, a2, a3, some (.inl x), a5] st σ Q ↔ sl_Go xs N 26 29 [a0, a1, a2, a3, some (.inl x), a5] (.inl x :: st) σ Q := gk_iload rfl rfl
theorem g26_29 {L : sl_L} : sl_Go xs N 26 29 L st σ Q ↔ sl_Go xs N 26 31 L (.inl (-50) :: st) σ Q := gk_const rfl
theorem g26_31 {L : sl_L} : sl_Go xs N 26 31 L st σ Q ↔ sl_Go xs N 26 33 L (.inl 50 :: st) σ Q := gk_const rfl
theorem g26_33 {L : sl_L} {x0 : Int32} {x1 : Int32} {x2 : Int32} : sl_Go xs N 26 33 L (.inl x2 :: .inl x1 :: .inl x0 :: st) σ Q ↔ sl_cw st ≤ 8 ∧ sl_Go xs N 81 0 [some (.inl x0), some (.inl x1), some (.inl x2)] [] σ (fun r τ => sl_Go xs N 26 36 L (r.toList ++ st) τ Q) := gk_call rfl (Nat.le_add_left 3 st.length) rfl rfl rfl
theorem g26_36 {L : sl_L} {x : Int32} : sl_Go xs N 26 36 L (.inl x :: st) σ Q ↔ (¬ x = 0 → sl_Go xs N 26 42 L st σ Q) ∧ (x = 0 → sl_Go xs N 26 39 L st σ Q) := gk_zne rfl
theorem g26_39 {L : sl_L} : sl_Go xs N 26 39 L st σ Q ↔ sl_Go xs N 26 41 L (.inl (-2) :: st) σ Q := gk_const rfl
theorem g26_41 {L : sl_L} {x : Int32} : sl_Go xs N 26 41 L [.inl x] σ Q ↔ Q (some (.inl x)) σ := gk_iret rfl
theorem g26_42 {x : sl_R} {a1 a2 a3 a4 a5 : Option sl_V} : sl_Go xs N 26 42 [some (.inr (.inr x)), a1, a2, a3, a4, a5] st σ Q ↔ sl_Go xs N 26 43 [some (.inr (.inr x)), a1, a2, a3, a4, a5] (.inr (.inr x) :: st) σ Q := gk_aload rfl rfl
theorem g26_43 {L : sl_L} {i t : Nat} : sl_Go xs N 26 43 L (.inr (.inr (11, i, t)) :: st) σ Q ↔ sl_Go xs N 26 46 L (.inl (σ 5 0 0) :: st) σ Q := gk_get (g := .inl (5, 0, 0)) rfl rfl rfl
theorem g26_46 {L : sl_L} : sl_Go xs N 26 46 L st σ Q ↔ sl_Go xs N 26 47 L (.inl 5 :: st) σ Q := gk_const rfl
theorem g26_47 {L : sl_L} {x y : Int32} : sl_Go xs N 26 47 L (.inl y :: .inl x :: st) σ Q ↔ (¬ x = y → sl_Go xs N 26 53 L st σ Q) ∧ (x = y → sl_Go xs N 26 50 L st σ Q) := gk_ine rfl
theorem g26_50 {L : sl_L} : sl_Go xs N 26 50 L st σ Q ↔ sl_Go xs N 26 52 L (.inl (-4) :: st) σ Q := gk_const rfl
theorem g26_52 {L : sl_L} {x : Int32} : sl_Go xs N 26 52 L [.inl x] σ Q ↔ Q (some (.inl x)) σ := gk_iret rfl
theorem g26_53 {x : sl_R} {a1 a2 a3 a4 a5 : Option sl_V} : sl_Go xs N 26 53 [some (.inr (.inr x)), a1, a2, a3, a4, a5] st σ Q ↔ sl_Go xs N 26 54 [some (.inr (.inr x)), a1, a2, a3, a4, a5] (.inr (.inr x) :: st) σ Q := gk_aload rfl rfl
theorem g26_54 {L : sl_L} {i t : Nat} : sl_Go xs N 26 54 L (.inr (.inr (11, i, t)) :: st) σ Q ↔ sl_Go xs N 26 57 L (.inr (.inr (12, 0, 0)) :: st) σ Q := gk_get (g := .inr (12, 0, 0)) rfl rfl rfl
theorem g26_57 {x : sl_R} {a1 a2 a3 a4 a5 : Option sl_V} : sl_Go xs N 26 57 [some (.inr (.inr x)), a1, a2, a3, a4, a5] st σ Q ↔ sl_Go xs N 26 58 [some (.inr (.inr x)), a1, a2, a3, a4, a5] (.inr (.inr x) :: st) σ Q := gk_aload rfl rfl
theorem g26_58 {L : sl_L} {i t : Nat} : sl_Go xs N 26 58 L (.inr (.inr (11, i, t)) :: st) σ Q ↔ sl_Go xs N 26 61 L (.inl (σ 5 0 0) :: st) σ Q := gk_get (g := .inl (5, 0, 0)) rfl rfl rfl
theorem g26_61 {L : sl_L} {j : Int32} {r : sl_R} : sl_Go xs N 26 61 L (.inl j :: .inr (.inr r) :: st) σ Q ↔ (0 ≤ j.toInt ∧ j.toInt < sl_rlen r) ∧ sl_Go xs N 26 62 L (.inr (.inr (sl_rg r j.toNatClampNeg)) :: st) σ Q := gk_aald rfl
theorem g26_62n {x : sl_R} {a0 a1 a2 a3 a5 : Option sl_V} : sl_Go xs N 26 62 [a0, a1, a2, a3, none, a5] (.inr (.inr x) :: st) σ Q ↔ sl_Go xs N 26 64 [a0, a1, a2, a3, none, some (.inr (.inr x))] st σ Q := gk_astore rfl ⟨Nat.le_of_ble_eq_true rfl, rfl⟩ rfl
theorem g26_62i {x : sl_R} {z : Int32} {a0 a1 a2 a3 a5 : Option sl_V} : sl_Go xs N 26 62 [a0, a1, a2, a3, some (.inl z), a5] (.inr (.inr x) :: st) σ Q ↔ sl_Go xs N 26 64 [a0, a1, a2, a3, some (.inl z), some (.inr (.inr x))] st σ Q := gk_astore rfl ⟨Nat.le_of_ble_eq_true rfl, rfl⟩ rfl
theorem g26_62r {x : sl_R} {z : sl_R} {a0 a1 a2 a3 a5 : Option sl_V} : sl_Go xs N 26 62 [a0, a1, a2, a3, some (.inr (.inr z)), a5] (.inr (.inr x) :: st) σ Q ↔ sl_Go xs N 26 64 [a0, a1, a2, a3, some (.inr (.inr z)), some (.inr (.inr x))] st σ Q := gk_astore rfl ⟨Nat.le_of_ble_eq_true rfl, rfl⟩ rfl
theorem g26_64 {x : sl_R} {a0 a1 a2 a3 a4 : Option sl_V} : sl_Go xs N 26 64 [a0, a1, a2, a3, a4, some (.inr (.inr x))] st σ Q ↔ sl_Go xs N 26 66 [a0, a1, a2, a3, a4, some (.inr (.inr x))] (.inr (.inr x) :: st) σ Q := gk_aload rfl rfl
theorem g26_66 {x : Int32} {a0 a2 a3 a4 a5 : Option sl_V} : sl_Go xs N 26 66 [a0, some (.inl x), a2, a3, a4, a5] st σ Q ↔ sl_Go xs N 26 67 [a0, some (.inl x), a2, a3, a4, a5] (.inl x :: st) σ Q := gk_iload rfl rfl
theorem g26_67 {L : sl_L} {x : Int32} {i t : Nat} : sl_Go xs N 26 67 L (.inl x :: .inr (.inr (13, i, t)) :: st) σ Q ↔ sl_Go xs N 26 70 L st (sl_up σ 5 1 t x) Q := gk_put0 (q := (5, 1, t)) rfl rfl rfl
theorem g26_70 {x : sl_R} {a0 a1 a2 a3 a4 : Option sl_V} : sl_Go xs N 26 70 [a0, a1, a2, a3, a4, some (.inr (.inr x))] st σ Q ↔ sl_Go xs N 26 72 [a0, a1, a2, a3, a4, some (.inr (.inr x))] (.inr (.inr x) :: st) σ Q := gk_aload rfl rfl
theorem g26_72 {x : Int32} {a0 a1 a3 a4 a5 : Option sl_V} : sl_Go xs N 26 72 [a0, a1, some (.inl x), a3, a4, a5] st σ Q ↔ sl_Go xs N 26 73 [a0, a1, some (.inl x), a3, a4, a5] (.inl x :: st) σ Q := gk_iload rfl rfl
theorem g26_73 {L : sl_L} {x : Int32} {i t : Nat} : sl_Go xs N 26 73 L (.inl x :: .inr (.inr (13, i, t)) :: st) σ Q ↔ sl_Go xs N 26 76 L st (sl_up σ 5 2 t x) Q := gk_put0 (q := (5, 2, t)) rfl rfl rfl
theorem g26_76 {x : sl_R} {a0 a1 a2 a3 a4 : Option sl_V} : sl_Go xs N 26 76 [a0, a1, a2, a3, a4, some (.inr (.inr x))] st σ Q ↔ sl_Go xs N 26 78 [a0, a1, a2, a3, a4, some (.inr (.inr x))] (.inr (.inr x) :: st) σ Q := gk_aload rfl rfl
theorem g26_78 {x : Int32} {a0 a1 a2 a4 a5 : Option sl_V} : sl_Go xs N 26 78 [a0, a1, a2, some (.inl x), a4, a5] st σ Q ↔ sl_Go xs N 26 79 [a0, a1, a2, some (.inl x), a4, a5] (.inl x :: st) σ Q := gk_iload rfl rfl
theorem g26_79 {L : sl_L} {x : Int32} {i t : Nat} : sl_Go xs N 26 79 L (.inl x :: .inr (.inr (13, i, t)) :: st) σ Q ↔ sl_Go xs N 26 82 L st (sl_up σ 5 3 t x) Q := gk_put0 (q := (5, 3, t)) rfl rfl rfl
theorem g26_82 {x : sl_R} {a0 a1 a2 a3 a4 : Option sl_V} : sl_Go xs N 26 82 [a0, a1, a2, a3, a4, some (.inr (.inr x))] st σ Q ↔ sl_Go xs N 26 84 [a0, a1, a2, a3, a4, some (.inr (.inr x))] (.inr (.inr x) :: st) σ Q := gk_aload rfl rfl
theorem g26_84 {x : Int32} {a0 a1 a2 a3 a5 : Option sl_V} : sl_Go xs N 26 84 [a0, a1, a2, a3, some (.inl x), a5] st σ Q ↔ sl_Go xs N 26 86 [a0, a1, a2, a3, some (.inl x), a5] (.inl x :: st) σ Q := gk_iload rfl rfl
theorem g26_86 {L : sl_L} {x : Int32} {i t : Nat} : sl_Go xs N 26 86 L (.inl x :: .inr (.inr (13, i, t)) :: st) σ Q ↔ sl_Go xs N 26 89 L st (sl_up σ 5 4 t x) Q := gk_put0 (q := (5, 4, t)) rfl rfl rfl
theorem g26_89 {x : sl_R} {a1 a2 a3 a4 a5 : Option sl_V} : sl_Go xs N 26 89 [some (.inr (.inr x)), a1, a2, a3, a4, a5] st σ Q ↔ sl_Go xs N 26 90 [some (.inr (.inr x)), a1, a2, a3, a4, a5] (.inr (.inr x) :: st) σ Q := gk_aload rfl rfl
theorem g26_90i {L : sl_L} {x : Int32} : sl_Go xs N 26 90 L (.inl x :: st) σ Q ↔ sl_Go xs N 26 91 L (.inl x :: .inl x :: st) σ Q := gk_dupi rfl
theorem g26_90r {L : sl_L} {x : sl_R} : sl_Go xs N 26 90 L (.inr (.inr x) :: st) σ Q ↔ sl_Go xs N 26 91 L (.inr (.inr x) :: .inr (.inr x) :: st) σ Q := gk_dupr rfl
theorem g26_91 {L : sl_L} {i t : Nat} : sl_Go xs N 26 91 L (.inr (.inr (11, i, t)) :: st) σ Q ↔ sl_Go xs N 26 94 L (.inl (σ 5 0 0) :: st) σ Q := gk_get (g := .inl (5, 0, 0)) rfl rfl rfl
theorem g26_94 {L : sl_L} : sl_Go xs N 26 94 L st σ Q ↔ sl_Go xs N 26 95 L (.inl 1 :: st) σ Q := gk_const rfl
theorem g26_95 {L : sl_L} {x y : Int32} : sl_Go xs N 26 95 L (.inl y :: .inl x :: st) σ Q ↔ sl_Go xs N 26 96 L (.inl (x + y) :: st) σ Q := gk_bin (b := 8) rfl
theorem g26_96 {L : sl_L} {x : Int32} {i t : Nat} : sl_Go xs N 26 96 L (.inl x :: .inr (.inr (11, i, t)) :: st) σ Q ↔ sl_Go xs N 26 99 L st (sl_up σ 5 0 0 x) Q := gk_put0 (q := (5, 0, 0)) rfl rfl rfl
theorem g26_99 {x : sl_R} {a1 a2 a3 a4 a5 : Option sl_V} : sl_Go xs N 26 99 [some (.inr (.inr x)), a1, a2, a3, a4, a5] st σ Q ↔ sl_Go xs N 26 100 [some (.inr (.inr x)), a1, a2, a3, a4, a5] (.inr (.inr x) :: st) σ Q := gk_aload rfl rfl
theorem g26_100 {L : sl_L} {i t : Nat} : sl_Go xs N 26 100 L (.inr (.inr (11, i, t)) :: st) σ Q ↔ sl_Go xs N 26 103 L (.inl (σ 5 0 0) :: st) σ Q := gk_get (g := .inl (5, 0, 0)) rfl rfl rfl
theorem g26_103 {L : sl_L} : sl_Go xs N 26 103 L st σ Q ↔ sl_Go xs N 26 104 L (.inl 1 :: st) σ Q := gk_const rfl
theorem g26_104 {L : sl_L} {x y : Int32} : sl_Go xs N 26 104 L (.inl y :: .inl x :: st) σ Q ↔ sl_Go xs N 26 105 L (.inl (x - y) :: st) σ Q := gk_bin (b := 9) rfl
theorem g26_105 {L : sl_L} {x : Int32} : sl_Go xs N 26 105 L [.inl x] σ Q ↔ Q (some (.inl x)) σ := gk_iret rfl
theorem g27_0 {x : sl_R} {a1 a2 : Option sl_V} : sl_Go xs N 27 0 [some (.inr (.inr x)), a1, a2] st σ Q ↔ sl_Go xs N 27 1 [some (.inr (.inr x)), a1, a2] (.inr (.inr x) :: st) σ Q := gk_aload rfl rfl
theorem g27_1 {L : sl_L} {i t : Nat} : sl_Go xs N 27 1 L (.inr (.inr (11, i, t)) :: st) σ Q ↔ sl_Go xs N 27 4 L (.inl (σ 5 0 1) :: st) σ Q := gk_get (g := .inl (5, 0, 1)) rfl rfl rfl
theorem g27_4 {L : sl_L} : sl_Go xs N 27 4 L st σ Q ↔ sl_Go xs N 27 6 L (.inl 6 :: st) σ Q := gk_const rfl
theorem g27_6 {L : sl_L} {x y : Int32} : sl_Go xs N 27 6 L (.inl y :: .inl x :: st) σ Q ↔ (¬ x = y → sl_Go xs N 27 12 L st σ Q) ∧ (x = y → sl_Go xs N 27 9 L st σ Q) := gk_ine rfl
theorem g27_9 {L : sl_L} : sl_Go xs N 27 9 L st σ Q ↔ sl_Go xs N 27 11 L (.inl (-4) :: st) σ Q := gk_const rfl
theorem g27_11 {L : sl_L} {x : Int32} : sl_Go xs N 27 11 L [.inl x] σ Q ↔ Q (some (.inl x)) σ := gk_iret rfl
theorem g27_12 {x : sl_R} {a1 a2 : Option sl_V} : sl_Go xs N 27 12 [some (.inr (.inr x)), a1, a2] st σ Q ↔ sl_Go xs N 27 13 [some (.inr (.inr x)), a1, a2] (.inr (.inr x) :: st) σ Q := gk_aload rfl rfl
theorem g27_13 {L : sl_L} {i t : Nat} : sl_Go xs N 27 13 L (.inr (.inr (11, i, t)) :: st) σ Q ↔ sl_Go xs N 27 16 L (.inr (.inr (14, 0, 0)) :: st) σ Q := gk_get (g := .inr (14, 0, 0)) rfl rfl rfl
theorem g27_16 {x : sl_R} {a1 a2 : Option sl_V} : sl_Go xs N 27 16 [some (.inr (.inr x)), a1, a2] st σ Q ↔ sl_Go xs N 27 17 [some (.inr (.inr x)), a1, a2] (.inr (.inr x) :: st) σ Q := gk_aload rfl rfl
theorem g27_17 {L : sl_L} {i t : Nat} : sl_Go xs N 27 17 L (.inr (.inr (11, i, t)) :: st) σ Q ↔ sl_Go xs N 27 20 L (.inl (σ 5 0 1) :: st) σ Q := gk_get (g := .inl (5, 0, 1)) rfl rfl rfl
theorem g27_20 {x : Int32} {a0 a2 : Option sl_V} : sl_Go xs N 27 20 [a0, some (.inl x), a2] st σ Q ↔ sl_Go xs N 27 21 [a0, some (.inl x), a2] (.inl x :: st) σ Q := gk_iload rfl rfl
theorem g27_21 {L : sl_L} {j x : Int32} {r : sl_R} : sl_Go xs N 27 21 L (.inl x :: .inl j :: .inr (.inr r) :: st) σ Q ↔ (0 ≤ j.toInt ∧ j.toInt < sl_wlen r 0) ∧ sl_Go xs N 27 22 L st (sl_wr σ r j.toNatClampNeg x) Q := gk_iast rfl
theorem g27_22 {x : sl_R} {a1 a2 : Option sl_V} : sl_Go xs N 27 22 [some (.inr (.inr x)), a1, a2] st σ Q ↔ sl_Go xs N 27 23 [some (.inr (.inr x)), a1, a2] (.inr (.inr x) :: st) σ Q := gk_aload rfl rfl
theorem g27_23 {L : sl_L} {i t : Nat} : sl_Go xs N 27 23 L (.inr (.inr (11, i, t)) :: st) σ Q ↔ sl_Go xs N 27 26 L (.inr (.inr (15, 0, 0)) :: st) σ Q := gk_get (g := .inr (15, 0, 0)) rfl rfl rfl
theorem g27_26 {x : sl_R} {a1 a2 : Option sl_V} : sl_Go xs N 27 26 [some (.inr (.inr x)), a1, a2] st σ Q ↔ sl_Go xs N 27 27 [some (.inr (.inr x)), a1, a2] (.inr (.inr x) :: st) σ Q := gk_aload rfl rfl
theorem g27_27 {L : sl_L} {i t : Nat} : sl_Go xs N 27 27 L (.inr (.inr (11, i, t)) :: st) σ Q ↔ sl_Go xs N 27 30 L (.inl (σ 5 0 1) :: st) σ Q := gk_get (g := .inl (5, 0, 1)) rfl rfl rfl
theorem g27_30 {x : Int32} {a0 a1 : Option sl_V} : sl_Go xs N 27 30 [a0, a1, some (.inl x)] st σ Q ↔ sl_Go xs N 27 31 [a0, a1, some (.inl x)] (.inl x :: st) σ Q := gk_iload rfl rfl
theorem g27_31 {L : sl_L} {j x : Int32} {r : sl_R} : sl_Go xs N 27 31 L (.inl x :: .inl j :: .inr (.inr r) :: st) σ Q ↔ (0 ≤ j.toInt ∧ j.toInt < sl_wlen r 0) ∧ sl_Go xs N 27 32 L st (sl_wr σ r j.toNatClampNeg x) Q := gk_iast rfl
theorem g27_32 {x : sl_R} {a1 a2 : Option sl_V} : sl_Go xs N 27 32 [some (.inr (.inr x)), a1, a2] st σ Q ↔ sl_Go xs N 27 33 [some (.inr (.inr x)), a1, a2] (.inr (.inr x) :: st) σ Q := gk_aload rfl rfl
theorem g27_33i {L : sl_L} {x : Int32} : sl_Go xs N 27 33 L (.inl x :: st) σ Q ↔ sl_Go xs N 27 34 L (.inl x :: .inl x :: st) σ Q := gk_dupi rfl
theorem g27_33r {L : sl_L} {x : sl_R} : sl_Go xs N 27 33 L (.inr (.inr x) :: st) σ Q ↔ sl_Go xs N 27 34 L (.inr (.inr x) :: .inr (.inr x) :: st) σ Q := gk_dupr rfl
theorem g27_34 {L : sl_L} {i t : Nat} : sl_Go xs N 27 34 L (.inr (.inr (11, i, t)) :: st) σ Q ↔ sl_Go xs N 27 37 L (.inl (σ 5 0 1) :: st) σ Q := gk_get (g := .inl (5, 0, 1)) rfl rfl rfl
theorem g27_37 {L : sl_L} : sl_Go xs N 27 37 L st σ Q ↔ sl_Go xs N 27 38 L (.inl 1 :: st) σ Q := gk_const rfl
theorem g27_38 {L : sl_L} {x y : Int32} : sl_Go xs N 27 38 L (.inl y :: .inl x :: st) σ Q ↔ sl_Go xs N 27 39 L (.inl (x + y) :: st) σ Q := gk_bin (b := 8) rfl
theorem g27_39 {L : sl_L} {x : Int32} {i t : Nat} : sl_Go xs N 27 39 L (.inl x :: .inr (.inr (11, i, t)) :: st) σ Q ↔ sl_Go xs N 27 42 L st (sl_up σ 5 0 1 x) Q := gk_put0 (q := (5, 0, 1)) rfl rfl rfl
theorem g27_42 {x : sl_R} {a1 a2 : Option sl_V} : sl_Go xs N 27 42 [some (.inr (.inr x)), a1, a2] st σ Q ↔ sl_Go xs N 27 43 [some (.inr (.inr x)), a1, a2] (.inr (.inr x) :: st) σ Q := gk_aload rfl rfl
theorem g27_43 {L : sl_L} {i t : Nat} : sl_Go xs N 27 43 L (.inr (.inr (11, i, t)) :: st) σ Q ↔ sl_Go xs N 27 46 L (.inl (σ 5 0 1) :: st) σ Q := gk_get (g := .inl (5, 0, 1)) rfl rfl rfl
theorem g27_46 {L : sl_L} : sl_Go xs N 27 46 L st σ Q ↔ sl_Go xs N 27 47 L (.inl 1 :: st) σ Q := gk_const rfl
theorem g27_47 {L : sl_L} {x y : Int32} : sl_Go xs N 27 47 L (.inl y :: .inl x :: st) σ Q ↔ sl_Go xs N 27 48 L (.inl (x - y) :: st) σ Q := gk_bin (b := 9) rfl
theorem g27_48 {L : sl_L} {x : Int32} : sl_Go xs N 27 48 L [.inl x] σ Q ↔ Q (some (.inl x)) σ := gk_iret rfl
theorem g28_0 {x : sl_R} : sl_Go xs N 28 0 [some (.inr (.inr x))] st σ Q ↔ sl_Go xs N 28 1 [some (.inr (.inr x))] (.inr (.inr x) :: st) σ Q := gk_aload rfl rfl
theorem g28_1 {L : sl_L} {i t : Nat} : sl_Go xs N 28 1 L (.inr (.inr (30, i, t)) :: st) σ Q ↔ sl_Go xs N 28 4 L (.inl (σ 7 11 t) :: st) σ Q := gk_get (g := .inl (7, 11, t)) rfl rfl rfl
theorem g28_4 {L : sl_L} : sl_Go xs N 28 4 L st σ Q ↔ sl_Go xs N 28 5 L (.inl (-1) :: st) σ Q := gk_const rfl
theorem g28_5 {L : sl_L} {x y : Int32} : sl_Go xs N 28 5 L (.inl y :: .inl x :: st) σ Q ↔ (¬ x = y → sl_Go xs N 28 12 L st σ Q) ∧ (x = y → sl_Go xs N 28 8 L st σ Q) := gk_ine rfl
theorem g28_8 {L : sl_L} : sl_Go xs N 28 8 L st σ Q ↔ sl_Go xs N 28 9 L (.inl 1 :: st) σ Q := gk_const rfl
theorem g28_9 {L : sl_L} : sl_Go xs N 28 9 L st σ Q ↔ sl_Go xs N 28 13 L st σ Q := gk_goto rfl
theorem g28_12 {L : sl_L} : sl_Go xs N 28 12 L st σ Q ↔ sl_Go xs N 28 13 L (.inl 0 :: st) σ Q := gk_const rfl
theorem g28_13 {L : sl_L} {x : Int32} : sl_Go xs N 28 13 L [.inl x] σ Q ↔ (x = 0 ∨ x = 1) ∧ Q (some (.inl x)) σ := gk_zret rfl
theorem g29_0 {x : sl_R} {a1 a2 : Option sl_V} : sl_Go xs N 29 0 [some (.inr (.inr x)), a1, a2] st σ Q ↔ sl_Go xs N 29 1 [some (.inr (.inr x)), a1, a2] (.inr (.inr x) :: st) σ Q := gk_aload rfl rfl
theorem g29_1 {x : Int32} {a0 a2 : Option sl_V} : sl_Go xs N 29 1 [a0, some (.inl x), a2] st σ Q ↔ sl_Go xs N 29 2 [a0, some (.inl x), a2] (.inl x :: st) σ Q := gk_iload rfl rfl
theorem g29_2 {L : sl_L} {x : Int32} {i t : Nat} : sl_Go xs N 29 2 L (.inl x :: .inr (.inr (30, i, t)) :: st) σ Q ↔ sl_Go xs N 29 5 L st (sl_up σ 7 11 t x) Q := gk_put0 (q := (7, 11, t)) rfl rfl rfl
theorem g29_5 {x : sl_R} {a1 a2 : Option sl_V} : sl_Go xs N 29 5 [some (.inr (.inr x)), a1, a2] st σ Q ↔ sl_Go xs N 29 6 [some (.inr (.inr x)), a1, a2] (.inr (.inr x) :: st) σ Q := gk_aload rfl rfl
theorem g29_6 {x : Int32} {a0 a1 : Option sl_V} : sl_Go xs N 29 6 [a0, a1, some (.inl x)] st σ Q ↔ sl_Go xs N 29 7 [a0, a1, some (.inl x)] (.inl x :: st) σ Q := gk_iload rfl rfl
theorem g29_7 {L : sl_L} {x : Int32} {i t : Nat} : sl_Go xs N 29 7 L (.inl x :: .inr (.inr (30, i, t)) :: st) σ Q ↔ sl_Go xs N 29 10 L st (sl_up σ 7 12 t x) Q := gk_put0 (q := (7, 12, t)) rfl rfl rfl
theorem g29_10 {x : sl_R} {a1 a2 : Option sl_V} : sl_Go xs N 29 10 [some (.inr (.inr x)), a1, a2] st σ Q ↔ sl_Go xs N 29 11 [some (.inr (.inr x)), a1, a2] (.inr (.inr x) :: st) σ Q := gk_aload rfl rfl
theorem g29_11 {L : sl_L} {i t : Nat} : sl_Go xs N 29 11 L (.inr (.inr (30, i, t)) :: st) σ Q ↔ sl_Go xs N 29 14 L (.inr (.inr (31, 0, t)) :: st) σ Q := gk_get (g := .inr (31, 0, t)) rfl rfl rfl
theorem g29_14 {L : sl_L} : sl_Go xs N 29 14 L st σ Q ↔ sl_Go xs N 29 15 L (.inl 0 :: st) σ Q := gk_const rfl
theorem g29_15 {L : sl_L} {x0 : sl_R} {x1 : Int32} : sl_Go xs N 29 15 L (.inl x1 :: .inr (.inr x0) :: st) σ Q ↔ sl_cw st ≤ 8 ∧ sl_Go xs N 163 0 [some (.inr (.inr x0)), some (.inl x1), none, none] [] σ (fun r τ => sl_Go xs N 29 18 L (r.toList ++ st) τ Q) := gk_call rfl (Nat.le_add_left 2 st.length) rfl rfl rfl
theorem g29_18 {L : sl_L} : sl_Go xs N 29 18 L [] σ Q ↔ Q none σ := gk_vret rfl
theorem g30_0 {x : Int32} {a0 a2 : Option sl_V} : sl_Go xs N 30 0 [a0, some (.inl x), a2] st σ Q ↔ sl_Go xs N 30 1 [a0, some (.inl x), a2] (.inl x :: st) σ Q := gk_iload rfl rfl
theorem g30_1 {L : sl_L} {x : Int32} : sl_Go xs N 30 1 L (.inl x :: st) σ Q ↔ (x < 0 → sl_Go xs N 30 30 L st σ Q) ∧ (¬ x < 0 → sl_Go xs N 30 4 L st σ Q) := gk_zlt rfl
theorem g30_4 {x : Int32} {a0 a1 : Option sl_V} : sl_Go xs N 30 4 [a0, a1, some (.inl x)] st σ Q ↔ sl_Go xs N 30 5 [a0, a1, some (.inl x)] (.inl x :: st) σ Q := gk_iload rfl rfl
theorem g30_5 {L : sl_L} {x : Int32} : sl_Go xs N 30 5 L (.inl x :: st) σ Q ↔ (x < 0 → sl_Go xs N 30 30 L st σ Q) ∧ (¬ x < 0 → sl_Go xs N 30 8 L st σ Q) := gk_zlt rfl
theorem g30_8 {x : Int32} {a0 a2 : Option sl_V} : sl_Go xs N 30 8 [a0, some (.inl x), a2] st σ Q ↔ sl_Go xs N 30 9 [a0, some (.inl x), a2] (.inl x :: st) σ Q := gk_iload rfl rfl
theorem g30_9 {x : sl_R} {a1 a2 : Option sl_V} : sl_Go xs N 30 9 [some (.inr (.inr x)), a1, a2] st σ Q ↔ sl_Go xs N 30 10 [some (.inr (.inr x)), a1, a2] (.inr (.inr x) :: st) σ Q := gk_aload rfl rfl
theorem g30_10 {L : sl_L} {i t : Nat} : sl_Go xs N 30 10 L (.inr (.inr (30, i, t)) :: st) σ Q ↔ sl_Go xs N 30 13 L (.inl (σ 7 12 t) :: st) σ Q := gk_get (g := .inl (7, 12, t)) rfl rfl rfl
theorem g30_13 {L : sl_L} {x y : Int32} : sl_Go xs N 30 13 L (.inl y :: .inl x :: st) σ Q ↔ (y < x → sl_Go xs N 30 30 L st σ Q) ∧ (¬ y < x → sl_Go xs N 30 16 L st σ Q) := gk_igt rfl
theorem g30_16 {x : Int32} {a0 a1 : Option sl_V} : sl_Go xs N 30 16 [a0, a1, some (.inl x)] st σ Q ↔ sl_Go xs N 30 17 [a0, a1, some (.inl x)] (.inl x :: st) σ Q := gk_iload rfl rfl
theorem g30_17 {x : sl_R} {a1 a2 : Option sl_V} : sl_Go xs N 30 17 [some (.inr (.inr x)), a1, a2] st σ Q ↔ sl_Go xs N 30 18 [some (.inr (.inr x)), a1, a2] (.inr (.inr x) :: st) σ Q := gk_aload rfl rfl
theorem g30_18 {L : sl_L} {i t : Nat} : sl_Go xs N 30 18 L (.inr (.inr (30, i, t)) :: st) σ Q ↔ sl_Go xs N 30 21 L (.inl (σ 7 12 t) :: st) σ Q := gk_get (g := .inl (7, 12, t)) rfl rfl rfl
theorem g30_21 {x : Int32} {a0 a2 : Option sl_V} : sl_Go xs N 30 21 [a0, some (.inl x), a2] st σ Q ↔ sl_Go xs N 30 22 [a0, some (.inl x), a2] (.inl x :: st) σ Q := gk_iload rfl rfl
theorem g30_22 {L : sl_L} {x y : Int32} : sl_Go xs N 30 22 L (.inl y :: .inl x :: st) σ Q ↔ sl_Go xs N 30 23 L (.inl (x - y) :: st) σ Q := gk_bin (b := 9) rfl
theorem g30_23 {L : sl_L} {x y : Int32} : sl_Go xs N 30 23 L (.inl y :: .inl x :: st) σ Q ↔ (y < x → sl_Go xs N 30 30 L st σ Q) ∧ (¬ y < x → sl_Go xs N 30 26 L st σ Q) := gk_igt rfl
theorem g30_26 {L : sl_L} : sl_Go xs N 30 26 L st σ Q ↔ sl_Go xs N 30 27 L (.inl 1 :: st) σ Q := gk_const rfl
theorem g30_27 {L : sl_L} : sl_Go xs N 30 27 L st σ Q ↔ sl_Go xs N 30 31 L st σ Q := gk_goto rfl
theorem g30_30 {L : sl_L} : sl_Go xs N 30 30 L st σ Q ↔ sl_Go xs N 30 31 L (.inl 0 :: st) σ Q := gk_const rfl
theorem g30_31 {L : sl_L} {x : Int32} : sl_Go xs N 30 31 L [.inl x] σ Q ↔ (x = 0 ∨ x = 1) ∧ Q (some (.inl x)) σ := gk_zret rfl
theorem g31_0 {x : sl_R} {a1 a2 : Option sl_V} : sl_Go xs N 31 0 [some (.inr (.inr x)), a1, a2] st σ Q ↔ sl_Go xs N 31 1 [some (.inr (.inr x)), a1, a2] (.inr (.inr x) :: st) σ Q := gk_aload rfl rfl
theorem g31_1 {L : sl_L} {i t : Nat} : sl_Go xs N 31 1 L (.inr (.inr (30, i, t)) :: st) σ Q ↔ sl_Go xs N 31 4 L (.inr (.inr (31, 0, t)) :: st) σ Q := gk_get (g := .inr (31, 0, t)) rfl rfl rfl
theorem g31_4 {x : Int32} {a0 a2 : Option sl_V} : sl_Go xs N 31 4 [a0, some (.inl x), a2] st σ Q ↔ sl_Go xs N 31 5 [a0, some (.inl x), a2] (.inl x :: st) σ Q := gk_iload rfl rfl
theorem g31_5 {x : sl_R} {a1 a2 : Option sl_V} : sl_Go xs N 31 5 [some (.inr (.inr x)), a1, a2] st σ Q ↔ sl_Go xs N 31 6 [some (.inr (.inr x)), a1, a2] (.inr (.inr x) :: st) σ Q := gk_aload rfl rfl
theorem g31_6 {L : sl_L} {i t : Nat} : sl_Go xs N 31 6 L (.inr (.inr (30, i, t)) :: st) σ Q ↔ sl_Go xs N 31 9 L (.inl (σ 7 11 t) :: st) σ Q := gk_get (g := .inl (7, 11, t)) rfl rfl rfl
theorem g31_9 {L : sl_L} {x : Int32} : sl_Go xs N 31 9 L (.inl x :: st) σ Q ↔ (¬ x = 0 → sl_Go xs N 31 17 L st σ Q) ∧ (x = 0 → sl_Go xs N 31 12 L st σ Q) := gk_zne rfl
theorem g31_12 {x : Int32} {a0 a1 : Option sl_V} : sl_Go xs N 31 12 [a0, a1, some (.inl x)] st σ Q ↔ sl_Go xs N 31 13 [a0, a1, some (.inl x)] (.inl x :: st) σ Q := gk_iload rfl rfl
theorem g31_13 {L : sl_L} {x : Int32} : sl_Go xs N 31 13 L (.inl x :: st) σ Q ↔ sl_Go xs N 31 14 L (.inl x.toInt8.toInt32 :: st) σ Q := gk_i2b rfl
theorem g31_14 {L : sl_L} : sl_Go xs N 31 14 L st σ Q ↔ sl_Go xs N 31 31 L st σ Q := gk_goto rfl
theorem g31_17 {x : sl_R} {a1 a2 : Option sl_V} : sl_Go xs N 31 17 [some (.inr (.inr x)), a1, a2] st σ Q ↔ sl_Go xs N 31 18 [some (.inr (.inr x)), a1, a2] (.inr (.inr x) :: st) σ Q := gk_aload rfl rfl
theorem g31_18 {L : sl_L} {i t : Nat} : sl_Go xs N 31 18 L (.inr (.inr (30, i, t)) :: st) σ Q ↔ sl_Go xs N 31 21 L (.inl (σ 7 11 t) :: st) σ Q := gk_get (g := .inl (7, 11, t)) rfl rfl rfl
theorem g31_21 {L : sl_L} : sl_Go xs N 31 21 L st σ Q ↔ sl_Go xs N 31 22 L (.inl 1 :: st) σ Q := gk_const rfl
theorem g31_22 {L : sl_L} {x y : Int32} : sl_Go xs N 31 22 L (.inl y :: .inl x :: st) σ Q ↔ (¬ x = y → sl_Go xs N 31 30 L st σ Q) ∧ (x = y → sl_Go xs N 31 25 L st σ Q) := gk_ine rfl
theorem g31_25 {x : Int32} {a0 a1 : Option sl_V} : sl_Go xs N 31 25 [a0, a1, some (.inl x)] st σ Q ↔ sl_Go xs N 31 26 [a0, a1, some (.inl x)] (.inl x :: st) σ Q := gk_iload rfl rfl
theorem g31_26 {L : sl_L} {x : Int32} : sl_Go xs N 31 26 L (.inl x :: st) σ Q ↔ sl_Go xs N 31 27 L (.inl x.toInt16.toInt32 :: st) σ Q := gk_i2s rfl
theorem g31_27 {L : sl_L} : sl_Go xs N 31 27 L st σ Q ↔ sl_Go xs N 31 31 L st σ Q := gk_goto rfl
theorem g31_30 {x : Int32} {a0 a1 : Option sl_V} : sl_Go xs N 31 30 [a0, a1, some (.inl x)] st σ Q ↔ sl_Go xs N 31 31 [a0, a1, some (.inl x)] (.inl x :: st) σ Q := gk_iload rfl rfl
theorem g31_31 {L : sl_L} {j x : Int32} {r : sl_R} : sl_Go xs N 31 31 L (.inl x :: .inl j :: .inr (.inr r) :: st) σ Q ↔ (0 ≤ j.toInt ∧ j.toInt < sl_wlen r 0) ∧ sl_Go xs N 31 32 L st (sl_wr σ r j.toNatClampNeg x) Q := gk_iast rfl
theorem g31_32 {L : sl_L} : sl_Go xs N 31 32 L [] σ Q ↔ Q none σ := gk_vret rfl
theorem g32_0 {x : sl_R} : sl_Go xs N 32 0 [some (.inr (.inr x))] st σ Q ↔ sl_Go xs N 32 1 [some (.inr (.inr x))] (.inr (.inr x) :: st) σ Q := gk_aload rfl rfl
theorem g32_1 {L : sl_L} {i t : Nat} : sl_Go xs N 32 1 L (.inr (.inr (13, i, t)) :: st) σ Q ↔ sl_Go xs N 32 4 L (.inl (σ 5 2 t) :: st) σ Q := gk_get (g := .inl (5, 2, t)) rfl rfl rfl
theorem g32_4 {x : sl_R} : sl_Go xs N 32 4 [some (.inr (.inr x))] st σ Q ↔ sl_Go xs N 32 5 [some (.inr (.inr x))] (.inr (.inr x) :: st) σ Q := gk_aload rfl rfl
theorem g32_5 {L : sl_L} {i t : Nat} : sl_Go xs N 32 5 L (.inr (.inr (13, i, t)) :: st) σ Q ↔ sl_Go xs N 32 8 L (.inl (σ 5 3 t) :: st) σ Q := gk_get (g := .inl (5, 3, t)) rfl rfl rfl
theorem g32_8 {L : sl_L} {x y : Int32} : sl_Go xs N 32 8 L (.inl y :: .inl x :: st) σ Q ↔ sl_Go xs N 32 9 L (.inl (x * y) :: st) σ Q := gk_bin (b := 10) rfl
theorem g32_9 {L : sl_L} {x : Int32} : sl_Go xs N 32 9 L [.inl x] σ Q ↔ Q (some (.inl x)) σ := gk_iret rfl
theorem g33_0 {x : Int32} {a0 : Option sl_V} : sl_Go xs N 33 0 [a0, some (.inl x)] st σ Q ↔ sl_Go xs N 33 1 [a0, some (.inl x)] (.inl x :: st) σ Q := gk_iload rfl rfl
theorem g33_1 {L : sl_L} : sl_Go xs N 33 1 L st σ Q ↔ sl_Go xs N 33 2 L (.inl 0 :: st) σ Q := gk_const rfl
theorem g33_2 {x : sl_R} {a1 : Option sl_V} : sl_Go xs N 33 2 [some (.inr (.inr x)), a1] st σ Q ↔ sl_Go xs N 33 3 [some (.inr (.inr x)), a1] (.inr (.inr x) :: st) σ Q := gk_aload rfl rfl
theorem g33_3 {L : sl_L} {i t : Nat} : sl_Go xs N 33 3 L (.inr (.inr (13, i, t)) :: st) σ Q ↔ sl_Go xs N 33 6 L (.inl (σ 5 2 t) :: st) σ Q := gk_get (g := .inl (5, 2, t)) rfl rfl rfl
theorem g33_6 {L : sl_L} : sl_Go xs N 33 6 L st σ Q ↔ sl_Go xs N 33 7 L (.inl 1 :: st) σ Q := gk_const rfl
theorem g33_7 {L : sl_L} {x y : Int32} : sl_Go xs N 33 7 L (.inl y :: .inl x :: st) σ Q ↔ sl_Go xs N 33 8 L (.inl (x - y) :: st) σ Q := gk_bin (b := 9) rfl
theorem g33_8 {L : sl_L} {x0 : Int32} {x1 : Int32} {x2 : Int32} : sl_Go xs N 33 8 L (.inl x2 :: .inl x1 :: .inl x0 :: st) σ Q ↔ sl_cw st ≤ 8 ∧ sl_Go xs N 81 0 [some (.inl x0), some (.inl x1), some (.inl x2)] [] σ (fun r τ => sl_Go xs N 33 11 L (r.toList ++ st) τ Q) := gk_call rfl (Nat.le_add_left 3 st.length) rfl rfl rfl
theorem g33_11 {L : sl_L} {x : Int32} : sl_Go xs N 33 11 L [.inl x] σ Q ↔ (x = 0 ∨ x = 1) ∧ Q (some (.inl x)) σ := gk_zret rfl
theorem g34_0 {x : Int32} {a0 : Option sl_V} : sl_Go xs N 34 0 [a0, some (.inl x)] st σ Q ↔ sl_Go xs N 34 1 [a0, some (.inl x)] (.inl x :: st) σ Q := gk_iload rfl rfl
theorem g34_1 {L : sl_L} : sl_Go xs N 34 1 L st σ Q ↔ sl_Go xs N 34 2 L (.inl 0 :: st) σ Q := gk_const rfl
theorem g34_2 {x : sl_R} {a1 : Option sl_V} : sl_Go xs N 34 2 [some (.inr (.inr x)), a1] st σ Q ↔ sl_Go xs N 34 3 [some (.inr (.inr x)), a1] (.inr (.inr x) :: st) σ Q := gk_aload rfl rfl
theorem g34_3 {L : sl_L} {i t : Nat} : sl_Go xs N 34 3 L (.inr (.inr (13, i, t)) :: st) σ Q ↔ sl_Go xs N 34 6 L (.inl (σ 5 2 t) :: st) σ Q := gk_get (g := .inl (5, 2, t)) rfl rfl rfl
theorem g34_6 {L : sl_L} : sl_Go xs N 34 6 L st σ Q ↔ sl_Go xs N 34 7 L (.inl 2 :: st) σ Q := gk_const rfl
theorem g34_7 {L : sl_L} {x y : Int32} : sl_Go xs N 34 7 L (.inl y :: .inl x :: st) σ Q ↔ sl_Go xs N 34 8 L (.inl (x - y) :: st) σ Q := gk_bin (b := 9) rfl
theorem g34_8 {L : sl_L} {x0 : Int32} {x1 : Int32} {x2 : Int32} : sl_Go xs N 34 8 L (.inl x2 :: .inl x1 :: .inl x0 :: st) σ Q ↔ sl_cw st ≤ 8 ∧ sl_Go xs N 81 0 [some (.inl x0), some (.inl x1), some (.inl x2)] [] σ (fun r τ => sl_Go xs N 34 11 L (r.toList ++ st) τ Q) := gk_call rfl (Nat.le_add_left 3 st.length) rfl rfl rfl
theorem g34_11 {L : sl_L} {x : Int32} : sl_Go xs N 34 11 L [.inl x] σ Q ↔ (x = 0 ∨ x = 1) ∧ Q (some (.inl x)) σ := gk_zret rfl
theorem g35_0 {x : Int32} {a0 : Option sl_V} : sl_Go xs N 35 0 [a0, some (.inl x)] st σ Q ↔ sl_Go xs N 35 1 [a0, some (.inl x)] (.inl x :: st) σ Q := gk_iload rfl rfl
theorem g35_1 {x : sl_R} {a1 : Option sl_V} : sl_Go xs N 35 1 [some (.inr (.inr x)), a1] st σ Q ↔ sl_Go xs N 35 2 [some (.inr (.inr x)), a1] (.inr (.inr x) :: st) σ Q := gk_aload rfl rfl
theorem g35_2 {L : sl_L} {o : sl_R} : sl_Go xs N 35 2 L (.inr (.inr o) :: st) σ Q ↔ sl_cw st ≤ 8 ∧ sl_Go xs N 32 0 [some (.inr (.inr o))] [] σ (fun r τ => sl_Go xs N 35 5 L (r.toList ++ st) τ Q) := gk_call rfl (Nat.le_add_left 1 st.length) rfl rfl rfl
theorem g35_5 {L : sl_L} : sl_Go xs N 35 5 L st σ Q ↔ sl_Go xs N 35 7 L (.inl 24 :: st) σ Q := gk_const rfl
theorem g35_7 {L : sl_L} {x y : Int32} : sl_Go xs N 35 7 L (.inl y :: .inl x :: st) σ Q ↔ sl_Go xs N 35 8 L (.inl (x + y) :: st) σ Q := gk_bin (b := 8) rfl
theorem g35_8 {L : sl_L} : sl_Go xs N 35 8 L st σ Q ↔ sl_Go xs N 35 9 L (.inl 1 :: st) σ Q := gk_const rfl
theorem g35_9 {L : sl_L} {x y : Int32} : sl_Go xs N 35 9 L (.inl y :: .inl x :: st) σ Q ↔ sl_Go xs N 35 10 L (.inl (x - y) :: st) σ Q := gk_bin (b := 9) rfl
theorem g35_10 {L : sl_L} : sl_Go xs N 35 10 L st σ Q ↔ sl_Go xs N 35 12 L (.inl 24 :: st) σ Q := gk_const rfl
theorem g35_12 {L : sl_L} {x y : Int32} : sl_Go xs N 35 12 L (.inl y :: .inl x :: st) σ Q ↔ ¬ y = 0 ∧ sl_Go xs N 35 13 L (.inl (x / y) :: st) σ Q := gk_idiv rfl
theorem g35_13 {L : sl_L} {x0 : Int32} {x1 : Int32} : sl_Go xs N 35 13 L (.inl x1 :: .inl x0 :: st) σ Q ↔ sl_cw st ≤ 8 ∧ sl_Go xs N 161 0 [some (.inl x0), some (.inl x1)] [] σ (fun r τ => sl_Go xs N 35 16 L (r.toList ++ st) τ Q) := gk_call rfl (Nat.le_add_left 2 st.length) rfl rfl rfl
theorem g35_16 {L : sl_L} {x : Int32} : sl_Go xs N 35 16 L [.inl x] σ Q ↔ Q (some (.inl x)) σ := gk_iret rfl
theorem g36_0 {x : sl_R} {a1 a2 a3 a4 : Option sl_V} : sl_Go xs N 36 0 [some (.inr (.inr x)), a1, a2, a3, a4] st σ Q ↔ sl_Go xs N 36 1 [some (.inr (.inr x)), a1, a2, a3, a4] (.inr (.inr x) :: st) σ Q := gk_aload rfl rfl
theorem g36_1 {L : sl_L} {i t : Nat} : sl_Go xs N 36 1 L (.inr (.inr (20, i, t)) :: st) σ Q ↔ sl_Go xs N 36 4 L (.inl (σ 7 0 3) :: st) σ Q := gk_get (g := .inl (7, 0, 3)) rfl rfl rfl
theorem g36_4 {x : Int32} {a0 a1 a2 a4 : Option sl_V} : sl_Go xs N 36 4 [a0, a1, a2, some (.inl x), a4] st σ Q ↔ sl_Go xs N 36 5 [a0, a1, a2, some (.inl x), a4] (.inl x :: st) σ Q := gk_iload rfl rfl
theorem g36_5 {L : sl_L} {x y : Int32} : sl_Go xs N 36 5 L (.inl y :: .inl x :: st) σ Q ↔ sl_Go xs N 36 6 L (.inl (x + y) :: st) σ Q := gk_bin (b := 8) rfl
theorem g36_6 {L : sl_L} : sl_Go xs N 36 6 L st σ Q ↔ sl_Go xs N 36 8 L (.inl 120 :: st) σ Q := gk_const rfl
theorem g36_8 {L : sl_L} {x y : Int32} : sl_Go xs N 36 8 L (.inl y :: .inl x :: st) σ Q ↔ (x ≤ y → sl_Go xs N 36 14 L st σ Q) ∧ (¬ x ≤ y → sl_Go xs N 36 11 L st σ Q) := gk_ile rfl
theorem g36_11 {L : sl_L} : sl_Go xs N 36 11 L st σ Q ↔ sl_Go xs N 36 13 L (.inl (-4) :: st) σ Q := gk_const rfl
theorem g36_13 {L : sl_L} {x : Int32} : sl_Go xs N 36 13 L [.inl x] σ Q ↔ Q (some (.inl x)) σ := gk_iret rfl
theorem g36_14 {x : Int32} {a0 a1 a2 a4 : Option sl_V} : sl_Go xs N 36 14 [a0, a1, a2, some (.inl x), a4] st σ Q ↔ sl_Go xs N 36 15 [a0, a1, a2, some (.inl x), a4] (.inl x :: st) σ Q := gk_iload rfl rfl
theorem g36_15 {L : sl_L} : sl_Go xs N 36 15 L st σ Q ↔ sl_Go xs N 36 16 L (.inl 1 :: st) σ Q := gk_const rfl
theorem g36_16 {L : sl_L} {x y : Int32} : sl_Go xs N 36 16 L (.inl y :: .inl x :: st) σ Q ↔ sl_Go xs N 36 17 L (.inl (x - y) :: st) σ Q := gk_bin (b := 9) rfl
theorem g36_17n {x : Int32} {a0 a1 a2 a4 : Option sl_V} : sl_Go xs N 36 17 [a0, a1, a2, none, a4] (.inl x :: st) σ Q ↔ sl_Go xs N 36 19 [a0, a1, a2, none, some (.inl x)] st σ Q := gk_istore rfl ⟨Nat.le_of_ble_eq_true rfl, rfl⟩ rfl
theorem g36_17i {x : Int32} {z : Int32} {a0 a1 a2 a4 : Option sl_V} : sl_Go xs N 36 17 [a0, a1, a2, some (.inl z), a4] (.inl x :: st) σ Q ↔ sl_Go xs N 36 19 [a0, a1, a2, some (.inl z), some (.inl x)] st σ Q := gk_istore rfl ⟨Nat.le_of_ble_eq_true rfl, rfl⟩ rfl
theorem g36_17r {x : Int32} {z : sl_R} {a0 a1 a2 a4 : Option sl_V} : sl_Go xs N 36 17 [a0, a1, a2, some (.inr (.inr z)), a4] (.inl x :: st) σ Q ↔ sl_Go xs N 36 19 [a0, a1, a2, some (.inr (.inr z)), some (.inl x)] st σ Q := gk_istore rfl ⟨Nat.le_of_ble_eq_true rfl, rfl⟩ rfl
theorem g36_19 {x : Int32} {a0 a1 a2 a3 : Option sl_V} : sl_Go xs N 36 19 [a0, a1, a2, a3, some (.inl x)] st σ Q ↔ sl_Go xs N 36 21 [a0, a1, a2, a3, some (.inl x)] (.inl x :: st) σ Q := gk_iload rfl rfl
theorem g36_21 {L : sl_L} {x : Int32} : sl_Go xs N 36 21 L (.inl x :: st) σ Q ↔ (x < 0 → sl_Go xs N 36 58 L st σ Q) ∧ (¬ x < 0 → sl_Go xs N 36 24 L st σ Q) := gk_zlt rfl
theorem g36_24 {x : sl_R} {a1 a2 a3 a4 : Option sl_V} : sl_Go xs N 36 24 [some (.inr (.inr x)), a1, a2, a3, a4] st σ Q ↔ sl_Go xs N 36 25 [some (.inr (.inr x)), a1, a2, a3, a4] (.inr (.inr x) :: st) σ Q := gk_aload rfl rfl
theorem g36_25 {L : sl_L} {i t : Nat} : sl_Go xs N 36 25 L (.inr (.inr (20, i, t)) :: st) σ Q ↔ sl_Go xs N 36 28 L (.inr (.inr (21, 0, 0)) :: st) σ Q := gk_get (g := .inr (21, 0, 0)) rfl rfl rfl
theorem g36_28 {x : sl_R} {a1 a2 a3 a4 : Option sl_V} : sl_Go xs N 36 28 [some (.inr (.inr x)), a1, a2, a3, a4] st σ Q ↔ sl_Go xs N 36 29 [some (.inr (.inr x)), a1, a2, a3, a4] (.inr (.inr x) :: st) σ Q := gk_aload rfl rfl
theorem g36_29 {L : sl_L} {i t : Nat} : sl_Go xs N 36 29 L (.inr (.inr (20, i, t)) :: st) σ Q ↔ sl_Go xs N 36 32 L (.inl (σ 7 0 3) :: st) σ Q := gk_get (g := .inl (7, 0, 3)) rfl rfl rfl
theorem g36_32 {x : Int64} {a0 a2 a3 a4 : Option sl_V} : sl_Go xs N 36 32 [a0, some (.inr (.inl x)), a2, a3, a4] st σ Q ↔ sl_Go xs N 36 33 [a0, some (.inr (.inl x)), a2, a3, a4] (.inr (.inl x) :: st) σ Q := gk_lload rfl rfl
theorem g36_33 {L : sl_L} : sl_Go xs N 36 33 L st σ Q ↔ sl_Go xs N 36 35 L (.inl 8 :: st) σ Q := gk_const rfl
theorem g36_35 {x : Int32} {a0 a1 a2 a3 : Option sl_V} : sl_Go xs N 36 35 [a0, a1, a2, a3, some (.inl x)] st σ Q ↔ sl_Go xs N 36 37 [a0, a1, a2, a3, some (.inl x)] (.inl x :: st) σ Q := gk_iload rfl rfl
theorem g36_37 {L : sl_L} {x y : Int32} : sl_Go xs N 36 37 L (.inl y :: .inl x :: st) σ Q ↔ sl_Go xs N 36 38 L (.inl (x * y) :: st) σ Q := gk_bin (b := 10) rfl
theorem g36_38 {L : sl_L} {x : Int64} {y : Int32} : sl_Go xs N 36 38 L (.inl y :: .inr (.inl x) :: st) σ Q ↔ sl_Go xs N 36 39 L (.inr (.inl (x >>> (y.toInt64 &&& 63))) :: st) σ Q := gk_lsh (b := 1) rfl
theorem g36_39 {L : sl_L} {x : Int64} : sl_Go xs N 36 39 L (.inr (.inl x) :: st) σ Q ↔ sl_Go xs N 36 40 L (.inl x.toInt32 :: st) σ Q := gk_l2i rfl
theorem g36_40 {L : sl_L} {x : Int32} : sl_Go xs N 36 40 L (.inl x :: st) σ Q ↔ sl_Go xs N 36 41 L (.inl x.toInt8.toInt32 :: st) σ Q := gk_i2b rfl
theorem g36_41 {L : sl_L} {j x : Int32} {r : sl_R} : sl_Go xs N 36 41 L (.inl x :: .inl j :: .inr (.inr r) :: st) σ Q ↔ (0 ≤ j.toInt ∧ j.toInt < sl_wlen r 1) ∧ sl_Go xs N 36 42 L st (sl_wr σ r j.toNatClampNeg x.toInt8.toInt32) Q := gk_bast rfl
theorem g36_42 {x : sl_R} {a1 a2 a3 a4 : Option sl_V} : sl_Go xs N 36 42 [some (.inr (.inr x)), a1, a2, a3, a4] st σ Q ↔ sl_Go xs N 36 43 [some (.inr (.inr x)), a1, a2, a3, a4] (.inr (.inr x) :: st) σ Q := gk_aload rfl rfl
theorem g36_43i {L : sl_L} {x : Int32} : sl_Go xs N 36 43 L (.inl x :: st) σ Q ↔ sl_Go xs N 36 44 L (.inl x :: .inl x :: st) σ Q := gk_dupi rfl
theorem g36_43r {L : sl_L} {x : sl_R} : sl_Go xs N 36 43 L (.inr (.inr x) :: st) σ Q ↔ sl_Go xs N 36 44 L (.inr (.inr x) :: .inr (.inr x) :: st) σ Q := gk_dupr rfl
theorem g36_44 {L : sl_L} {i t : Nat} : sl_Go xs N 36 44 L (.inr (.inr (20, i, t)) :: st) σ Q ↔ sl_Go xs N 36 47 L (.inl (σ 7 0 3) :: st) σ Q := gk_get (g := .inl (7, 0, 3)) rfl rfl rfl
theorem g36_47 {L : sl_L} : sl_Go xs N 36 47 L st σ Q ↔ sl_Go xs N 36 48 L (.inl 1 :: st) σ Q := gk_const rfl
theorem g36_48 {L : sl_L} {x y : Int32} : sl_Go xs N 36 48 L (.inl y :: .inl x :: st) σ Q ↔ sl_Go xs N 36 49 L (.inl (x + y) :: st) σ Q := gk_bin (b := 8) rfl
theorem g36_49 {L : sl_L} {x : Int32} {i t : Nat} : sl_Go xs N 36 49 L (.inl x :: .inr (.inr (20, i, t)) :: st) σ Q ↔ sl_Go xs N 36 52 L st (sl_up σ 7 0 3 x) Q := gk_put0 (q := (7, 0, 3)) rfl rfl rfl
theorem g36_52n {x : Int32} {a0 a1 a2 : Option sl_V} : sl_Go xs N 36 52 [a0, a1, a2, none, some (.inl x)] st σ Q ↔ sl_Go xs N 36 55 [a0, a1, a2, none, some (.inl (x + (-1)))] st σ Q := gk_iinc rfl rfl rfl rfl
theorem g36_52i {x : Int32} {z : Int32} {a0 a1 a2 : Option sl_V} : sl_Go xs N 36 52 [a0, a1, a2, some (.inl z), some (.inl x)] st σ Q ↔ sl_Go xs N 36 55 [a0, a1, a2, some (.inl z), some (.inl (x + (-1)))] st σ Q := gk_iinc rfl rfl rfl rfl
theorem g36_52r {x : Int32} {z : sl_R} {a0 a1 a2 : Option sl_V} : sl_Go xs N 36 52 [a0, a1, a2, some (.inr (.inr z)), some (.inl x)] st σ Q ↔ sl_Go xs N 36 55 [a0, a1, a2, some (.inr (.inr z)), some (.inl (x + (-1)))] st σ Q := gk_iinc rfl rfl rfl rfl
theorem g36_55 {L : sl_L} : sl_Go xs N 36 55 L st σ Q ↔ sl_Go xs N 36 19 L st σ Q := gk_goto rfl
theorem g36_58 {x : sl_R} {a1 a2 a3 a4 : Option sl_V} : sl_Go xs N 36 58 [some (.inr (.inr x)), a1, a2, a3, a4] st σ Q ↔ sl_Go xs N 36 59 [some (.inr (.inr x)), a1, a2, a3, a4] (.inr (.inr x) :: st) σ Q := gk_aload rfl rfl
theorem g36_59 {L : sl_L} {i t : Nat} : sl_Go xs N 36 59 L (.inr (.inr (20, i, t)) :: st) σ Q ↔ sl_Go xs N 36 62 L (.inl (σ 7 0 3) :: st) σ Q := gk_get (g := .inl (7, 0, 3)) rfl rfl rfl
theorem g36_62 {L : sl_L} {x : Int32} : sl_Go xs N 36 62 L [.inl x] σ Q ↔ Q (some (.inl x)) σ := gk_iret rfl
theorem g37_0 {x : sl_R} {a0 a2 : Option sl_V} : sl_Go xs N 37 0 [a0, some (.inr (.inr x)), a2] st σ Q ↔ sl_Go xs N 37 1 [a0, some (.inr (.inr x)), a2] (.inr (.inr x) :: st) σ Q := gk_aload rfl rfl
theorem g37_1 {L : sl_L} : sl_Go xs N 37 1 L st σ Q ↔ sl_Go xs N 37 2 L (.inl 0 :: st) σ Q := gk_const rfl
theorem g37_2 {L : sl_L} {x : Int32} {i t : Nat} : sl_Go xs N 37 2 L (.inl x :: .inr (.inr (17, i, t)) :: st) σ Q ↔ sl_Go xs N 37 5 L st (sl_up σ 5 8 t x) Q := gk_put0 (q := (5, 8, t)) rfl rfl rfl
theorem g37_5 {x : sl_R} {a1 a2 : Option sl_V} : sl_Go xs N 37 5 [some (.inr (.inr x)), a1, a2] st σ Q ↔ sl_Go xs N 37 6 [some (.inr (.inr x)), a1, a2] (.inr (.inr x) :: st) σ Q := gk_aload rfl rfl
theorem g37_6 {L : sl_L} : sl_Go xs N 37 6 L st σ Q ↔ sl_Go xs N 37 7 L (.inl 0 :: st) σ Q := gk_const rfl
theorem g37_7 {L : sl_L} {x : Int32} {i t : Nat} : sl_Go xs N 37 7 L (.inl x :: .inr (.inr (20, i, t)) :: st) σ Q ↔ sl_Go xs N 37 10 L st (sl_up σ 7 0 4 x) Q := gk_put0 (q := (7, 0, 4)) rfl rfl rfl
theorem g37_10 {x : sl_R} {a1 a2 : Option sl_V} : sl_Go xs N 37 10 [some (.inr (.inr x)), a1, a2] st σ Q ↔ sl_Go xs N 37 11 [some (.inr (.inr x)), a1, a2] (.inr (.inr x) :: st) σ Q := gk_aload rfl rfl
theorem g37_11 {L : sl_L} : sl_Go xs N 37 11 L st σ Q ↔ sl_Go xs N 37 12 L (.inl (-1) :: st) σ Q := gk_const rfl
theorem g37_12 {L : sl_L} {x : Int32} {i t : Nat} : sl_Go xs N 37 12 L (.inl x :: .inr (.inr (20, i, t)) :: st) σ Q ↔ sl_Go xs N 37 15 L st (sl_up σ 7 0 5 x) Q := gk_put0 (q := (7, 0, 5)) rfl rfl rfl
theorem g37_15 {L : sl_L} : sl_Go xs N 37 15 L st σ Q ↔ sl_Go xs N 37 16 L (.inl 0 :: st) σ Q := gk_const rfl
theorem g37_16n {x : Int32} {a0 a2 : Option sl_V} : sl_Go xs N 37 16 [a0, none, a2] (.inl x :: st) σ Q ↔ sl_Go xs N 37 17 [a0, none, some (.inl x)] st σ Q := gk_istore rfl ⟨Nat.le_of_ble_eq_true rfl, rfl⟩ rfl
theorem g37_16i {x : Int32} {z : Int32} {a0 a2 : Option sl_V} : sl_Go xs N 37 16 [a0, some (.inl z), a2] (.inl x :: st) σ Q ↔ sl_Go xs N 37 17 [a0, some (.inl z), some (.inl x)] st σ Q := gk_istore rfl ⟨Nat.le_of_ble_eq_true rfl, rfl⟩ rfl
theorem g37_16r {x : Int32} {z : sl_R} {a0 a2 : Option sl_V} : sl_Go xs N 37 16 [a0, some (.inr (.inr z)), a2] (.inl x :: st) σ Q ↔ sl_Go xs N 37 17 [a0, some (.inr (.inr z)), some (.inl x)] st σ Q := gk_istore rfl ⟨Nat.le_of_ble_eq_true rfl, rfl⟩ rfl
theorem g37_17 {x : Int32} {a0 a1 : Option sl_V} : sl_Go xs N 37 17 [a0, a1, some (.inl x)] st σ Q ↔ sl_Go xs N 37 18 [a0, a1, some (.inl x)] (.inl x :: st) σ Q := gk_iload rfl rfl
theorem g37_18 {x : sl_R} {a1 a2 : Option sl_V} : sl_Go xs N 37 18 [some (.inr (.inr x)), a1, a2] st σ Q ↔ sl_Go xs N 37 19 [some (.inr (.inr x)), a1, a2] (.inr (.inr x) :: st) σ Q := gk_aload rfl rfl
theorem g37_19 {L : sl_L} {i t : Nat} : sl_Go xs N 37 19 L (.inr (.inr (20, i, t)) :: st) σ Q ↔ sl_Go xs N 37 22 L (.inl (σ 7 0 3) :: st) σ Q := gk_get (g := .inl (7, 0, 3)) rfl rfl rfl
theorem g37_22 {L : sl_L} {x y : Int32} : sl_Go xs N 37 22 L (.inl y :: .inl x :: st) σ Q ↔ (y ≤ x → sl_Go xs N 37 66 L st σ Q) ∧ (¬ y ≤ x → sl_Go xs N 37 25 L st σ Q) := gk_ige rfl
theorem g37_25 {x : sl_R} {a1 a2 : Option sl_V} : sl_Go xs N 37 25 [some (.inr (.inr x)), a1, a2] st σ Q ↔ sl_Go xs N 37 26 [some (.inr (.inr x)), a1, a2] (.inr (.inr x) :: st) σ Q := gk_aload rfl rfl
theorem g37_26 {L : sl_L} {o : sl_R} : sl_Go xs N 37 26 L (.inr (.inr o) :: st) σ Q ↔ sl_cw st ≤ 8 ∧ sl_Go xs N 38 0 [some (.inr (.inr o))] [] σ (fun r τ => sl_Go xs N 37 29 L (r.toList ++ st) τ Q) := gk_call rfl (Nat.le_add_left 1 st.length) rfl rfl rfl
theorem g37_29 {L : sl_L} {x : Int32} : sl_Go xs N 37 29 L (.inl x :: st) σ Q ↔ (x = 0 → sl_Go xs N 37 66 L st σ Q) ∧ (¬ x = 0 → sl_Go xs N 37 32 L st σ Q) := gk_zeq rfl
theorem g37_32 {x : sl_R} {a1 a2 : Option sl_V} : sl_Go xs N 37 32 [some (.inr (.inr x)), a1, a2] st σ Q ↔ sl_Go xs N 37 33 [some (.inr (.inr x)), a1, a2] (.inr (.inr x) :: st) σ Q := gk_aload rfl rfl
theorem g37_33 {L : sl_L} {i t : Nat} : sl_Go xs N 37 33 L (.inr (.inr (20, i, t)) :: st) σ Q ↔ sl_Go xs N 37 36 L (.inr (.inr (21, 0, 0)) :: st) σ Q := gk_get (g := .inr (21, 0, 0)) rfl rfl rfl
theorem g37_36 {x : sl_R} {a1 a2 : Option sl_V} : sl_Go xs N 37 36 [some (.inr (.inr x)), a1, a2] st σ Q ↔ sl_Go xs N 37 37 [some (.inr (.inr x)), a1, a2] (.inr (.inr x) :: st) σ Q := gk_aload rfl rfl
theorem g37_37 {L : sl_L} {i t : Nat} : sl_Go xs N 37 37 L (.inr (.inr (20, i, t)) :: st) σ Q ↔ sl_Go xs N 37 40 L (.inl (σ 7 0 4) :: st) σ Q := gk_get (g := .inl (7, 0, 4)) rfl rfl rfl
theorem g37_40 {L : sl_L} {j : Int32} {r : sl_R} : sl_Go xs N 37 40 L (.inl j :: .inr (.inr r) :: st) σ Q ↔ (0 ≤ j.toInt ∧ j.toInt < sl_wlen r 1) ∧ sl_Go xs N 37 41 L (.inl (sl_rd xs σ r j.toNatClampNeg) :: st) σ Q := gk_bald rfl
theorem g37_41 {L : sl_L} : sl_Go xs N 37 41 L st σ Q ↔ sl_Go xs N 37 43 L (.inl 40 :: st) σ Q := gk_const rfl
theorem g37_43 {L : sl_L} {x y : Int32} : sl_Go xs N 37 43 L (.inl y :: .inl x :: st) σ Q ↔ (¬ x = y → sl_Go xs N 37 54 L st σ Q) ∧ (x = y → sl_Go xs N 37 46 L st σ Q) := gk_ine rfl
theorem g37_46 {x : sl_R} {a1 a2 : Option sl_V} : sl_Go xs N 37 46 [some (.inr (.inr x)), a1, a2] st σ Q ↔ sl_Go xs N 37 47 [some (.inr (.inr x)), a1, a2] (.inr (.inr x) :: st) σ Q := gk_aload rfl rfl
theorem g37_47 {x : sl_R} {a0 a2 : Option sl_V} : sl_Go xs N 37 47 [a0, some (.inr (.inr x)), a2] st σ Q ↔ sl_Go xs N 37 48 [a0, some (.inr (.inr x)), a2] (.inr (.inr x) :: st) σ Q := gk_aload rfl rfl
theorem g37_48 {L : sl_L} {o : sl_R} {x0 : sl_R} : sl_Go xs N 37 48 L (.inr (.inr x0) :: .inr (.inr o) :: st) σ Q ↔ sl_cw st ≤ 8 ∧ sl_Go xs N 39 0 [some (.inr (.inr o)), some (.inr (.inr x0)), none, none, none] [] σ (fun r τ => sl_Go xs N 37 51 L (r.toList ++ st) τ Q) := gk_call rfl (Nat.le_add_left 2 st.length) rfl rfl rfl
theorem g37_51 {L : sl_L} : sl_Go xs N 37 51 L st σ Q ↔ sl_Go xs N 37 60 L st σ Q := gk_goto rfl
theorem g37_54 {x : sl_R} {a1 a2 : Option sl_V} : sl_Go xs N 37 54 [some (.inr (.inr x)), a1, a2] st σ Q ↔ sl_Go xs N 37 55 [some (.inr (.inr x)), a1, a2] (.inr (.inr x) :: st) σ Q := gk_aload rfl rfl
theorem g37_55 {x : sl_R} {a0 a2 : Option sl_V} : sl_Go xs N 37 55 [a0, some (.inr (.inr x)), a2] st σ Q ↔ sl_Go xs N 37 56 [a0, some (.inr (.inr x)), a2] (.inr (.inr x) :: st) σ Q := gk_aload rfl rfl
theorem g37_56 {L : sl_L} : sl_Go xs N 37 56 L st σ Q ↔ sl_Go xs N 37 57 L (.inl 1 :: st) σ Q := gk_const rfl
theorem g37_57 {L : sl_L} {o : sl_R} {x0 : sl_R} {x1 : Int32} : sl_Go xs N 37 57 L (.inl x1 :: .inr (.inr x0) :: .inr (.inr o) :: st) σ Q ↔ sl_cw st ≤ 8 ∧ sl_Go xs N 41 0 [some (.inr (.inr o)), some (.inr (.inr x0)), some (.inl x1), none, none, none] [] σ (fun r τ => sl_Go xs N 37 60 L (r.toList ++ st) τ Q) := gk_call rfl (Nat.le_add_left 3 st.length) rfl rfl rfl
theorem g37_60n {x : Int32} {a0 : Option sl_V} : sl_Go xs N 37 60 [a0, none, some (.inl x)] st σ Q ↔ sl_Go xs N 37 63 [a0, none, some (.inl (x + 1))] st σ Q := gk_iinc rfl rfl rfl rfl
theorem g37_60i {x : Int32} {z : Int32} {a0 : Option sl_V} : sl_Go xs N 37 60 [a0, some (.inl z), some (.inl x)] st σ Q ↔ sl_Go xs N 37 63 [a0, some (.inl z), some (.inl (x + 1))] st σ Q := gk_iinc rfl rfl rfl rfl
theorem g37_60r {x : Int32} {z : sl_R} {a0 : Option sl_V} : sl_Go xs N 37 60 [a0, some (.inr (.inr z)), some (.inl x)] st σ Q ↔ sl_Go xs N 37 63 [a0, some (.inr (.inr z)), some (.inl (x + 1))] st σ Q := gk_iinc rfl rfl rfl rfl
theorem g37_63 {L : sl_L} : sl_Go xs N 37 63 L st σ Q ↔ sl_Go xs N 37 17 L st σ Q := gk_goto rfl
theorem g37_66 {x : sl_R} {a1 a2 : Option sl_V} : sl_Go xs N 37 66 [some (.inr (.inr x)), a1, a2] st σ Q ↔ sl_Go xs N 37 67 [some (.inr (.inr x)), a1, a2] (.inr (.inr x) :: st) σ Q := gk_aload rfl rfl
theorem g37_67 {L : sl_L} {i t : Nat} : sl_Go xs N 37 67 L (.inr (.inr (20, i, t)) :: st) σ Q ↔ sl_Go xs N 37 70 L (.inl (σ 7 0 5) :: st) σ Q := gk_get (g := .inl (7, 0, 5)) rfl rfl rfl
theorem g37_70 {L : sl_L} {x : Int32} : sl_Go xs N 37 70 L [.inl x] σ Q ↔ Q (some (.inl x)) σ := gk_iret rfl
theorem g38_0 {x : sl_R} : sl_Go xs N 38 0 [some (.inr (.inr x))] st σ Q ↔ sl_Go xs N 38 1 [some (.inr (.inr x))] (.inr (.inr x) :: st) σ Q := gk_aload rfl rfl
theorem g38_1 {L : sl_L} {i t : Nat} : sl_Go xs N 38 1 L (.inr (.inr (20, i, t)) :: st) σ Q ↔ sl_Go xs N 38 4 L (.inl (σ 7 0 5) :: st) σ Q := gk_get (g := .inl (7, 0, 5)) rfl rfl rfl
theorem g38_4 {L : sl_L} : sl_Go xs N 38 4 L st σ Q ↔ sl_Go xs N 38 5 L (.inl (-1) :: st) σ Q := gk_const rfl
theorem g38_5 {L : sl_L} {x y : Int32} : sl_Go xs N 38 5 L (.inl y :: .inl x :: st) σ Q ↔ (¬ x = y → sl_Go xs N 38 23 L st σ Q) ∧ (x = y → sl_Go xs N 38 8 L st σ Q) := gk_ine rfl
theorem g38_8 {x : sl_R} : sl_Go xs N 38 8 [some (.inr (.inr x))] st σ Q ↔ sl_Go xs N 38 9 [some (.inr (.inr x))] (.inr (.inr x) :: st) σ Q := gk_aload rfl rfl
theorem g38_9 {L : sl_L} {i t : Nat} : sl_Go xs N 38 9 L (.inr (.inr (20, i, t)) :: st) σ Q ↔ sl_Go xs N 38 12 L (.inl (σ 7 0 4) :: st) σ Q := gk_get (g := .inl (7, 0, 4)) rfl rfl rfl
theorem g38_12 {x : sl_R} : sl_Go xs N 38 12 [some (.inr (.inr x))] st σ Q ↔ sl_Go xs N 38 13 [some (.inr (.inr x))] (.inr (.inr x) :: st) σ Q := gk_aload rfl rfl
theorem g38_13 {L : sl_L} {i t : Nat} : sl_Go xs N 38 13 L (.inr (.inr (20, i, t)) :: st) σ Q ↔ sl_Go xs N 38 16 L (.inl (σ 7 0 3) :: st) σ Q := gk_get (g := .inl (7, 0, 3)) rfl rfl rfl
theorem g38_16 {L : sl_L} {x y : Int32} : sl_Go xs N 38 16 L (.inl y :: .inl x :: st) σ Q ↔ (y ≤ x → sl_Go xs N 38 23 L st σ Q) ∧ (¬ y ≤ x → sl_Go xs N 38 19 L st σ Q) := gk_ige rfl
theorem g38_19 {L : sl_L} : sl_Go xs N 38 19 L st σ Q ↔ sl_Go xs N 38 20 L (.inl 1 :: st) σ Q := gk_const rfl
theorem g38_20 {L : sl_L} : sl_Go xs N 38 20 L st σ Q ↔ sl_Go xs N 38 24 L st σ Q := gk_goto rfl
theorem g38_23 {L : sl_L} : sl_Go xs N 38 23 L st σ Q ↔ sl_Go xs N 38 24 L (.inl 0 :: st) σ Q := gk_const rfl
theorem g38_24 {L : sl_L} {x : Int32} : sl_Go xs N 38 24 L [.inl x] σ Q ↔ (x = 0 ∨ x = 1) ∧ Q (some (.inl x)) σ := gk_zret rfl
theorem g39_0 {x : sl_R} {a1 a2 a3 a4 : Option sl_V} : sl_Go xs N 39 0 [some (.inr (.inr x)), a1, a2, a3, a4] st σ Q ↔ sl_Go xs N 39 1 [some (.inr (.inr x)), a1, a2, a3, a4] (.inr (.inr x) :: st) σ Q := gk_aload rfl rfl
theorem g39_1i {L : sl_L} {x : Int32} : sl_Go xs N 39 1 L (.inl x :: st) σ Q ↔ sl_Go xs N 39 2 L (.inl x :: .inl x :: st) σ Q := gk_dupi rfl
theorem g39_1r {L : sl_L} {x : sl_R} : sl_Go xs N 39 1 L (.inr (.inr x) :: st) σ Q ↔ sl_Go xs N 39 2 L (.inr (.inr x) :: .inr (.inr x) :: st) σ Q := gk_dupr rfl
theorem g39_2 {L : sl_L} {i t : Nat} : sl_Go xs N 39 2 L (.inr (.inr (20, i, t)) :: st) σ Q ↔ sl_Go xs N 39 5 L (.inl (σ 7 0 4) :: st) σ Q := gk_get (g := .inl (7, 0, 4)) rfl rfl rfl
theorem g39_5 {L : sl_L} : sl_Go xs N 39 5 L st σ Q ↔ sl_Go xs N 39 6 L (.inl 1 :: st) σ Q := gk_const rfl
theorem g39_6 {L : sl_L} {x y : Int32} : sl_Go xs N 39 6 L (.inl y :: .inl x :: st) σ Q ↔ sl_Go xs N 39 7 L (.inl (x + y) :: st) σ Q := gk_bin (b := 8) rfl
theorem g39_7 {L : sl_L} {x : Int32} {i t : Nat} : sl_Go xs N 39 7 L (.inl x :: .inr (.inr (20, i, t)) :: st) σ Q ↔ sl_Go xs N 39 10 L st (sl_up σ 7 0 4 x) Q := gk_put0 (q := (7, 0, 4)) rfl rfl rfl
theorem g39_10 {x : sl_R} {a1 a2 a3 a4 : Option sl_V} : sl_Go xs N 39 10 [some (.inr (.inr x)), a1, a2, a3, a4] st σ Q ↔ sl_Go xs N 39 11 [some (.inr (.inr x)), a1, a2, a3, a4] (.inr (.inr x) :: st) σ Q := gk_aload rfl rfl
theorem g39_11 {L : sl_L} {o : sl_R} : sl_Go xs N 39 11 L (.inr (.inr o) :: st) σ Q ↔ sl_cw st ≤ 8 ∧ sl_Go xs N 42 0 [some (.inr (.inr o)), none, none] [] σ (fun r τ => sl_Go xs N 39 14 L (r.toList ++ st) τ Q) := gk_call rfl (Nat.le_add_left 1 st.length) rfl rfl rfl
theorem g39_14n {x : Int32} {a0 a2 a3 a4 : Option sl_V} : sl_Go xs N 39 14 [a0, none, a2, a3, a4] (.inl x :: st) σ Q ↔ sl_Go xs N 39 15 [a0, none, some (.inl x), a3, a4] st σ Q := gk_istore rfl ⟨Nat.le_of_ble_eq_true rfl, rfl⟩ rfl
theorem g39_14i {x : Int32} {z : Int32} {a0 a2 a3 a4 : Option sl_V} : sl_Go xs N 39 14 [a0, some (.inl z), a2, a3, a4] (.inl x :: st) σ Q ↔ sl_Go xs N 39 15 [a0, some (.inl z), some (.inl x), a3, a4] st σ Q := gk_istore rfl ⟨Nat.le_of_ble_eq_true rfl, rfl⟩ rfl
theorem g39_14r {x : Int32} {z : sl_R} {a0 a2 a3 a4 : Option sl_V} : sl_Go xs N 39 14 [a0, some (.inr (.inr z)), a2, a3, a4] (.inl x :: st) σ Q ↔ sl_Go xs N 39 15 [a0, some (.inr (.inr z)), some (.inl x), a3, a4] st σ Q := gk_istore rfl ⟨Nat.le_of_ble_eq_true rfl, rfl⟩ rfl
theorem g39_15 {x : sl_R} {a1 a2 a3 a4 : Option sl_V} : sl_Go xs N 39 15 [some (.inr (.inr x)), a1, a2, a3, a4] st σ Q ↔ sl_Go xs N 39 16 [some (.inr (.inr x)), a1, a2, a3, a4] (.inr (.inr x) :: st) σ Q := gk_aload rfl rfl
theorem g39_16 {L : sl_L} : sl_Go xs N 39 16 L st σ Q ↔ sl_Go xs N 39 18 L (.inl 58 :: st) σ Q := gk_const rfl
theorem g39_18 {L : sl_L} {o : sl_R} {x0 : Int32} : sl_Go xs N 39 18 L (.inl x0 :: .inr (.inr o) :: st) σ Q ↔ sl_cw st ≤ 8 ∧ sl_Go xs N 43 0 [some (.inr (.inr o)), some (.inl x0)] [] σ (fun r τ => sl_Go xs N 39 21 L (r.toList ++ st) τ Q) := gk_call rfl (Nat.le_add_left 2 st.length) rfl rfl rfl
theorem g39_21 {x : sl_R} {a0 a2 a3 a4 : Option sl_V} : sl_Go xs N 39 21 [a0, some (.inr (.inr x)), a2, a3, a4] st σ Q ↔ sl_Go xs N 39 22 [a0, some (.inr (.inr x)), a2, a3, a4] (.inr (.inr x) :: st) σ Q := gk_aload rfl rfl
theorem g39_22 {L : sl_L} {i t : Nat} : sl_Go xs N 39 22 L (.inr (.inr (17, i, t)) :: st) σ Q ↔ sl_Go xs N 39 25 L (.inl (σ 5 8 t) :: st) σ Q := gk_get (g := .inl (5, 8, t)) rfl rfl rfl
theorem g39_25n {x : Int32} {a0 a1 a3 a4 : Option sl_V} : sl_Go xs N 39 25 [a0, a1, none, a3, a4] (.inl x :: st) σ Q ↔ sl_Go xs N 39 26 [a0, a1, none, some (.inl x), a4] st σ Q := gk_istore rfl ⟨Nat.le_of_ble_eq_true rfl, rfl⟩ rfl
theorem g39_25i {x : Int32} {z : Int32} {a0 a1 a3 a4 : Option sl_V} : sl_Go xs N 39 25 [a0, a1, some (.inl z), a3, a4] (.inl x :: st) σ Q ↔ sl_Go xs N 39 26 [a0, a1, some (.inl z), some (.inl x), a4] st σ Q := gk_istore rfl ⟨Nat.le_of_ble_eq_true rfl, rfl⟩ rfl
theorem g39_25r {x : Int32} {z : sl_R} {a0 a1 a3 a4 : Option sl_V} : sl_Go xs N 39 25 [a0, a1, some (.inr (.inr z)), a3, a4] (.inl x :: st) σ Q ↔ sl_Go xs N 39 26 [a0, a1, some (.inr (.inr z)), some (.inl x), a4] st σ Q := gk_istore rfl ⟨Nat.le_of_ble_eq_true rfl, rfl⟩ rfl
theorem g39_26 {L : sl_L} : sl_Go xs N 39 26 L st σ Q ↔ sl_Go xs N 39 27 L (.inl 0 :: st) σ Q := gk_const rfl
theorem g39_27n {x : Int32} {a0 a1 a2 a4 : Option sl_V} : sl_Go xs N 39 27 [a0, a1, a2, none, a4] (.inl x :: st) σ Q ↔ sl_Go xs N 39 29 [a0, a1, a2, none, some (.inl x)] st σ Q := gk_istore rfl ⟨Nat.le_of_ble_eq_true rfl, rfl⟩ rfl
theorem g39_27i {x : Int32} {z : Int32} {a0 a1 a2 a4 : Option sl_V} : sl_Go xs N 39 27 [a0, a1, a2, some (.inl z), a4] (.inl x :: st) σ Q ↔ sl_Go xs N 39 29 [a0, a1, a2, some (.inl z), some (.inl x)] st σ Q := gk_istore rfl ⟨Nat.le_of_ble_eq_true rfl, rfl⟩ rfl
theorem g39_27r {x : Int32} {z : sl_R} {a0 a1 a2 a4 : Option sl_V} : sl_Go xs N 39 27 [a0, a1, a2, some (.inr (.inr z)), a4] (.inl x :: st) σ Q ↔ sl_Go xs N 39 29 [a0, a1, a2, some (.inr (.inr z)), some (.inl x)] st σ Q := gk_istore rfl ⟨Nat.le_of_ble_eq_true rfl, rfl⟩ rfl
theorem g39_29 {x : Int32} {a0 a1 a2 a3 : Option sl_V} : sl_Go xs N 39 29 [a0, a1, a2, a3, some (.inl x)] st σ Q ↔ sl_Go xs N 39 31 [a0, a1, a2, a3, some (.inl x)] (.inl x :: st) σ Q := gk_iload rfl rfl
theorem g39_31 {x : sl_R} {a1 a2 a3 a4 : Option sl_V} : sl_Go xs N 39 31 [some (.inr (.inr x)), a1, a2, a3, a4] st σ Q ↔ sl_Go xs N 39 32 [some (.inr (.inr x)), a1, a2, a3, a4] (.inr (.inr x) :: st) σ Q := gk_aload rfl rfl
theorem g39_32 {L : sl_L} {i t : Nat} : sl_Go xs N 39 32 L (.inr (.inr (20, i, t)) :: st) σ Q ↔ sl_Go xs N 39 35 L (.inl (σ 7 0 3) :: st) σ Q := gk_get (g := .inl (7, 0, 3)) rfl rfl rfl
theorem g39_35 {L : sl_L} {x y : Int32} : sl_Go xs N 39 35 L (.inl y :: .inl x :: st) σ Q ↔ (y ≤ x → sl_Go xs N 39 79 L st σ Q) ∧ (¬ y ≤ x → sl_Go xs N 39 38 L st σ Q) := gk_ige rfl
theorem g39_38 {x : sl_R} {a1 a2 a3 a4 : Option sl_V} : sl_Go xs N 39 38 [some (.inr (.inr x)), a1, a2, a3, a4] st σ Q ↔ sl_Go xs N 39 39 [some (.inr (.inr x)), a1, a2, a3, a4] (.inr (.inr x) :: st) σ Q := gk_aload rfl rfl
theorem g39_39 {L : sl_L} {o : sl_R} : sl_Go xs N 39 39 L (.inr (.inr o) :: st) σ Q ↔ sl_cw st ≤ 8 ∧ sl_Go xs N 38 0 [some (.inr (.inr o))] [] σ (fun r τ => sl_Go xs N 39 42 L (r.toList ++ st) τ Q) := gk_call rfl (Nat.le_add_left 1 st.length) rfl rfl rfl
theorem g39_42 {L : sl_L} {x : Int32} : sl_Go xs N 39 42 L (.inl x :: st) σ Q ↔ (x = 0 → sl_Go xs N 39 79 L st σ Q) ∧ (¬ x = 0 → sl_Go xs N 39 45 L st σ Q) := gk_zeq rfl
theorem g39_45 {x : sl_R} {a1 a2 a3 a4 : Option sl_V} : sl_Go xs N 39 45 [some (.inr (.inr x)), a1, a2, a3, a4] st σ Q ↔ sl_Go xs N 39 46 [some (.inr (.inr x)), a1, a2, a3, a4] (.inr (.inr x) :: st) σ Q := gk_aload rfl rfl
theorem g39_46 {L : sl_L} {i t : Nat} : sl_Go xs N 39 46 L (.inr (.inr (20, i, t)) :: st) σ Q ↔ sl_Go xs N 39 49 L (.inr (.inr (21, 0, 0)) :: st) σ Q := gk_get (g := .inr (21, 0, 0)) rfl rfl rfl
theorem g39_49 {x : sl_R} {a1 a2 a3 a4 : Option sl_V} : sl_Go xs N 39 49 [some (.inr (.inr x)), a1, a2, a3, a4] st σ Q ↔ sl_Go xs N 39 50 [some (.inr (.inr x)), a1, a2, a3, a4] (.inr (.inr x) :: st) σ Q := gk_aload rfl rfl
theorem g39_50 {L : sl_L} {i t : Nat} : sl_Go xs N 39 50 L (.inr (.inr (20, i, t)) :: st) σ Q ↔ sl_Go xs N 39 53 L (.inl (σ 7 0 4) :: st) σ Q := gk_get (g := .inl (7, 0, 4)) rfl rfl rfl
theorem g39_53 {L : sl_L} {j : Int32} {r : sl_R} : sl_Go xs N 39 53 L (.inl j :: .inr (.inr r) :: st) σ Q ↔ (0 ≤ j.toInt ∧ j.toInt < sl_wlen r 1) ∧ sl_Go xs N 39 54 L (.inl (sl_rd xs σ r j.toNatClampNeg) :: st) σ Q := gk_bald rfl
theorem g39_54 {L : sl_L} : sl_Go xs N 39 54 L st σ Q ↔ sl_Go xs N 39 56 L (.inl 41 :: st) σ Q := gk_const rfl
theorem g39_56 {L : sl_L} {x y : Int32} : sl_Go xs N 39 56 L (.inl y :: .inl x :: st) σ Q ↔ (x = y → sl_Go xs N 39 79 L st σ Q) ∧ (¬ x = y → sl_Go xs N 39 59 L st σ Q) := gk_ieq rfl
theorem g39_59 {x : sl_R} {a1 a2 a3 a4 : Option sl_V} : sl_Go xs N 39 59 [some (.inr (.inr x)), a1, a2, a3, a4] st σ Q ↔ sl_Go xs N 39 60 [some (.inr (.inr x)), a1, a2, a3, a4] (.inr (.inr x) :: st) σ Q := gk_aload rfl rfl
theorem g39_60 {x : sl_R} {a0 a2 a3 a4 : Option sl_V} : sl_Go xs N 39 60 [a0, some (.inr (.inr x)), a2, a3, a4] st σ Q ↔ sl_Go xs N 39 61 [a0, some (.inr (.inr x)), a2, a3, a4] (.inr (.inr x) :: st) σ Q := gk_aload rfl rfl
theorem g39_61 {x : Int32} {a0 a1 a3 a4 : Option sl_V} : sl_Go xs N 39 61 [a0, a1, some (.inl x), a3, a4] st σ Q ↔ sl_Go xs N 39 62 [a0, a1, some (.inl x), a3, a4] (.inl x :: st) σ Q := gk_iload rfl rfl
theorem g39_62 {L : sl_L} {x : Int32} : sl_Go xs N 39 62 L (.inl x :: st) σ Q ↔ (x ≤ 0 → sl_Go xs N 39 69 L st σ Q) ∧ (¬ x ≤ 0 → sl_Go xs N 39 65 L st σ Q) := gk_zle rfl
theorem g39_65 {L : sl_L} : sl_Go xs N 39 65 L st σ Q ↔ sl_Go xs N 39 66 L (.inl 1 :: st) σ Q := gk_const rfl
theorem g39_66 {L : sl_L} : sl_Go xs N 39 66 L st σ Q ↔ sl_Go xs N 39 70 L st σ Q := gk_goto rfl
theorem g39_69 {L : sl_L} : sl_Go xs N 39 69 L st σ Q ↔ sl_Go xs N 39 70 L (.inl 0 :: st) σ Q := gk_const rfl
theorem g39_70 {L : sl_L} {o : sl_R} {x0 : sl_R} {x1 : Int32} : sl_Go xs N 39 70 L (.inl x1 :: .inr (.inr x0) :: .inr (.inr o) :: st) σ Q ↔ sl_cw st ≤ 8 ∧ sl_Go xs N 41 0 [some (.inr (.inr o)), some (.inr (.inr x0)), some (.inl x1), none, none, none] [] σ (fun r τ => sl_Go xs N 39 73 L (r.toList ++ st) τ Q) := gk_call rfl (Nat.le_add_left 3 st.length) rfl rfl rfl
theorem g39_73n {x : Int32} {a0 a1 a2 : Option sl_V} : sl_Go xs N 39 73 [a0, a1, a2, none, some (.inl x)] st σ Q ↔ sl_Go xs N 39 76 [a0, a1, a2, none, some (.inl (x + 1))] st σ Q := gk_iinc rfl rfl rfl rfl
theorem g39_73i {x : Int32} {z : Int32} {a0 a1 a2 : Option sl_V} : sl_Go xs N 39 73 [a0, a1, a2, some (.inl z), some (.inl x)] st σ Q ↔ sl_Go xs N 39 76 [a0, a1, a2, some (.inl z), some (.inl (x + 1))] st σ Q := gk_iinc rfl rfl rfl rfl
theorem g39_73r {x : Int32} {z : sl_R} {a0 a1 a2 : Option sl_V} : sl_Go xs N 39 73 [a0, a1, a2, some (.inr (.inr z)), some (.inl x)] st σ Q ↔ sl_Go xs N 39 76 [a0, a1, a2, some (.inr (.inr z)), some (.inl (x + 1))] st σ Q := gk_iinc rfl rfl rfl rfl
theorem g39_76 {L : sl_L} : sl_Go xs N 39 76 L st σ Q ↔ sl_Go xs N 39 29 L st σ Q := gk_goto rfl
theorem g39_79 {x : sl_R} {a0 a2 a3 a4 : Option sl_V} : sl_Go xs N 39 79 [a0, some (.inr (.inr x)), a2, a3, a4] st σ Q ↔ sl_Go xs N 39 80 [a0, some (.inr (.inr x)), a2, a3, a4] (.inr (.inr x) :: st) σ Q := gk_aload rfl rfl
theorem g39_80 {L : sl_L} {i t : Nat} : sl_Go xs N 39 80 L (.inr (.inr (17, i, t)) :: st) σ Q ↔ sl_Go xs N 39 83 L (.inl (σ 5 8 t) :: st) σ Q := gk_get (g := .inl (5, 8, t)) rfl rfl rfl
theorem g39_83 {x : Int32} {a0 a1 a2 a4 : Option sl_V} : sl_Go xs N 39 83 [a0, a1, a2, some (.inl x), a4] st σ Q ↔ sl_Go xs N 39 84 [a0, a1, a2, some (.inl x), a4] (.inl x :: st) σ Q := gk_iload rfl rfl
theorem g39_84 {L : sl_L} {x y : Int32} : sl_Go xs N 39 84 L (.inl y :: .inl x :: st) σ Q ↔ sl_Go xs N 39 85 L (.inl (x - y) :: st) σ Q := gk_bin (b := 9) rfl
theorem g39_85n {x : Int32} {a0 a1 a2 a4 : Option sl_V} : sl_Go xs N 39 85 [a0, a1, a2, none, a4] (.inl x :: st) σ Q ↔ sl_Go xs N 39 87 [a0, a1, a2, none, some (.inl x)] st σ Q := gk_istore rfl ⟨Nat.le_of_ble_eq_true rfl, rfl⟩ rfl
theorem g39_85i {x : Int32} {z : Int32} {a0 a1 a2 a4 : Option sl_V} : sl_Go xs N 39 85 [a0, a1, a2, some (.inl z), a4] (.inl x :: st) σ Q ↔ sl_Go xs N 39 87 [a0, a1, a2, some (.inl z), some (.inl x)] st σ Q := gk_istore rfl ⟨Nat.le_of_ble_eq_true rfl, rfl⟩ rfl
theorem g39_85r {x : Int32} {z : sl_R} {a0 a1 a2 a4 : Option sl_V} : sl_Go xs N 39 85 [a0, a1, a2, some (.inr (.inr z)), a4] (.inl x :: st) σ Q ↔ sl_Go xs N 39 87 [a0, a1, a2, some (.inr (.inr z)), some (.inl x)] st σ Q := gk_istore rfl ⟨Nat.le_of_ble_eq_true rfl, rfl⟩ rfl
theorem g39_87 {x : Int32} {a0 a1 a2 a4 : Option sl_V} : sl_Go xs N 39 87 [a0, a1, a2, some (.inl x), a4] st σ Q ↔ sl_Go xs N 39 88 [a0, a1, a2, some (.inl x), a4] (.inl x :: st) σ Q := gk_iload rfl rfl
theorem g39_88 {x : Int32} {a0 a1 a2 a3 : Option sl_V} : sl_Go xs N 39 88 [a0, a1, a2, a3, some (.inl x)] st σ Q ↔ sl_Go xs N 39 90 [a0, a1, a2, a3, some (.inl x)] (.inl x :: st) σ Q := gk_iload rfl rfl
theorem g39_90 {x : Int32} {a0 a1 a3 a4 : Option sl_V} : sl_Go xs N 39 90 [a0, a1, some (.inl x), a3, a4] st σ Q ↔ sl_Go xs N 39 91 [a0, a1, some (.inl x), a3, a4] (.inl x :: st) σ Q := gk_iload rfl rfl
theorem g39_91 {L : sl_L} {x y : Int32} : sl_Go xs N 39 91 L (.inl y :: .inl x :: st) σ Q ↔ sl_Go xs N 39 92 L (.inl (x * y) :: st) σ Q := gk_bin (b := 10) rfl
theorem g39_92 {L : sl_L} {x y : Int32} : sl_Go xs N 39 92 L (.inl y :: .inl x :: st) σ Q ↔ sl_Go xs N 39 93 L (.inl (x + y) :: st) σ Q := gk_bin (b := 8) rfl
theorem g39_93 {L : sl_L} : sl_Go xs N 39 93 L st σ Q ↔ sl_Go xs N 39 95 L (.inl 12 :: st) σ Q := gk_const rfl
theorem g39_95 {L : sl_L} {x y : Int32} : sl_Go xs N 39 95 L (.inl y :: .inl x :: st) σ Q ↔ (x ≤ y → sl_Go xs N 39 113 L st σ Q) ∧ (¬ x ≤ y → sl_Go xs N 39 98 L st σ Q) := gk_ile rfl
theorem g39_98 {x : sl_R} {a1 a2 a3 a4 : Option sl_V} : sl_Go xs N 39 98 [some (.inr (.inr x)), a1, a2, a3, a4] st σ Q ↔ sl_Go xs N 39 99 [some (.inr (.inr x)), a1, a2, a3, a4] (.inr (.inr x) :: st) σ Q := gk_aload rfl rfl
theorem g39_99 {L : sl_L} {o : sl_R} : sl_Go xs N 39 99 L (.inr (.inr o) :: st) σ Q ↔ sl_cw st ≤ 8 ∧ sl_Go xs N 38 0 [some (.inr (.inr o))] [] σ (fun r τ => sl_Go xs N 39 102 L (r.toList ++ st) τ Q) := gk_call rfl (Nat.le_add_left 1 st.length) rfl rfl rfl
theorem g39_102 {L : sl_L} {x : Int32} : sl_Go xs N 39 102 L (.inl x :: st) σ Q ↔ (x = 0 → sl_Go xs N 39 113 L st σ Q) ∧ (¬ x = 0 → sl_Go xs N 39 105 L st σ Q) := gk_zeq rfl
theorem g39_105 {x : sl_R} {a1 a2 a3 a4 : Option sl_V} : sl_Go xs N 39 105 [some (.inr (.inr x)), a1, a2, a3, a4] st σ Q ↔ sl_Go xs N 39 106 [some (.inr (.inr x)), a1, a2, a3, a4] (.inr (.inr x) :: st) σ Q := gk_aload rfl rfl
theorem g39_106 {x : sl_R} {a1 a2 a3 a4 : Option sl_V} : sl_Go xs N 39 106 [some (.inr (.inr x)), a1, a2, a3, a4] st σ Q ↔ sl_Go xs N 39 107 [some (.inr (.inr x)), a1, a2, a3, a4] (.inr (.inr x) :: st) σ Q := gk_aload rfl rfl
theorem g39_107 {L : sl_L} {i t : Nat} : sl_Go xs N 39 107 L (.inr (.inr (20, i, t)) :: st) σ Q ↔ sl_Go xs N 39 110 L (.inl (σ 7 0 4) :: st) σ Q := gk_get (g := .inl (7, 0, 4)) rfl rfl rfl
theorem g39_110 {L : sl_L} {x : Int32} {i t : Nat} : sl_Go xs N 39 110 L (.inl x :: .inr (.inr (20, i, t)) :: st) σ Q ↔ sl_Go xs N 39 113 L st (sl_up σ 7 0 5 x) Q := gk_put0 (q := (7, 0, 5)) rfl rfl rfl
theorem g39_113 {x : sl_R} {a1 a2 a3 a4 : Option sl_V} : sl_Go xs N 39 113 [some (.inr (.inr x)), a1, a2, a3, a4] st σ Q ↔ sl_Go xs N 39 114 [some (.inr (.inr x)), a1, a2, a3, a4] (.inr (.inr x) :: st) σ Q := gk_aload rfl rfl
theorem g39_114 {L : sl_L} : sl_Go xs N 39 114 L st σ Q ↔ sl_Go xs N 39 116 L (.inl 41 :: st) σ Q := gk_const rfl
theorem g39_116 {L : sl_L} {o : sl_R} {x0 : Int32} : sl_Go xs N 39 116 L (.inl x0 :: .inr (.inr o) :: st) σ Q ↔ sl_cw st ≤ 8 ∧ sl_Go xs N 43 0 [some (.inr (.inr o)), some (.inl x0)] [] σ (fun r τ => sl_Go xs N 39 119 L (r.toList ++ st) τ Q) := gk_call rfl (Nat.le_add_left 2 st.length) rfl rfl rfl
theorem g39_119 {x : sl_R} {a1 a2 a3 a4 : Option sl_V} : sl_Go xs N 39 119 [some (.inr (.inr x)), a1, a2, a3, a4] st σ Q ↔ sl_Go xs N 39 120 [some (.inr (.inr x)), a1, a2, a3, a4] (.inr (.inr x) :: st) σ Q := gk_aload rfl rfl
theorem g39_120 {L : sl_L} {i t : Nat} : sl_Go xs N 39 120 L (.inr (.inr (20, i, t)) :: st) σ Q ↔ sl_Go xs N 39 123 L (.inl (σ 7 0 5) :: st) σ Q := gk_get (g := .inl (7, 0, 5)) rfl rfl rfl
theorem g39_123 {L : sl_L} : sl_Go xs N 39 123 L st σ Q ↔ sl_Go xs N 39 124 L (.inl (-1) :: st) σ Q := gk_const rfl
theorem g39_124 {L : sl_L} {x y : Int32} : sl_Go xs N 39 124 L (.inl y :: .inl x :: st) σ Q ↔ (¬ x = y → sl_Go xs N 39 137 L st σ Q) ∧ (x = y → sl_Go xs N 39 127 L st σ Q) := gk_ine rfl
theorem g39_127 {x : sl_R} {a0 a2 a3 a4 : Option sl_V} : sl_Go xs N 39 127 [a0, some (.inr (.inr x)), a2, a3, a4] st σ Q ↔ sl_Go xs N 39 128 [a0, some (.inr (.inr x)), a2, a3, a4] (.inr (.inr x) :: st) σ Q := gk_aload rfl rfl
theorem g39_128 {x : Int32} {a0 a1 a2 a4 : Option sl_V} : sl_Go xs N 39 128 [a0, a1, a2, some (.inl x), a4] st σ Q ↔ sl_Go xs N 39 129 [a0, a1, a2, some (.inl x), a4] (.inl x :: st) σ Q := gk_iload rfl rfl
theorem g39_129 {x : Int32} {a0 a1 a2 a3 : Option sl_V} : sl_Go xs N 39 129 [a0, a1, a2, a3, some (.inl x)] st σ Q ↔ sl_Go xs N 39 131 [a0, a1, a2, a3, some (.inl x)] (.inl x :: st) σ Q := gk_iload rfl rfl
theorem g39_131 {x : Int32} {a0 a1 a3 a4 : Option sl_V} : sl_Go xs N 39 131 [a0, a1, some (.inl x), a3, a4] st σ Q ↔ sl_Go xs N 39 132 [a0, a1, some (.inl x), a3, a4] (.inl x :: st) σ Q := gk_iload rfl rfl
theorem g39_132 {L : sl_L} : sl_Go xs N 39 132 L st σ Q ↔ sl_Go xs N 39 133 L (.inl 1 :: st) σ Q := gk_const rfl
theorem g39_133 {L : sl_L} {x y : Int32} : sl_Go xs N 39 133 L (.inl y :: .inl x :: st) σ Q ↔ sl_Go xs N 39 134 L (.inl (x - y) :: st) σ Q := gk_bin (b := 9) rfl
theorem g39_134 {L : sl_L} {x0 : sl_R} {x1 : Int32} {x2 : Int32} {x3 : Int32} : sl_Go xs N 39 134 L (.inl x3 :: .inl x2 :: .inl x1 :: .inr (.inr x0) :: st) σ Q ↔ sl_cw st ≤ 8 ∧ sl_Go xs N 40 0 [some (.inr (.inr x0)), some (.inl x1), some (.inl x2), some (.inl x3), none, none] [] σ (fun r τ => sl_Go xs N 39 137 L (r.toList ++ st) τ Q) := gk_call rfl (Nat.le_add_left 4 st.length) rfl rfl rfl
theorem g39_137 {L : sl_L} : sl_Go xs N 39 137 L [] σ Q ↔ Q none σ := gk_vret rfl
theorem g40_0 {L : sl_L} : sl_Go xs N 40 0 L st σ Q ↔ sl_Go xs N 40 1 L (.inl 0 :: st) σ Q := gk_const rfl
theorem g40_1n {x : Int32} {a0 a1 a2 a4 a5 : Option sl_V} : sl_Go xs N 40 1 [a0, a1, a2, none, a4, a5] (.inl x :: st) σ Q ↔ sl_Go xs N 40 3 [a0, a1, a2, none, some (.inl x), a5] st σ Q := gk_istore rfl ⟨Nat.le_of_ble_eq_true rfl, rfl⟩ rfl
theorem g40_1i {x : Int32} {z : Int32} {a0 a1 a2 a4 a5 : Option sl_V} : sl_Go xs N 40 1 [a0, a1, a2, some (.inl z), a4, a5] (.inl x :: st) σ Q ↔ sl_Go xs N 40 3 [a0, a1, a2, some (.inl z), some (.inl x), a5] st σ Q := gk_istore rfl ⟨Nat.le_of_ble_eq_true rfl, rfl⟩ rfl
theorem g40_1r {x : Int32} {z : sl_R} {a0 a1 a2 a4 a5 : Option sl_V} : sl_Go xs N 40 1 [a0, a1, a2, some (.inr (.inr z)), a4, a5] (.inl x :: st) σ Q ↔ sl_Go xs N 40 3 [a0, a1, a2, some (.inr (.inr z)), some (.inl x), a5] st σ Q := gk_istore rfl ⟨Nat.le_of_ble_eq_true rfl, rfl⟩ rfl
theorem g40_3 {x : Int32} {a0 a1 a2 a3 a5 : Option sl_V} : sl_Go xs N 40 3 [a0, a1, a2, a3, some (.inl x), a5] st σ Q ↔ sl_Go xs N 40 5 [a0, a1, a2, a3, some (.inl x), a5] (.inl x :: st) σ Q := gk_iload rfl rfl
theorem g40_5 {x : Int32} {a0 a1 a2 a4 a5 : Option sl_V} : sl_Go xs N 40 5 [a0, a1, a2, some (.inl x), a4, a5] st σ Q ↔ sl_Go xs N 40 6 [a0, a1, a2, some (.inl x), a4, a5] (.inl x :: st) σ Q := gk_iload rfl rfl
theorem g40_6 {L : sl_L} {x y : Int32} : sl_Go xs N 40 6 L (.inl y :: .inl x :: st) σ Q ↔ (y ≤ x → sl_Go xs N 40 50 L st σ Q) ∧ (¬ y ≤ x → sl_Go xs N 40 9 L st σ Q) := gk_ige rfl
theorem g40_9 {x : Int32} {a0 a2 a3 a4 a5 : Option sl_V} : sl_Go xs N 40 9 [a0, some (.inl x), a2, a3, a4, a5] st σ Q ↔ sl_Go xs N 40 10 [a0, some (.inl x), a2, a3, a4, a5] (.inl x :: st) σ Q := gk_iload rfl rfl
theorem g40_10n {x : Int32} {a0 a1 a2 a3 a5 : Option sl_V} : sl_Go xs N 40 10 [a0, a1, a2, a3, none, a5] (.inl x :: st) σ Q ↔ sl_Go xs N 40 12 [a0, a1, a2, a3, none, some (.inl x)] st σ Q := gk_istore rfl ⟨Nat.le_of_ble_eq_true rfl, rfl⟩ rfl
theorem g40_10i {x : Int32} {z : Int32} {a0 a1 a2 a3 a5 : Option sl_V} : sl_Go xs N 40 10 [a0, a1, a2, a3, some (.inl z), a5] (.inl x :: st) σ Q ↔ sl_Go xs N 40 12 [a0, a1, a2, a3, some (.inl z), some (.inl x)] st σ Q := gk_istore rfl ⟨Nat.le_of_ble_eq_true rfl, rfl⟩ rfl
theorem g40_10r {x : Int32} {z : sl_R} {a0 a1 a2 a3 a5 : Option sl_V} : sl_Go xs N 40 10 [a0, a1, a2, a3, some (.inr (.inr z)), a5] (.inl x :: st) σ Q ↔ sl_Go xs N 40 12 [a0, a1, a2, a3, some (.inr (.inr z)), some (.inl x)] st σ Q := gk_istore rfl ⟨Nat.le_of_ble_eq_true rfl, rfl⟩ rfl
theorem g40_12 {x : Int32} {a0 a1 a2 a3 a4 : Option sl_V} : sl_Go xs N 40 12 [a0, a1, a2, a3, a4, some (.inl x)] st σ Q ↔ sl_Go xs N 40 14 [a0, a1, a2, a3, a4, some (.inl x)] (.inl x :: st) σ Q := gk_iload rfl rfl
theorem g40_14 {x : Int32} {a0 a2 a3 a4 a5 : Option sl_V} : sl_Go xs N 40 14 [a0, some (.inl x), a2, a3, a4, a5] st σ Q ↔ sl_Go xs N 40 15 [a0, some (.inl x), a2, a3, a4, a5] (.inl x :: st) σ Q := gk_iload rfl rfl
theorem g40_15 {x : Int32} {a0 a1 a3 a4 a5 : Option sl_V} : sl_Go xs N 40 15 [a0, a1, some (.inl x), a3, a4, a5] st σ Q ↔ sl_Go xs N 40 16 [a0, a1, some (.inl x), a3, a4, a5] (.inl x :: st) σ Q := gk_iload rfl rfl
theorem g40_16 {L : sl_L} {x y : Int32} : sl_Go xs N 40 16 L (.inl y :: .inl x :: st) σ Q ↔ sl_Go xs N 40 17 L (.inl (x + y) :: st) σ Q := gk_bin (b := 8) rfl
theorem g40_17 {L : sl_L} {x y : Int32} : sl_Go xs N 40 17 L (.inl y :: .inl x :: st) σ Q ↔ (y ≤ x → sl_Go xs N 40 44 L st σ Q) ∧ (¬ y ≤ x → sl_Go xs N 40 20 L st σ Q) := gk_ige rfl
theorem g40_20 {x : sl_R} {a1 a2 a3 a4 a5 : Option sl_V} : sl_Go xs N 40 20 [some (.inr (.inr x)), a1, a2, a3, a4, a5] st σ Q ↔ sl_Go xs N 40 21 [some (.inr (.inr x)), a1, a2, a3, a4, a5] (.inr (.inr x) :: st) σ Q := gk_aload rfl rfl
theorem g40_21 {x : sl_R} {a1 a2 a3 a4 a5 : Option sl_V} : sl_Go xs N 40 21 [some (.inr (.inr x)), a1, a2, a3, a4, a5] st σ Q ↔ sl_Go xs N 40 22 [some (.inr (.inr x)), a1, a2, a3, a4, a5] (.inr (.inr x) :: st) σ Q := gk_aload rfl rfl
theorem g40_22 {L : sl_L} {i t : Nat} : sl_Go xs N 40 22 L (.inr (.inr (17, i, t)) :: st) σ Q ↔ sl_Go xs N 40 25 L (.inr (.inr (18, 0, t)) :: st) σ Q := gk_get (g := .inr (18, 0, t)) rfl rfl rfl
theorem g40_25 {x : Int32} {a0 a1 a2 a3 a4 : Option sl_V} : sl_Go xs N 40 25 [a0, a1, a2, a3, a4, some (.inl x)] st σ Q ↔ sl_Go xs N 40 27 [a0, a1, a2, a3, a4, some (.inl x)] (.inl x :: st) σ Q := gk_iload rfl rfl
theorem g40_27 {L : sl_L} {j : Int32} {r : sl_R} : sl_Go xs N 40 27 L (.inl j :: .inr (.inr r) :: st) σ Q ↔ (0 ≤ j.toInt ∧ j.toInt < sl_ilen N r) ∧ sl_Go xs N 40 28 L (.inl (sl_rd xs σ r j.toNatClampNeg) :: st) σ Q := gk_iald rfl
theorem g40_28 {x : sl_R} {a1 a2 a3 a4 a5 : Option sl_V} : sl_Go xs N 40 28 [some (.inr (.inr x)), a1, a2, a3, a4, a5] st σ Q ↔ sl_Go xs N 40 29 [some (.inr (.inr x)), a1, a2, a3, a4, a5] (.inr (.inr x) :: st) σ Q := gk_aload rfl rfl
theorem g40_29 {L : sl_L} {i t : Nat} : sl_Go xs N 40 29 L (.inr (.inr (17, i, t)) :: st) σ Q ↔ sl_Go xs N 40 32 L (.inr (.inr (19, 0, t)) :: st) σ Q := gk_get (g := .inr (19, 0, t)) rfl rfl rfl
theorem g40_32 {x : Int32} {a0 a1 a2 a3 a4 : Option sl_V} : sl_Go xs N 40 32 [a0, a1, a2, a3, a4, some (.inl x)] st σ Q ↔ sl_Go xs N 40 34 [a0, a1, a2, a3, a4, some (.inl x)] (.inl x :: st) σ Q := gk_iload rfl rfl
theorem g40_34 {L : sl_L} {j : Int32} {r : sl_R} : sl_Go xs N 40 34 L (.inl j :: .inr (.inr r) :: st) σ Q ↔ (0 ≤ j.toInt ∧ j.toInt < sl_ilen N r) ∧ sl_Go xs N 40 35 L (.inl (sl_rd xs σ r j.toNatClampNeg) :: st) σ Q := gk_iald rfl
theorem g40_35 {L : sl_L} {o : sl_R} {x0 : Int32} {x1 : Int32} : sl_Go xs N 40 35 L (.inl x1 :: .inl x0 :: .inr (.inr o) :: st) σ Q ↔ sl_cw st ≤ 8 ∧ sl_Go xs N 46 0 [some (.inr (.inr o)), some (.inl x0), some (.inl x1)] [] σ (fun r τ => sl_Go xs N 40 38 L (r.toList ++ st) τ Q) := gk_call rfl (Nat.le_add_left 3 st.length) rfl rfl rfl
theorem g40_38n {x : Int32} {a0 a1 a2 a3 : Option sl_V} : sl_Go xs N 40 38 [a0, a1, a2, a3, none, some (.inl x)] st σ Q ↔ sl_Go xs N 40 41 [a0, a1, a2, a3, none, some (.inl (x + 1))] st σ Q := gk_iinc rfl rfl rfl rfl
theorem g40_38i {x : Int32} {z : Int32} {a0 a1 a2 a3 : Option sl_V} : sl_Go xs N 40 38 [a0, a1, a2, a3, some (.inl z), some (.inl x)] st σ Q ↔ sl_Go xs N 40 41 [a0, a1, a2, a3, some (.inl z), some (.inl (x + 1))] st σ Q := gk_iinc rfl rfl rfl rfl
theorem g40_38r {x : Int32} {z : sl_R} {a0 a1 a2 a3 : Option sl_V} : sl_Go xs N 40 38 [a0, a1, a2, a3, some (.inr (.inr z)), some (.inl x)] st σ Q ↔ sl_Go xs N 40 41 [a0, a1, a2, a3, some (.inr (.inr z)), some (.inl (x + 1))] st σ Q := gk_iinc rfl rfl rfl rfl
theorem g40_41 {L : sl_L} : sl_Go xs N 40 41 L st σ Q ↔ sl_Go xs N 40 12 L st σ Q := gk_goto rfl
theorem g40_44n {x : Int32} {a0 a1 a2 a5 : Option sl_V} : sl_Go xs N 40 44 [a0, a1, a2, none, some (.inl x), a5] st σ Q ↔ sl_Go xs N 40 47 [a0, a1, a2, none, some (.inl (x + 1)), a5] st σ Q := gk_iinc rfl rfl rfl rfl
theorem g40_44i {x : Int32} {z : Int32} {a0 a1 a2 a5 : Option sl_V} : sl_Go xs N 40 44 [a0, a1, a2, some (.inl z), some (.inl x), a5] st σ Q ↔ sl_Go xs N 40 47 [a0, a1, a2, some (.inl z), some (.inl (x + 1)), a5] st σ Q := gk_iinc rfl rfl rfl rfl
theorem g40_44r {x : Int32} {z : sl_R} {a0 a1 a2 a5 : Option sl_V} : sl_Go xs N 40 44 [a0, a1, a2, some (.inr (.inr z)), some (.inl x), a5] st σ Q ↔ sl_Go xs N 40 47 [a0, a1, a2, some (.inr (.inr z)), some (.inl (x + 1)), a5] st σ Q := gk_iinc rfl rfl rfl rfl
theorem g40_47 {L : sl_L} : sl_Go xs N 40 47 L st σ Q ↔ sl_Go xs N 40 3 L st σ Q := gk_goto rfl
theorem g40_50 {L : sl_L} : sl_Go xs N 40 50 L [] σ Q ↔ Q none σ := gk_vret rfl
theorem g41_0 {x : sl_R} {a1 a2 a3 a4 a5 : Option sl_V} : sl_Go xs N 41 0 [some (.inr (.inr x)), a1, a2, a3, a4, a5] st σ Q ↔ sl_Go xs N 41 1 [some (.inr (.inr x)), a1, a2, a3, a4, a5] (.inr (.inr x) :: st) σ Q := gk_aload rfl rfl
theorem g41_1 {L : sl_L} {i t : Nat} : sl_Go xs N 41 1 L (.inr (.inr (20, i, t)) :: st) σ Q ↔ sl_Go xs N 41 4 L (.inr (.inr (21, 0, 0)) :: st) σ Q := gk_get (g := .inr (21, 0, 0)) rfl rfl rfl
theorem g41_4 {x : sl_R} {a1 a2 a3 a4 a5 : Option sl_V} : sl_Go xs N 41 4 [some (.inr (.inr x)), a1, a2, a3, a4, a5] st σ Q ↔ sl_Go xs N 41 5 [some (.inr (.inr x)), a1, a2, a3, a4, a5] (.inr (.inr x) :: st) σ Q := gk_aload rfl rfl
theorem g41_5 {L : sl_L} {i t : Nat} : sl_Go xs N 41 5 L (.inr (.inr (20, i, t)) :: st) σ Q ↔ sl_Go xs N 41 8 L (.inl (σ 7 0 4) :: st) σ Q := gk_get (g := .inl (7, 0, 4)) rfl rfl rfl
theorem g41_8 {L : sl_L} {j : Int32} {r : sl_R} : sl_Go xs N 41 8 L (.inl j :: .inr (.inr r) :: st) σ Q ↔ (0 ≤ j.toInt ∧ j.toInt < sl_wlen r 1) ∧ sl_Go xs N 41 9 L (.inl (sl_rd xs σ r j.toNatClampNeg) :: st) σ Q := gk_bald rfl
theorem g41_9n {x : Int32} {a0 a1 a3 a4 a5 : Option sl_V} : sl_Go xs N 41 9 [a0, a1, none, a3, a4, a5] (.inl x :: st) σ Q ↔ sl_Go xs N 41 10 [a0, a1, none, some (.inl x), a4, a5] st σ Q := gk_istore rfl ⟨Nat.le_of_ble_eq_true rfl, rfl⟩ rfl
theorem g41_9i {x : Int32} {z : Int32} {a0 a1 a3 a4 a5 : Option sl_V} : sl_Go xs N 41 9 [a0, a1, some (.inl z), a3, a4, a5] (.inl x :: st) σ Q ↔ sl_Go xs N 41 10 [a0, a1, some (.inl z), some (.inl x), a4, a5] st σ Q := gk_istore rfl ⟨Nat.le_of_ble_eq_true rfl, rfl⟩ rfl
theorem g41_9r {x : Int32} {z : sl_R} {a0 a1 a3 a4 a5 : Option sl_V} : sl_Go xs N 41 9 [a0, a1, some (.inr (.inr z)), a3, a4, a5] (.inl x :: st) σ Q ↔ sl_Go xs N 41 10 [a0, a1, some (.inr (.inr z)), some (.inl x), a4, a5] st σ Q := gk_istore rfl ⟨Nat.le_of_ble_eq_true rfl, rfl⟩ rfl
theorem g41_10 {x : Int32} {a0 a1 a2 a4 a5 : Option sl_V} : sl_Go xs N 41 10 [a0, a1, a2, some (.inl x), a4, a5] st σ Q ↔ sl_Go xs N 41 11 [a0, a1, a2, some (.inl x), a4, a5] (.inl x :: st) σ Q := gk_iload rfl rfl
theorem g41_11 {L : sl_L} : sl_Go xs N 41 11 L st σ Q ↔ sl_Go xs N 41 13 L (.inl 115 :: st) σ Q := gk_const rfl
theorem g41_13 {L : sl_L} {x y : Int32} : sl_Go xs N 41 13 L (.inl y :: .inl x :: st) σ Q ↔ (x = y → sl_Go xs N 41 28 L st σ Q) ∧ (¬ x = y → sl_Go xs N 41 16 L st σ Q) := gk_ieq rfl
theorem g41_16 {x : Int32} {a0 a1 a2 a4 a5 : Option sl_V} : sl_Go xs N 41 16 [a0, a1, a2, some (.inl x), a4, a5] st σ Q ↔ sl_Go xs N 41 17 [a0, a1, a2, some (.inl x), a4, a5] (.inl x :: st) σ Q := gk_iload rfl rfl
theorem g41_17 {L : sl_L} : sl_Go xs N 41 17 L st σ Q ↔ sl_Go xs N 41 19 L (.inl 108 :: st) σ Q := gk_const rfl
theorem g41_19 {L : sl_L} {x y : Int32} : sl_Go xs N 41 19 L (.inl y :: .inl x :: st) σ Q ↔ (x = y → sl_Go xs N 41 28 L st σ Q) ∧ (¬ x = y → sl_Go xs N 41 22 L st σ Q) := gk_ieq rfl
theorem g41_22 {x : Int32} {a0 a1 a2 a4 a5 : Option sl_V} : sl_Go xs N 41 22 [a0, a1, a2, some (.inl x), a4, a5] st σ Q ↔ sl_Go xs N 41 23 [a0, a1, a2, some (.inl x), a4, a5] (.inl x :: st) σ Q := gk_iload rfl rfl
theorem g41_23 {L : sl_L} : sl_Go xs N 41 23 L st σ Q ↔ sl_Go xs N 41 25 L (.inl 114 :: st) σ Q := gk_const rfl
theorem g41_25 {L : sl_L} {x y : Int32} : sl_Go xs N 41 25 L (.inl y :: .inl x :: st) σ Q ↔ (¬ x = y → sl_Go xs N 41 39 L st σ Q) ∧ (x = y → sl_Go xs N 41 28 L st σ Q) := gk_ine rfl
theorem g41_28 {x : Int32} {a0 a1 a3 a4 a5 : Option sl_V} : sl_Go xs N 41 28 [a0, a1, some (.inl x), a3, a4, a5] st σ Q ↔ sl_Go xs N 41 29 [a0, a1, some (.inl x), a3, a4, a5] (.inl x :: st) σ Q := gk_iload rfl rfl
theorem g41_29 {L : sl_L} {x : Int32} : sl_Go xs N 41 29 L (.inl x :: st) σ Q ↔ (x = 0 → sl_Go xs N 41 48 L st σ Q) ∧ (¬ x = 0 → sl_Go xs N 41 32 L st σ Q) := gk_zeq rfl
theorem g41_32 {x : sl_R} {a0 a2 a3 a4 a5 : Option sl_V} : sl_Go xs N 41 32 [a0, some (.inr (.inr x)), a2, a3, a4, a5] st σ Q ↔ sl_Go xs N 41 33 [a0, some (.inr (.inr x)), a2, a3, a4, a5] (.inr (.inr x) :: st) σ Q := gk_aload rfl rfl
theorem g41_33 {L : sl_L} {o : sl_R} : sl_Go xs N 41 33 L (.inr (.inr o) :: st) σ Q ↔ sl_cw st ≤ 8 ∧ sl_Go xs N 45 0 [some (.inr (.inr o))] [] σ (fun r τ => sl_Go xs N 41 36 L (r.toList ++ st) τ Q) := gk_call rfl (Nat.le_add_left 1 st.length) rfl rfl rfl
theorem g41_36 {L : sl_L} {x : Int32} : sl_Go xs N 41 36 L (.inl x :: st) σ Q ↔ (x = 0 → sl_Go xs N 41 48 L st σ Q) ∧ (¬ x = 0 → sl_Go xs N 41 39 L st σ Q) := gk_zeq rfl
theorem g41_39 {x : sl_R} {a1 a2 a3 a4 a5 : Option sl_V} : sl_Go xs N 41 39 [some (.inr (.inr x)), a1, a2, a3, a4, a5] st σ Q ↔ sl_Go xs N 41 40 [some (.inr (.inr x)), a1, a2, a3, a4, a5] (.inr (.inr x) :: st) σ Q := gk_aload rfl rfl
theorem g41_40 {x : sl_R} {a1 a2 a3 a4 a5 : Option sl_V} : sl_Go xs N 41 40 [some (.inr (.inr x)), a1, a2, a3, a4, a5] st σ Q ↔ sl_Go xs N 41 41 [some (.inr (.inr x)), a1, a2, a3, a4, a5] (.inr (.inr x) :: st) σ Q := gk_aload rfl rfl
theorem g41_41 {L : sl_L} {i t : Nat} : sl_Go xs N 41 41 L (.inr (.inr (20, i, t)) :: st) σ Q ↔ sl_Go xs N 41 44 L (.inl (σ 7 0 4) :: st) σ Q := gk_get (g := .inl (7, 0, 4)) rfl rfl rfl
theorem g41_44 {L : sl_L} {x : Int32} {i t : Nat} : sl_Go xs N 41 44 L (.inl x :: .inr (.inr (20, i, t)) :: st) σ Q ↔ sl_Go xs N 41 47 L st (sl_up σ 7 0 5 x) Q := gk_put0 (q := (7, 0, 5)) rfl rfl rfl
theorem g41_47 {L : sl_L} : sl_Go xs N 41 47 L [] σ Q ↔ Q none σ := gk_vret rfl
theorem g41_48 {x : sl_R} {a1 a2 a3 a4 a5 : Option sl_V} : sl_Go xs N 41 48 [some (.inr (.inr x)), a1, a2, a3, a4, a5] st σ Q ↔ sl_Go xs N 41 49 [some (.inr (.inr x)), a1, a2, a3, a4, a5] (.inr (.inr x) :: st) σ Q := gk_aload rfl rfl
theorem g41_49i {L : sl_L} {x : Int32} : sl_Go xs N 41 49 L (.inl x :: st) σ Q ↔ sl_Go xs N 41 50 L (.inl x :: .inl x :: st) σ Q := gk_dupi rfl
theorem g41_49r {L : sl_L} {x : sl_R} : sl_Go xs N 41 49 L (.inr (.inr x) :: st) σ Q ↔ sl_Go xs N 41 50 L (.inr (.inr x) :: .inr (.inr x) :: st) σ Q := gk_dupr rfl
theorem g41_50 {L : sl_L} {i t : Nat} : sl_Go xs N 41 50 L (.inr (.inr (20, i, t)) :: st) σ Q ↔ sl_Go xs N 41 53 L (.inl (σ 7 0 4) :: st) σ Q := gk_get (g := .inl (7, 0, 4)) rfl rfl rfl
theorem g41_53 {L : sl_L} : sl_Go xs N 41 53 L st σ Q ↔ sl_Go xs N 41 54 L (.inl 1 :: st) σ Q := gk_const rfl
theorem g41_54 {L : sl_L} {x y : Int32} : sl_Go xs N 41 54 L (.inl y :: .inl x :: st) σ Q ↔ sl_Go xs N 41 55 L (.inl (x + y) :: st) σ Q := gk_bin (b := 8) rfl
theorem g41_55 {L : sl_L} {x : Int32} {i t : Nat} : sl_Go xs N 41 55 L (.inl x :: .inr (.inr (20, i, t)) :: st) σ Q ↔ sl_Go xs N 41 58 L st (sl_up σ 7 0 4 x) Q := gk_put0 (q := (7, 0, 4)) rfl rfl rfl
theorem g41_58 {x : sl_R} {a1 a2 a3 a4 a5 : Option sl_V} : sl_Go xs N 41 58 [some (.inr (.inr x)), a1, a2, a3, a4, a5] st σ Q ↔ sl_Go xs N 41 59 [some (.inr (.inr x)), a1, a2, a3, a4, a5] (.inr (.inr x) :: st) σ Q := gk_aload rfl rfl
theorem g41_59 {L : sl_L} {o : sl_R} : sl_Go xs N 41 59 L (.inr (.inr o) :: st) σ Q ↔ sl_cw st ≤ 8 ∧ sl_Go xs N 42 0 [some (.inr (.inr o)), none, none] [] σ (fun r τ => sl_Go xs N 41 62 L (r.toList ++ st) τ Q) := gk_call rfl (Nat.le_add_left 1 st.length) rfl rfl rfl
theorem g41_62n {x : Int32} {a0 a1 a2 a4 a5 : Option sl_V} : sl_Go xs N 41 62 [a0, a1, a2, none, a4, a5] (.inl x :: st) σ Q ↔ sl_Go xs N 41 64 [a0, a1, a2, none, some (.inl x), a5] st σ Q := gk_istore rfl ⟨Nat.le_of_ble_eq_true rfl, rfl⟩ rfl
theorem g41_62i {x : Int32} {z : Int32} {a0 a1 a2 a4 a5 : Option sl_V} : sl_Go xs N 41 62 [a0, a1, a2, some (.inl z), a4, a5] (.inl x :: st) σ Q ↔ sl_Go xs N 41 64 [a0, a1, a2, some (.inl z), some (.inl x), a5] st σ Q := gk_istore rfl ⟨Nat.le_of_ble_eq_true rfl, rfl⟩ rfl
theorem g41_62r {x : Int32} {z : sl_R} {a0 a1 a2 a4 a5 : Option sl_V} : sl_Go xs N 41 62 [a0, a1, a2, some (.inr (.inr z)), a4, a5] (.inl x :: st) σ Q ↔ sl_Go xs N 41 64 [a0, a1, a2, some (.inr (.inr z)), some (.inl x), a5] st σ Q := gk_istore rfl ⟨Nat.le_of_ble_eq_true rfl, rfl⟩ rfl
theorem g41_64 {L : sl_L} : sl_Go xs N 41 64 L st σ Q ↔ sl_Go xs N 41 65 L (.inl 0 :: st) σ Q := gk_const rfl
theorem g41_65n {x : Int32} {a0 a1 a2 a3 a5 : Option sl_V} : sl_Go xs N 41 65 [a0, a1, a2, a3, none, a5] (.inl x :: st) σ Q ↔ sl_Go xs N 41 67 [a0, a1, a2, a3, none, some (.inl x)] st σ Q := gk_istore rfl ⟨Nat.le_of_ble_eq_true rfl, rfl⟩ rfl
theorem g41_65i {x : Int32} {z : Int32} {a0 a1 a2 a3 a5 : Option sl_V} : sl_Go xs N 41 65 [a0, a1, a2, a3, some (.inl z), a5] (.inl x :: st) σ Q ↔ sl_Go xs N 41 67 [a0, a1, a2, a3, some (.inl z), some (.inl x)] st σ Q := gk_istore rfl ⟨Nat.le_of_ble_eq_true rfl, rfl⟩ rfl
theorem g41_65r {x : Int32} {z : sl_R} {a0 a1 a2 a3 a5 : Option sl_V} : sl_Go xs N 41 65 [a0, a1, a2, a3, some (.inr (.inr z)), a5] (.inl x :: st) σ Q ↔ sl_Go xs N 41 67 [a0, a1, a2, a3, some (.inr (.inr z)), some (.inl x)] st σ Q := gk_istore rfl ⟨Nat.le_of_ble_eq_true rfl, rfl⟩ rfl
theorem g41_67 {x : Int32} {a0 a1 a2 a4 a5 : Option sl_V} : sl_Go xs N 41 67 [a0, a1, a2, some (.inl x), a4, a5] st σ Q ↔ sl_Go xs N 41 68 [a0, a1, a2, some (.inl x), a4, a5] (.inl x :: st) σ Q := gk_iload rfl rfl
theorem g41_68 {L : sl_L} : sl_Go xs N 41 68 L st σ Q ↔ sl_Go xs N 41 70 L (.inl 115 :: st) σ Q := gk_const rfl
theorem g41_70 {L : sl_L} {x y : Int32} : sl_Go xs N 41 70 L (.inl y :: .inl x :: st) σ Q ↔ (x = y → sl_Go xs N 41 90 L st σ Q) ∧ (¬ x = y → sl_Go xs N 41 73 L st σ Q) := gk_ieq rfl
theorem g41_73 {x : sl_R} {a1 a2 a3 a4 a5 : Option sl_V} : sl_Go xs N 41 73 [some (.inr (.inr x)), a1, a2, a3, a4, a5] st σ Q ↔ sl_Go xs N 41 74 [some (.inr (.inr x)), a1, a2, a3, a4, a5] (.inr (.inr x) :: st) σ Q := gk_aload rfl rfl
theorem g41_74 {L : sl_L} : sl_Go xs N 41 74 L st σ Q ↔ sl_Go xs N 41 76 L (.inl 120 :: st) σ Q := gk_const rfl
theorem g41_76 {L : sl_L} {o : sl_R} {x0 : Int32} : sl_Go xs N 41 76 L (.inl x0 :: .inr (.inr o) :: st) σ Q ↔ sl_cw st ≤ 8 ∧ sl_Go xs N 43 0 [some (.inr (.inr o)), some (.inl x0)] [] σ (fun r τ => sl_Go xs N 41 79 L (r.toList ++ st) τ Q) := gk_call rfl (Nat.le_add_left 2 st.length) rfl rfl rfl
theorem g41_79 {x : sl_R} {a1 a2 a3 a4 a5 : Option sl_V} : sl_Go xs N 41 79 [some (.inr (.inr x)), a1, a2, a3, a4, a5] st σ Q ↔ sl_Go xs N 41 80 [some (.inr (.inr x)), a1, a2, a3, a4, a5] (.inr (.inr x) :: st) σ Q := gk_aload rfl rfl
theorem g41_80 {L : sl_L} {o : sl_R} : sl_Go xs N 41 80 L (.inr (.inr o) :: st) σ Q ↔ sl_cw st ≤ 8 ∧ sl_Go xs N 42 0 [some (.inr (.inr o)), none, none] [] σ (fun r τ => sl_Go xs N 41 83 L (r.toList ++ st) τ Q) := gk_call rfl (Nat.le_add_left 1 st.length) rfl rfl rfl
theorem g41_83 {L : sl_L} : sl_Go xs N 41 83 L st σ Q ↔ sl_Go xs N 41 85 L (.inl 50 :: st) σ Q := gk_const rfl
theorem g41_85 {L : sl_L} {x0 : Int32} {x1 : Int32} : sl_Go xs N 41 85 L (.inl x1 :: .inl x0 :: st) σ Q ↔ sl_cw st ≤ 8 ∧ sl_Go xs N 162 0 [some (.inl x0), some (.inl x1)] [] σ (fun r τ => sl_Go xs N 41 88 L (r.toList ++ st) τ Q) := gk_call rfl (Nat.le_add_left 2 st.length) rfl rfl rfl
theorem g41_88n {x : Int32} {a0 a1 a2 a3 a5 : Option sl_V} : sl_Go xs N 41 88 [a0, a1, a2, a3, none, a5] (.inl x :: st) σ Q ↔ sl_Go xs N 41 90 [a0, a1, a2, a3, none, some (.inl x)] st σ Q := gk_istore rfl ⟨Nat.le_of_ble_eq_true rfl, rfl⟩ rfl
theorem g41_88i {x : Int32} {z : Int32} {a0 a1 a2 a3 a5 : Option sl_V} : sl_Go xs N 41 88 [a0, a1, a2, a3, some (.inl z), a5] (.inl x :: st) σ Q ↔ sl_Go xs N 41 90 [a0, a1, a2, a3, some (.inl z), some (.inl x)] st σ Q := gk_istore rfl ⟨Nat.le_of_ble_eq_true rfl, rfl⟩ rfl
theorem g41_88r {x : Int32} {z : sl_R} {a0 a1 a2 a3 a5 : Option sl_V} : sl_Go xs N 41 88 [a0, a1, a2, a3, some (.inr (.inr z)), a5] (.inl x :: st) σ Q ↔ sl_Go xs N 41 90 [a0, a1, a2, a3, some (.inr (.inr z)), some (.inl x)] st σ Q := gk_istore rfl ⟨Nat.le_of_ble_eq_true rfl, rfl⟩ rfl
theorem g41_90 {x : sl_R} {a1 a2 a3 a4 a5 : Option sl_V} : sl_Go xs N 41 90 [some (.inr (.inr x)), a1, a2, a3, a4, a5] st σ Q ↔ sl_Go xs N 41 91 [some (.inr (.inr x)), a1, a2, a3, a4, a5] (.inr (.inr x) :: st) σ Q := gk_aload rfl rfl
theorem g41_91 {L : sl_L} : sl_Go xs N 41 91 L st σ Q ↔ sl_Go xs N 41 93 L (.inl 59 :: st) σ Q := gk_const rfl
theorem g41_93 {L : sl_L} {o : sl_R} {x0 : Int32} : sl_Go xs N 41 93 L (.inl x0 :: .inr (.inr o) :: st) σ Q ↔ sl_cw st ≤ 8 ∧ sl_Go xs N 43 0 [some (.inr (.inr o)), some (.inl x0)] [] σ (fun r τ => sl_Go xs N 41 96 L (r.toList ++ st) τ Q) := gk_call rfl (Nat.le_add_left 2 st.length) rfl rfl rfl
theorem g41_96 {x : Int32} {a0 a1 a3 a4 a5 : Option sl_V} : sl_Go xs N 41 96 [a0, a1, some (.inl x), a3, a4, a5] st σ Q ↔ sl_Go xs N 41 97 [a0, a1, some (.inl x), a3, a4, a5] (.inl x :: st) σ Q := gk_iload rfl rfl
theorem g41_97 {L : sl_L} {x : Int32} : sl_Go xs N 41 97 L (.inl x :: st) σ Q ↔ (x = 0 → sl_Go xs N 41 128 L st σ Q) ∧ (¬ x = 0 → sl_Go xs N 41 100 L st σ Q) := gk_zeq rfl
theorem g41_100 {x : sl_R} {a1 a2 a3 a4 a5 : Option sl_V} : sl_Go xs N 41 100 [some (.inr (.inr x)), a1, a2, a3, a4, a5] st σ Q ↔ sl_Go xs N 41 101 [some (.inr (.inr x)), a1, a2, a3, a4, a5] (.inr (.inr x) :: st) σ Q := gk_aload rfl rfl
theorem g41_101 {L : sl_L} {i t : Nat} : sl_Go xs N 41 101 L (.inr (.inr (20, i, t)) :: st) σ Q ↔ sl_Go xs N 41 104 L (.inl (σ 7 0 5) :: st) σ Q := gk_get (g := .inl (7, 0, 5)) rfl rfl rfl
theorem g41_104 {L : sl_L} : sl_Go xs N 41 104 L st σ Q ↔ sl_Go xs N 41 105 L (.inl (-1) :: st) σ Q := gk_const rfl
theorem g41_105 {L : sl_L} {x y : Int32} : sl_Go xs N 41 105 L (.inl y :: .inl x :: st) σ Q ↔ (¬ x = y → sl_Go xs N 41 128 L st σ Q) ∧ (x = y → sl_Go xs N 41 108 L st σ Q) := gk_ine rfl
theorem g41_108 {x : sl_R} {a0 a2 a3 a4 a5 : Option sl_V} : sl_Go xs N 41 108 [a0, some (.inr (.inr x)), a2, a3, a4, a5] st σ Q ↔ sl_Go xs N 41 109 [a0, some (.inr (.inr x)), a2, a3, a4, a5] (.inr (.inr x) :: st) σ Q := gk_aload rfl rfl
theorem g41_109 {x : Int32} {a0 a1 a2 a3 a5 : Option sl_V} : sl_Go xs N 41 109 [a0, a1, a2, a3, some (.inl x), a5] st σ Q ↔ sl_Go xs N 41 111 [a0, a1, a2, a3, some (.inl x), a5] (.inl x :: st) σ Q := gk_iload rfl rfl
theorem g41_111 {x : Int32} {a0 a1 a2 a4 a5 : Option sl_V} : sl_Go xs N 41 111 [a0, a1, a2, some (.inl x), a4, a5] st σ Q ↔ sl_Go xs N 41 112 [a0, a1, a2, some (.inl x), a4, a5] (.inl x :: st) σ Q := gk_iload rfl rfl
theorem g41_112 {L : sl_L} : sl_Go xs N 41 112 L st σ Q ↔ sl_Go xs N 41 114 L (.inl 108 :: st) σ Q := gk_const rfl
theorem g41_114 {L : sl_L} {x y : Int32} : sl_Go xs N 41 114 L (.inl y :: .inl x :: st) σ Q ↔ (¬ x = y → sl_Go xs N 41 123 L st σ Q) ∧ (x = y → sl_Go xs N 41 117 L st σ Q) := gk_ine rfl
theorem g41_117 {x : Int32} {a0 a1 a2 a3 a4 : Option sl_V} : sl_Go xs N 41 117 [a0, a1, a2, a3, a4, some (.inl x)] st σ Q ↔ sl_Go xs N 41 119 [a0, a1, a2, a3, a4, some (.inl x)] (.inl x :: st) σ Q := gk_iload rfl rfl
theorem g41_119 {L : sl_L} {x : Int32} : sl_Go xs N 41 119 L (.inl x :: st) σ Q ↔ sl_Go xs N 41 120 L (.inl (-x) :: st) σ Q := gk_ineg rfl
theorem g41_120 {L : sl_L} : sl_Go xs N 41 120 L st σ Q ↔ sl_Go xs N 41 125 L st σ Q := gk_goto rfl
theorem g41_123 {x : Int32} {a0 a1 a2 a3 a4 : Option sl_V} : sl_Go xs N 41 123 [a0, a1, a2, a3, a4, some (.inl x)] st σ Q ↔ sl_Go xs N 41 125 [a0, a1, a2, a3, a4, some (.inl x)] (.inl x :: st) σ Q := gk_iload rfl rfl
theorem g41_125 {L : sl_L} {o : sl_R} {x0 : Int32} {x1 : Int32} : sl_Go xs N 41 125 L (.inl x1 :: .inl x0 :: .inr (.inr o) :: st) σ Q ↔ sl_cw st ≤ 8 ∧ sl_Go xs N 46 0 [some (.inr (.inr o)), some (.inl x0), some (.inl x1)] [] σ (fun r τ => sl_Go xs N 41 128 L (r.toList ++ st) τ Q) := gk_call rfl (Nat.le_add_left 3 st.length) rfl rfl rfl
theorem g41_128 {L : sl_L} : sl_Go xs N 41 128 L [] σ Q ↔ Q none σ := gk_vret rfl
end SLI
