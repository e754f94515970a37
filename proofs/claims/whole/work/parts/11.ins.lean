section SLI
variable {xs : Nat → Int32} {N : Nat} {st : List sl_V} {σ : sl_S} {Q : Option sl_V → sl_S → Prop}
theorem g42_0 {L : sl_L} : sl_Go xs N 42 0 L st σ Q ↔ sl_Go xs N 42 1 L (.inl 0 :: st) σ Q := gk_const rfl
theorem g42_1n {x : Int32} {a1 a2 : Option sl_V} : sl_Go xs N 42 1 [none, a1, a2] (.inl x :: st) σ Q ↔ sl_Go xs N 42 2 [none, some (.inl x), a2] st σ Q := gk_istore rfl ⟨Nat.le_of_ble_eq_true rfl, rfl⟩ rfl
theorem g42_1i {x : Int32} {z : Int32} {a1 a2 : Option sl_V} : sl_Go xs N 42 1 [some (.inl z), a1, a2] (.inl x :: st) σ Q ↔ sl_Go xs N 42 2 [some (.inl z), some (.inl x), a2] st σ Q := gk_istore rfl ⟨Nat.le_of_ble_eq_true rfl, rfl⟩ rfl
theorem g42_1r {x : Int32} {z : sl_R} {a1 a2 : Option sl_V} : sl_Go xs N 42 1 [some (.inr (.inr z)), a1, a2] (.inl x :: st) σ Q ↔ sl_Go xs N 42 2 [some (.inr (.inr z)), some (.inl x), a2] st σ Q := gk_istore rfl ⟨Nat.le_of_ble_eq_true rfl, rfl⟩ rfl
theorem g42_2 {L : sl_L} : sl_Go xs N 42 2 L st σ Q ↔ sl_Go xs N 42 3 L (.inl 0 :: st) σ Q := gk_const rfl
theorem g42_3n {x : Int32} {a0 a2 : Option sl_V} : sl_Go xs N 42 3 [a0, none, a2] (.inl x :: st) σ Q ↔ sl_Go xs N 42 4 [a0, none, some (.inl x)] st σ Q := gk_istore rfl ⟨Nat.le_of_ble_eq_true rfl, rfl⟩ rfl
theorem g42_3i {x : Int32} {z : Int32} {a0 a2 : Option sl_V} : sl_Go xs N 42 3 [a0, some (.inl z), a2] (.inl x :: st) σ Q ↔ sl_Go xs N 42 4 [a0, some (.inl z), some (.inl x)] st σ Q := gk_istore rfl ⟨Nat.le_of_ble_eq_true rfl, rfl⟩ rfl
theorem g42_3r {x : Int32} {z : sl_R} {a0 a2 : Option sl_V} : sl_Go xs N 42 3 [a0, some (.inr (.inr z)), a2] (.inl x :: st) σ Q ↔ sl_Go xs N 42 4 [a0, some (.inr (.inr z)), some (.inl x)] st σ Q := gk_istore rfl ⟨Nat.le_of_ble_eq_true rfl, rfl⟩ rfl
theorem g42_4 {x : Int32} {a0 a1 : Option sl_V} : sl_Go xs N 42 4 [a0, a1, some (.inl x)] st σ Q ↔ sl_Go xs N 42 5 [a0, a1, some (.inl x)] (.inl x :: st) σ Q := gk_iload rfl rfl
theorem g42_5 {L : sl_L} : sl_Go xs N 42 5 L st σ Q ↔ sl_Go xs N 42 6 L (.inl 2 :: st) σ Q := gk_const rfl
theorem g42_6 {L : sl_L} {x y : Int32} : sl_Go xs N 42 6 L (.inl y :: .inl x :: st) σ Q ↔ (y ≤ x → sl_Go xs N 42 65 L st σ Q) ∧ (¬ y ≤ x → sl_Go xs N 42 9 L st σ Q) := gk_ige rfl
theorem g42_9 {x : sl_R} {a1 a2 : Option sl_V} : sl_Go xs N 42 9 [some (.inr (.inr x)), a1, a2] st σ Q ↔ sl_Go xs N 42 10 [some (.inr (.inr x)), a1, a2] (.inr (.inr x) :: st) σ Q := gk_aload rfl rfl
theorem g42_10 {L : sl_L} {i t : Nat} : sl_Go xs N 42 10 L (.inr (.inr (20, i, t)) :: st) σ Q ↔ sl_cw st ≤ 8 ∧ sl_Go xs N 38 0 [some (.inr (.inr (20, i, t)))] [] σ (fun r τ => sl_Go xs N 42 13 L (r.toList ++ st) τ Q) := gk_call rfl (Nat.le_add_left 1 st.length) rfl rfl rfl rfl (Nat.le_of_ble_eq_true rfl)
theorem g42_13 {L : sl_L} {x : Int32} : sl_Go xs N 42 13 L (.inl x :: st) σ Q ↔ (x = 0 → sl_Go xs N 42 65 L st σ Q) ∧ (¬ x = 0 → sl_Go xs N 42 16 L st σ Q) := gk_zeq rfl
theorem g42_16 {x : sl_R} {a1 a2 : Option sl_V} : sl_Go xs N 42 16 [some (.inr (.inr x)), a1, a2] st σ Q ↔ sl_Go xs N 42 17 [some (.inr (.inr x)), a1, a2] (.inr (.inr x) :: st) σ Q := gk_aload rfl rfl
theorem g42_17 {L : sl_L} {i t : Nat} : sl_Go xs N 42 17 L (.inr (.inr (20, i, t)) :: st) σ Q ↔ sl_Go xs N 42 20 L (.inr (.inr (21, 0, 0)) :: st) σ Q := gk_get (g := .inr (21, 0, 0)) rfl rfl rfl
theorem g42_20 {x : sl_R} {a1 a2 : Option sl_V} : sl_Go xs N 42 20 [some (.inr (.inr x)), a1, a2] st σ Q ↔ sl_Go xs N 42 21 [some (.inr (.inr x)), a1, a2] (.inr (.inr x) :: st) σ Q := gk_aload rfl rfl
theorem g42_21 {L : sl_L} {i t : Nat} : sl_Go xs N 42 21 L (.inr (.inr (20, i, t)) :: st) σ Q ↔ sl_Go xs N 42 24 L (.inl (σ 7 0 4) :: st) σ Q := gk_get (g := .inl (7, 0, 4)) rfl rfl rfl
theorem g42_24 {L : sl_L} {j : Int32} {r : sl_R} : sl_Go xs N 42 24 L (.inl j :: .inr (.inr r) :: st) σ Q ↔ (0 ≤ j.toInt ∧ j.toInt < sl_wlen r 1) ∧ sl_Go xs N 42 25 L (.inl (sl_rd xs σ r j.toNatClampNeg) :: st) σ Q := gk_bald rfl
theorem g42_25 {L : sl_L} {x0 : Int32} : sl_Go xs N 42 25 L (.inl x0 :: st) σ Q ↔ sl_cw st ≤ 8 ∧ sl_Go xs N 44 0 [some (.inl x0)] [] σ (fun r τ => sl_Go xs N 42 28 L (r.toList ++ st) τ Q) := gk_call rfl (Nat.le_add_left 1 st.length) rfl rfl rfl rfl (Nat.le_of_ble_eq_true rfl)
theorem g42_28 {L : sl_L} {x : Int32} : sl_Go xs N 42 28 L (.inl x :: st) σ Q ↔ (x = 0 → sl_Go xs N 42 65 L st σ Q) ∧ (¬ x = 0 → sl_Go xs N 42 31 L st σ Q) := gk_zeq rfl
theorem g42_31 {x : Int32} {a0 a2 : Option sl_V} : sl_Go xs N 42 31 [a0, some (.inl x), a2] st σ Q ↔ sl_Go xs N 42 32 [a0, some (.inl x), a2] (.inl x :: st) σ Q := gk_iload rfl rfl
theorem g42_32 {L : sl_L} : sl_Go xs N 42 32 L st σ Q ↔ sl_Go xs N 42 34 L (.inl 10 :: st) σ Q := gk_const rfl
theorem g42_34 {L : sl_L} {x y : Int32} : sl_Go xs N 42 34 L (.inl y :: .inl x :: st) σ Q ↔ sl_Go xs N 42 35 L (.inl (x * y) :: st) σ Q := gk_bin (b := 10) rfl
theorem g42_35 {x : sl_R} {a1 a2 : Option sl_V} : sl_Go xs N 42 35 [some (.inr (.inr x)), a1, a2] st σ Q ↔ sl_Go xs N 42 36 [some (.inr (.inr x)), a1, a2] (.inr (.inr x) :: st) σ Q := gk_aload rfl rfl
theorem g42_36 {L : sl_L} {i t : Nat} : sl_Go xs N 42 36 L (.inr (.inr (20, i, t)) :: st) σ Q ↔ sl_Go xs N 42 39 L (.inr (.inr (21, 0, 0)) :: st) σ Q := gk_get (g := .inr (21, 0, 0)) rfl rfl rfl
theorem g42_39 {x : sl_R} {a1 a2 : Option sl_V} : sl_Go xs N 42 39 [some (.inr (.inr x)), a1, a2] st σ Q ↔ sl_Go xs N 42 40 [some (.inr (.inr x)), a1, a2] (.inr (.inr x) :: st) σ Q := gk_aload rfl rfl
theorem g42_40 {L : sl_L} {i t : Nat} : sl_Go xs N 42 40 L (.inr (.inr (20, i, t)) :: st) σ Q ↔ sl_Go xs N 42 43 L (.inl (σ 7 0 4) :: st) σ Q := gk_get (g := .inl (7, 0, 4)) rfl rfl rfl
theorem g42_43 {L : sl_L} {j : Int32} {r : sl_R} : sl_Go xs N 42 43 L (.inl j :: .inr (.inr r) :: st) σ Q ↔ (0 ≤ j.toInt ∧ j.toInt < sl_wlen r 1) ∧ sl_Go xs N 42 44 L (.inl (sl_rd xs σ r j.toNatClampNeg) :: st) σ Q := gk_bald rfl
theorem g42_44 {L : sl_L} {x y : Int32} : sl_Go xs N 42 44 L (.inl y :: .inl x :: st) σ Q ↔ sl_Go xs N 42 45 L (.inl (x + y) :: st) σ Q := gk_bin (b := 8) rfl
theorem g42_45 {L : sl_L} : sl_Go xs N 42 45 L st σ Q ↔ sl_Go xs N 42 47 L (.inl 48 :: st) σ Q := gk_const rfl
theorem g42_47 {L : sl_L} {x y : Int32} : sl_Go xs N 42 47 L (.inl y :: .inl x :: st) σ Q ↔ sl_Go xs N 42 48 L (.inl (x - y) :: st) σ Q := gk_bin (b := 9) rfl
theorem g42_48n {x : Int32} {a1 a2 : Option sl_V} : sl_Go xs N 42 48 [none, a1, a2] (.inl x :: st) σ Q ↔ sl_Go xs N 42 49 [none, some (.inl x), a2] st σ Q := gk_istore rfl ⟨Nat.le_of_ble_eq_true rfl, rfl⟩ rfl
theorem g42_48i {x : Int32} {z : Int32} {a1 a2 : Option sl_V} : sl_Go xs N 42 48 [some (.inl z), a1, a2] (.inl x :: st) σ Q ↔ sl_Go xs N 42 49 [some (.inl z), some (.inl x), a2] st σ Q := gk_istore rfl ⟨Nat.le_of_ble_eq_true rfl, rfl⟩ rfl
theorem g42_48r {x : Int32} {z : sl_R} {a1 a2 : Option sl_V} : sl_Go xs N 42 48 [some (.inr (.inr z)), a1, a2] (.inl x :: st) σ Q ↔ sl_Go xs N 42 49 [some (.inr (.inr z)), some (.inl x), a2] st σ Q := gk_istore rfl ⟨Nat.le_of_ble_eq_true rfl, rfl⟩ rfl
theorem g42_49 {x : sl_R} {a1 a2 : Option sl_V} : sl_Go xs N 42 49 [some (.inr (.inr x)), a1, a2] st σ Q ↔ sl_Go xs N 42 50 [some (.inr (.inr x)), a1, a2] (.inr (.inr x) :: st) σ Q := gk_aload rfl rfl
theorem g42_50i {L : sl_L} {x : Int32} : sl_Go xs N 42 50 L (.inl x :: st) σ Q ↔ sl_Go xs N 42 51 L (.inl x :: .inl x :: st) σ Q := gk_dupi rfl
theorem g42_50r {L : sl_L} {x : sl_R} : sl_Go xs N 42 50 L (.inr (.inr x) :: st) σ Q ↔ sl_Go xs N 42 51 L (.inr (.inr x) :: .inr (.inr x) :: st) σ Q := gk_dupr rfl
theorem g42_51 {L : sl_L} {i t : Nat} : sl_Go xs N 42 51 L (.inr (.inr (20, i, t)) :: st) σ Q ↔ sl_Go xs N 42 54 L (.inl (σ 7 0 4) :: st) σ Q := gk_get (g := .inl (7, 0, 4)) rfl rfl rfl
theorem g42_54 {L : sl_L} : sl_Go xs N 42 54 L st σ Q ↔ sl_Go xs N 42 55 L (.inl 1 :: st) σ Q := gk_const rfl
theorem g42_55 {L : sl_L} {x y : Int32} : sl_Go xs N 42 55 L (.inl y :: .inl x :: st) σ Q ↔ sl_Go xs N 42 56 L (.inl (x + y) :: st) σ Q := gk_bin (b := 8) rfl
theorem g42_56 {L : sl_L} {x : Int32} {i t : Nat} : sl_Go xs N 42 56 L (.inl x :: .inr (.inr (20, i, t)) :: st) σ Q ↔ sl_Go xs N 42 59 L st (sl_up σ 7 0 4 x) Q := gk_put0 (q := (7, 0, 4)) rfl rfl rfl
theorem g42_59n {x : Int32} {a0 : Option sl_V} : sl_Go xs N 42 59 [a0, none, some (.inl x)] st σ Q ↔ sl_Go xs N 42 62 [a0, none, some (.inl (x + 1))] st σ Q := gk_iinc rfl rfl rfl rfl
theorem g42_59i {x : Int32} {z : Int32} {a0 : Option sl_V} : sl_Go xs N 42 59 [a0, some (.inl z), some (.inl x)] st σ Q ↔ sl_Go xs N 42 62 [a0, some (.inl z), some (.inl (x + 1))] st σ Q := gk_iinc rfl rfl rfl rfl
theorem g42_59r {x : Int32} {z : sl_R} {a0 : Option sl_V} : sl_Go xs N 42 59 [a0, some (.inr (.inr z)), some (.inl x)] st σ Q ↔ sl_Go xs N 42 62 [a0, some (.inr (.inr z)), some (.inl (x + 1))] st σ Q := gk_iinc rfl rfl rfl rfl
theorem g42_62 {L : sl_L} : sl_Go xs N 42 62 L st σ Q ↔ sl_Go xs N 42 4 L st σ Q := gk_goto rfl
theorem g42_65 {x : Int32} {a0 a1 : Option sl_V} : sl_Go xs N 42 65 [a0, a1, some (.inl x)] st σ Q ↔ sl_Go xs N 42 66 [a0, a1, some (.inl x)] (.inl x :: st) σ Q := gk_iload rfl rfl
theorem g42_66 {L : sl_L} {x : Int32} : sl_Go xs N 42 66 L (.inl x :: st) σ Q ↔ (¬ x = 0 → sl_Go xs N 42 85 L st σ Q) ∧ (x = 0 → sl_Go xs N 42 69 L st σ Q) := gk_zne rfl
theorem g42_69 {x : sl_R} {a1 a2 : Option sl_V} : sl_Go xs N 42 69 [some (.inr (.inr x)), a1, a2] st σ Q ↔ sl_Go xs N 42 70 [some (.inr (.inr x)), a1, a2] (.inr (.inr x) :: st) σ Q := gk_aload rfl rfl
theorem g42_70 {L : sl_L} {i t : Nat} : sl_Go xs N 42 70 L (.inr (.inr (20, i, t)) :: st) σ Q ↔ sl_Go xs N 42 73 L (.inl (σ 7 0 5) :: st) σ Q := gk_get (g := .inl (7, 0, 5)) rfl rfl rfl
theorem g42_73 {L : sl_L} : sl_Go xs N 42 73 L st σ Q ↔ sl_Go xs N 42 74 L (.inl (-1) :: st) σ Q := gk_const rfl
theorem g42_74 {L : sl_L} {x y : Int32} : sl_Go xs N 42 74 L (.inl y :: .inl x :: st) σ Q ↔ (¬ x = y → sl_Go xs N 42 85 L st σ Q) ∧ (x = y → sl_Go xs N 42 77 L st σ Q) := gk_ine rfl
theorem g42_77 {x : sl_R} {a1 a2 : Option sl_V} : sl_Go xs N 42 77 [some (.inr (.inr x)), a1, a2] st σ Q ↔ sl_Go xs N 42 78 [some (.inr (.inr x)), a1, a2] (.inr (.inr x) :: st) σ Q := gk_aload rfl rfl
theorem g42_78 {x : sl_R} {a1 a2 : Option sl_V} : sl_Go xs N 42 78 [some (.inr (.inr x)), a1, a2] st σ Q ↔ sl_Go xs N 42 79 [some (.inr (.inr x)), a1, a2] (.inr (.inr x) :: st) σ Q := gk_aload rfl rfl
theorem g42_79 {L : sl_L} {i t : Nat} : sl_Go xs N 42 79 L (.inr (.inr (20, i, t)) :: st) σ Q ↔ sl_Go xs N 42 82 L (.inl (σ 7 0 4) :: st) σ Q := gk_get (g := .inl (7, 0, 4)) rfl rfl rfl
theorem g42_82 {L : sl_L} {x : Int32} {i t : Nat} : sl_Go xs N 42 82 L (.inl x :: .inr (.inr (20, i, t)) :: st) σ Q ↔ sl_Go xs N 42 85 L st (sl_up σ 7 0 5 x) Q := gk_put0 (q := (7, 0, 5)) rfl rfl rfl
theorem g42_85 {x : Int32} {a0 a2 : Option sl_V} : sl_Go xs N 42 85 [a0, some (.inl x), a2] st σ Q ↔ sl_Go xs N 42 86 [a0, some (.inl x), a2] (.inl x :: st) σ Q := gk_iload rfl rfl
theorem g42_86 {L : sl_L} {x : Int32} : sl_Go xs N 42 86 L [.inl x] σ Q ↔ Q (some (.inl x)) σ := gk_iret rfl
theorem g43_0 {x : sl_R} {a1 : Option sl_V} : sl_Go xs N 43 0 [some (.inr (.inr x)), a1] st σ Q ↔ sl_Go xs N 43 1 [some (.inr (.inr x)), a1] (.inr (.inr x) :: st) σ Q := gk_aload rfl rfl
theorem g43_1 {L : sl_L} {i t : Nat} : sl_Go xs N 43 1 L (.inr (.inr (20, i, t)) :: st) σ Q ↔ sl_cw st ≤ 8 ∧ sl_Go xs N 38 0 [some (.inr (.inr (20, i, t)))] [] σ (fun r τ => sl_Go xs N 43 4 L (r.toList ++ st) τ Q) := gk_call rfl (Nat.le_add_left 1 st.length) rfl rfl rfl rfl (Nat.le_of_ble_eq_true rfl)
theorem g43_4 {L : sl_L} {x : Int32} : sl_Go xs N 43 4 L (.inl x :: st) σ Q ↔ (x = 0 → sl_Go xs N 43 33 L st σ Q) ∧ (¬ x = 0 → sl_Go xs N 43 7 L st σ Q) := gk_zeq rfl
theorem g43_7 {x : sl_R} {a1 : Option sl_V} : sl_Go xs N 43 7 [some (.inr (.inr x)), a1] st σ Q ↔ sl_Go xs N 43 8 [some (.inr (.inr x)), a1] (.inr (.inr x) :: st) σ Q := gk_aload rfl rfl
theorem g43_8 {L : sl_L} {i t : Nat} : sl_Go xs N 43 8 L (.inr (.inr (20, i, t)) :: st) σ Q ↔ sl_Go xs N 43 11 L (.inr (.inr (21, 0, 0)) :: st) σ Q := gk_get (g := .inr (21, 0, 0)) rfl rfl rfl
theorem g43_11 {x : sl_R} {a1 : Option sl_V} : sl_Go xs N 43 11 [some (.inr (.inr x)), a1] st σ Q ↔ sl_Go xs N 43 12 [some (.inr (.inr x)), a1] (.inr (.inr x) :: st) σ Q := gk_aload rfl rfl
theorem g43_12 {L : sl_L} {i t : Nat} : sl_Go xs N 43 12 L (.inr (.inr (20, i, t)) :: st) σ Q ↔ sl_Go xs N 43 15 L (.inl (σ 7 0 4) :: st) σ Q := gk_get (g := .inl (7, 0, 4)) rfl rfl rfl
theorem g43_15 {L : sl_L} {j : Int32} {r : sl_R} : sl_Go xs N 43 15 L (.inl j :: .inr (.inr r) :: st) σ Q ↔ (0 ≤ j.toInt ∧ j.toInt < sl_wlen r 1) ∧ sl_Go xs N 43 16 L (.inl (sl_rd xs σ r j.toNatClampNeg) :: st) σ Q := gk_bald rfl
theorem g43_16 {x : Int32} {a0 : Option sl_V} : sl_Go xs N 43 16 [a0, some (.inl x)] st σ Q ↔ sl_Go xs N 43 17 [a0, some (.inl x)] (.inl x :: st) σ Q := gk_iload rfl rfl
theorem g43_17 {L : sl_L} {x y : Int32} : sl_Go xs N 43 17 L (.inl y :: .inl x :: st) σ Q ↔ (¬ x = y → sl_Go xs N 43 33 L st σ Q) ∧ (x = y → sl_Go xs N 43 20 L st σ Q) := gk_ine rfl
theorem g43_20 {x : sl_R} {a1 : Option sl_V} : sl_Go xs N 43 20 [some (.inr (.inr x)), a1] st σ Q ↔ sl_Go xs N 43 21 [some (.inr (.inr x)), a1] (.inr (.inr x) :: st) σ Q := gk_aload rfl rfl
theorem g43_21i {L : sl_L} {x : Int32} : sl_Go xs N 43 21 L (.inl x :: st) σ Q ↔ sl_Go xs N 43 22 L (.inl x :: .inl x :: st) σ Q := gk_dupi rfl
theorem g43_21r {L : sl_L} {x : sl_R} : sl_Go xs N 43 21 L (.inr (.inr x) :: st) σ Q ↔ sl_Go xs N 43 22 L (.inr (.inr x) :: .inr (.inr x) :: st) σ Q := gk_dupr rfl
theorem g43_22 {L : sl_L} {i t : Nat} : sl_Go xs N 43 22 L (.inr (.inr (20, i, t)) :: st) σ Q ↔ sl_Go xs N 43 25 L (.inl (σ 7 0 4) :: st) σ Q := gk_get (g := .inl (7, 0, 4)) rfl rfl rfl
theorem g43_25 {L : sl_L} : sl_Go xs N 43 25 L st σ Q ↔ sl_Go xs N 43 26 L (.inl 1 :: st) σ Q := gk_const rfl
theorem g43_26 {L : sl_L} {x y : Int32} : sl_Go xs N 43 26 L (.inl y :: .inl x :: st) σ Q ↔ sl_Go xs N 43 27 L (.inl (x + y) :: st) σ Q := gk_bin (b := 8) rfl
theorem g43_27 {L : sl_L} {x : Int32} {i t : Nat} : sl_Go xs N 43 27 L (.inl x :: .inr (.inr (20, i, t)) :: st) σ Q ↔ sl_Go xs N 43 30 L st (sl_up σ 7 0 4 x) Q := gk_put0 (q := (7, 0, 4)) rfl rfl rfl
theorem g43_30 {L : sl_L} : sl_Go xs N 43 30 L st σ Q ↔ sl_Go xs N 43 49 L st σ Q := gk_goto rfl
theorem g43_33 {x : sl_R} {a1 : Option sl_V} : sl_Go xs N 43 33 [some (.inr (.inr x)), a1] st σ Q ↔ sl_Go xs N 43 34 [some (.inr (.inr x)), a1] (.inr (.inr x) :: st) σ Q := gk_aload rfl rfl
theorem g43_34 {L : sl_L} {i t : Nat} : sl_Go xs N 43 34 L (.inr (.inr (20, i, t)) :: st) σ Q ↔ sl_Go xs N 43 37 L (.inl (σ 7 0 5) :: st) σ Q := gk_get (g := .inl (7, 0, 5)) rfl rfl rfl
theorem g43_37 {L : sl_L} : sl_Go xs N 43 37 L st σ Q ↔ sl_Go xs N 43 38 L (.inl (-1) :: st) σ Q := gk_const rfl
theorem g43_38 {L : sl_L} {x y : Int32} : sl_Go xs N 43 38 L (.inl y :: .inl x :: st) σ Q ↔ (¬ x = y → sl_Go xs N 43 49 L st σ Q) ∧ (x = y → sl_Go xs N 43 41 L st σ Q) := gk_ine rfl
theorem g43_41 {x : sl_R} {a1 : Option sl_V} : sl_Go xs N 43 41 [some (.inr (.inr x)), a1] st σ Q ↔ sl_Go xs N 43 42 [some (.inr (.inr x)), a1] (.inr (.inr x) :: st) σ Q := gk_aload rfl rfl
theorem g43_42 {x : sl_R} {a1 : Option sl_V} : sl_Go xs N 43 42 [some (.inr (.inr x)), a1] st σ Q ↔ sl_Go xs N 43 43 [some (.inr (.inr x)), a1] (.inr (.inr x) :: st) σ Q := gk_aload rfl rfl
theorem g43_43 {L : sl_L} {i t : Nat} : sl_Go xs N 43 43 L (.inr (.inr (20, i, t)) :: st) σ Q ↔ sl_Go xs N 43 46 L (.inl (σ 7 0 4) :: st) σ Q := gk_get (g := .inl (7, 0, 4)) rfl rfl rfl
theorem g43_46 {L : sl_L} {x : Int32} {i t : Nat} : sl_Go xs N 43 46 L (.inl x :: .inr (.inr (20, i, t)) :: st) σ Q ↔ sl_Go xs N 43 49 L st (sl_up σ 7 0 5 x) Q := gk_put0 (q := (7, 0, 5)) rfl rfl rfl
theorem g43_49 {L : sl_L} : sl_Go xs N 43 49 L [] σ Q ↔ Q none σ := gk_vret rfl
theorem g44_0 {x : Int32} : sl_Go xs N 44 0 [some (.inl x)] st σ Q ↔ sl_Go xs N 44 1 [some (.inl x)] (.inl x :: st) σ Q := gk_iload rfl rfl
theorem g44_1 {L : sl_L} : sl_Go xs N 44 1 L st σ Q ↔ sl_Go xs N 44 3 L (.inl 48 :: st) σ Q := gk_const rfl
theorem g44_3 {L : sl_L} {x y : Int32} : sl_Go xs N 44 3 L (.inl y :: .inl x :: st) σ Q ↔ (x < y → sl_Go xs N 44 16 L st σ Q) ∧ (¬ x < y → sl_Go xs N 44 6 L st σ Q) := gk_ilt rfl
theorem g44_6 {x : Int32} : sl_Go xs N 44 6 [some (.inl x)] st σ Q ↔ sl_Go xs N 44 7 [some (.inl x)] (.inl x :: st) σ Q := gk_iload rfl rfl
theorem g44_7 {L : sl_L} : sl_Go xs N 44 7 L st σ Q ↔ sl_Go xs N 44 9 L (.inl 57 :: st) σ Q := gk_const rfl
theorem g44_9 {L : sl_L} {x y : Int32} : sl_Go xs N 44 9 L (.inl y :: .inl x :: st) σ Q ↔ (y < x → sl_Go xs N 44 16 L st σ Q) ∧ (¬ y < x → sl_Go xs N 44 12 L st σ Q) := gk_igt rfl
theorem g44_12 {L : sl_L} : sl_Go xs N 44 12 L st σ Q ↔ sl_Go xs N 44 13 L (.inl 1 :: st) σ Q := gk_const rfl
theorem g44_13 {L : sl_L} : sl_Go xs N 44 13 L st σ Q ↔ sl_Go xs N 44 17 L st σ Q := gk_goto rfl
theorem g44_16 {L : sl_L} : sl_Go xs N 44 16 L st σ Q ↔ sl_Go xs N 44 17 L (.inl 0 :: st) σ Q := gk_const rfl
theorem g44_17 {L : sl_L} {x : Int32} : sl_Go xs N 44 17 L [.inl x] σ Q ↔ (x = 0 ∨ x = 1) ∧ Q (some (.inl x)) σ := gk_zret rfl
theorem g45_0 {x : sl_R} : sl_Go xs N 45 0 [some (.inr (.inr x))] st σ Q ↔ sl_Go xs N 45 1 [some (.inr (.inr x))] (.inr (.inr x) :: st) σ Q := gk_aload rfl rfl
theorem g45_1 {L : sl_L} {i t : Nat} : sl_Go xs N 45 1 L (.inr (.inr (17, i, t)) :: st) σ Q ↔ sl_Go xs N 45 4 L (.inl (σ 5 8 t) :: st) σ Q := gk_get (g := .inl (5, 8, t)) rfl rfl rfl
theorem g45_4 {L : sl_L} : sl_Go xs N 45 4 L st σ Q ↔ sl_Go xs N 45 6 L (.inl 12 :: st) σ Q := gk_const rfl
theorem g45_6 {L : sl_L} {x y : Int32} : sl_Go xs N 45 6 L (.inl y :: .inl x :: st) σ Q ↔ (¬ x = y → sl_Go xs N 45 13 L st σ Q) ∧ (x = y → sl_Go xs N 45 9 L st σ Q) := gk_ine rfl
theorem g45_9 {L : sl_L} : sl_Go xs N 45 9 L st σ Q ↔ sl_Go xs N 45 10 L (.inl 1 :: st) σ Q := gk_const rfl
theorem g45_10 {L : sl_L} : sl_Go xs N 45 10 L st σ Q ↔ sl_Go xs N 45 14 L st σ Q := gk_goto rfl
theorem g45_13 {L : sl_L} : sl_Go xs N 45 13 L st σ Q ↔ sl_Go xs N 45 14 L (.inl 0 :: st) σ Q := gk_const rfl
theorem g45_14 {L : sl_L} {x : Int32} : sl_Go xs N 45 14 L [.inl x] σ Q ↔ (x = 0 ∨ x = 1) ∧ Q (some (.inl x)) σ := gk_zret rfl
theorem g46_0 {x : sl_R} {a1 a2 : Option sl_V} : sl_Go xs N 46 0 [some (.inr (.inr x)), a1, a2] st σ Q ↔ sl_Go xs N 46 1 [some (.inr (.inr x)), a1, a2] (.inr (.inr x) :: st) σ Q := gk_aload rfl rfl
theorem g46_1 {L : sl_L} {i t : Nat} : sl_Go xs N 46 1 L (.inr (.inr (17, i, t)) :: st) σ Q ↔ sl_cw st ≤ 8 ∧ sl_Go xs N 45 0 [some (.inr (.inr (17, i, t)))] [] σ (fun r τ => sl_Go xs N 46 4 L (r.toList ++ st) τ Q) := gk_call rfl (Nat.le_add_left 1 st.length) rfl rfl rfl rfl (Nat.le_of_ble_eq_true rfl)
theorem g46_4 {L : sl_L} {x : Int32} : sl_Go xs N 46 4 L (.inl x :: st) σ Q ↔ (¬ x = 0 → sl_Go xs N 46 37 L st σ Q) ∧ (x = 0 → sl_Go xs N 46 7 L st σ Q) := gk_zne rfl
theorem g46_7 {x : sl_R} {a1 a2 : Option sl_V} : sl_Go xs N 46 7 [some (.inr (.inr x)), a1, a2] st σ Q ↔ sl_Go xs N 46 8 [some (.inr (.inr x)), a1, a2] (.inr (.inr x) :: st) σ Q := gk_aload rfl rfl
theorem g46_8 {L : sl_L} {i t : Nat} : sl_Go xs N 46 8 L (.inr (.inr (17, i, t)) :: st) σ Q ↔ sl_Go xs N 46 11 L (.inr (.inr (18, 0, t)) :: st) σ Q := gk_get (g := .inr (18, 0, t)) rfl rfl rfl
theorem g46_11 {x : sl_R} {a1 a2 : Option sl_V} : sl_Go xs N 46 11 [some (.inr (.inr x)), a1, a2] st σ Q ↔ sl_Go xs N 46 12 [some (.inr (.inr x)), a1, a2] (.inr (.inr x) :: st) σ Q := gk_aload rfl rfl
theorem g46_12 {L : sl_L} {i t : Nat} : sl_Go xs N 46 12 L (.inr (.inr (17, i, t)) :: st) σ Q ↔ sl_Go xs N 46 15 L (.inl (σ 5 8 t) :: st) σ Q := gk_get (g := .inl (5, 8, t)) rfl rfl rfl
theorem g46_15 {x : Int32} {a0 a2 : Option sl_V} : sl_Go xs N 46 15 [a0, some (.inl x), a2] st σ Q ↔ sl_Go xs N 46 16 [a0, some (.inl x), a2] (.inl x :: st) σ Q := gk_iload rfl rfl
theorem g46_16 {L : sl_L} {j x : Int32} {r : sl_R} : sl_Go xs N 46 16 L (.inl x :: .inl j :: .inr (.inr r) :: st) σ Q ↔ (0 ≤ j.toInt ∧ j.toInt < sl_wlen r 0) ∧ sl_Go xs N 46 17 L st (sl_wr σ r j.toNatClampNeg x) Q := gk_iast rfl
theorem g46_17 {x : sl_R} {a1 a2 : Option sl_V} : sl_Go xs N 46 17 [some (.inr (.inr x)), a1, a2] st σ Q ↔ sl_Go xs N 46 18 [some (.inr (.inr x)), a1, a2] (.inr (.inr x) :: st) σ Q := gk_aload rfl rfl
theorem g46_18 {L : sl_L} {i t : Nat} : sl_Go xs N 46 18 L (.inr (.inr (17, i, t)) :: st) σ Q ↔ sl_Go xs N 46 21 L (.inr (.inr (19, 0, t)) :: st) σ Q := gk_get (g := .inr (19, 0, t)) rfl rfl rfl
theorem g46_21 {x : sl_R} {a1 a2 : Option sl_V} : sl_Go xs N 46 21 [some (.inr (.inr x)), a1, a2] st σ Q ↔ sl_Go xs N 46 22 [some (.inr (.inr x)), a1, a2] (.inr (.inr x) :: st) σ Q := gk_aload rfl rfl
theorem g46_22 {L : sl_L} {i t : Nat} : sl_Go xs N 46 22 L (.inr (.inr (17, i, t)) :: st) σ Q ↔ sl_Go xs N 46 25 L (.inl (σ 5 8 t) :: st) σ Q := gk_get (g := .inl (5, 8, t)) rfl rfl rfl
theorem g46_25 {x : Int32} {a0 a1 : Option sl_V} : sl_Go xs N 46 25 [a0, a1, some (.inl x)] st σ Q ↔ sl_Go xs N 46 26 [a0, a1, some (.inl x)] (.inl x :: st) σ Q := gk_iload rfl rfl
theorem g46_26 {L : sl_L} {j x : Int32} {r : sl_R} : sl_Go xs N 46 26 L (.inl x :: .inl j :: .inr (.inr r) :: st) σ Q ↔ (0 ≤ j.toInt ∧ j.toInt < sl_wlen r 0) ∧ sl_Go xs N 46 27 L st (sl_wr σ r j.toNatClampNeg x) Q := gk_iast rfl
theorem g46_27 {x : sl_R} {a1 a2 : Option sl_V} : sl_Go xs N 46 27 [some (.inr (.inr x)), a1, a2] st σ Q ↔ sl_Go xs N 46 28 [some (.inr (.inr x)), a1, a2] (.inr (.inr x) :: st) σ Q := gk_aload rfl rfl
theorem g46_28i {L : sl_L} {x : Int32} : sl_Go xs N 46 28 L (.inl x :: st) σ Q ↔ sl_Go xs N 46 29 L (.inl x :: .inl x :: st) σ Q := gk_dupi rfl
theorem g46_28r {L : sl_L} {x : sl_R} : sl_Go xs N 46 28 L (.inr (.inr x) :: st) σ Q ↔ sl_Go xs N 46 29 L (.inr (.inr x) :: .inr (.inr x) :: st) σ Q := gk_dupr rfl
theorem g46_29 {L : sl_L} {i t : Nat} : sl_Go xs N 46 29 L (.inr (.inr (17, i, t)) :: st) σ Q ↔ sl_Go xs N 46 32 L (.inl (σ 5 8 t) :: st) σ Q := gk_get (g := .inl (5, 8, t)) rfl rfl rfl
theorem g46_32 {L : sl_L} : sl_Go xs N 46 32 L st σ Q ↔ sl_Go xs N 46 33 L (.inl 1 :: st) σ Q := gk_const rfl
theorem g46_33 {L : sl_L} {x y : Int32} : sl_Go xs N 46 33 L (.inl y :: .inl x :: st) σ Q ↔ sl_Go xs N 46 34 L (.inl (x + y) :: st) σ Q := gk_bin (b := 8) rfl
theorem g46_34 {L : sl_L} {x : Int32} {i t : Nat} : sl_Go xs N 46 34 L (.inl x :: .inr (.inr (17, i, t)) :: st) σ Q ↔ sl_Go xs N 46 37 L st (sl_up σ 5 8 t x) Q := gk_put0 (q := (5, 8, t)) rfl rfl rfl
theorem g46_37 {L : sl_L} : sl_Go xs N 46 37 L [] σ Q ↔ Q none σ := gk_vret rfl
theorem g47_0 {x : sl_R} {a1 a2 a3 a4 : Option sl_V} : sl_Go xs N 47 0 [some (.inr (.inr x)), a1, a2, a3, a4] st σ Q ↔ sl_Go xs N 47 1 [some (.inr (.inr x)), a1, a2, a3, a4] (.inr (.inr x) :: st) σ Q := gk_aload rfl rfl
theorem g47_1 {L : sl_L} {i t : Nat} : sl_Go xs N 47 1 L (.inr (.inr (0, i, t)) :: st) σ Q ↔ sl_Go xs N 47 4 L (.inr (.inr (11, 0, 0)) :: st) σ Q := gk_get (g := .inr (11, 0, 0)) rfl rfl rfl
theorem g47_4 {x : Int32} {a0 a2 a3 a4 : Option sl_V} : sl_Go xs N 47 4 [a0, some (.inl x), a2, a3, a4] st σ Q ↔ sl_Go xs N 47 5 [a0, some (.inl x), a2, a3, a4] (.inl x :: st) σ Q := gk_iload rfl rfl
theorem g47_5 {x : Int32} {a0 a1 a3 a4 : Option sl_V} : sl_Go xs N 47 5 [a0, a1, some (.inl x), a3, a4] st σ Q ↔ sl_Go xs N 47 6 [a0, a1, some (.inl x), a3, a4] (.inl x :: st) σ Q := gk_iload rfl rfl
theorem g47_6 {x : Int32} {a0 a1 a2 a4 : Option sl_V} : sl_Go xs N 47 6 [a0, a1, a2, some (.inl x), a4] st σ Q ↔ sl_Go xs N 47 7 [a0, a1, a2, some (.inl x), a4] (.inl x :: st) σ Q := gk_iload rfl rfl
theorem g47_7 {x : Int32} {a0 a1 a2 a3 : Option sl_V} : sl_Go xs N 47 7 [a0, a1, a2, a3, some (.inl x)] st σ Q ↔ sl_Go xs N 47 9 [a0, a1, a2, a3, some (.inl x)] (.inl x :: st) σ Q := gk_iload rfl rfl
theorem g47_9 {L : sl_L} {x0 : Int32} {x1 : Int32} {x2 : Int32} {x3 : Int32} {i t : Nat} : sl_Go xs N 47 9 L (.inl x3 :: .inl x2 :: .inl x1 :: .inl x0 :: .inr (.inr (11, i, t)) :: st) σ Q ↔ sl_cw st ≤ 8 ∧ sl_Go xs N 26 0 [some (.inr (.inr (11, i, t))), some (.inl x0), some (.inl x1), some (.inl x2), some (.inl x3), none] [] σ (fun r τ => sl_Go xs N 47 12 L (r.toList ++ st) τ Q) := gk_call rfl (Nat.le_add_left 5 st.length) rfl rfl rfl rfl (Nat.le_of_ble_eq_true rfl)
theorem g47_12 {L : sl_L} {x : Int32} : sl_Go xs N 47 12 L [.inl x] σ Q ↔ Q (some (.inl x)) σ := gk_iret rfl
theorem g48_0 {x : sl_R} {a1 a2 a3 a4 a5 a6 : Option sl_V} : sl_Go xs N 48 0 [some (.inr (.inr x)), a1, a2, a3, a4, a5, a6] st σ Q ↔ sl_Go xs N 48 1 [some (.inr (.inr x)), a1, a2, a3, a4, a5, a6] (.inr (.inr x) :: st) σ Q := gk_aload rfl rfl
theorem g48_1 {L : sl_L} {i t : Nat} : sl_Go xs N 48 1 L (.inr (.inr (0, i, t)) :: st) σ Q ↔ sl_Go xs N 48 4 L (.inr (.inr (11, 0, 0)) :: st) σ Q := gk_get (g := .inr (11, 0, 0)) rfl rfl rfl
theorem g48_4 {x : Int32} {a0 a2 a3 a4 a5 a6 : Option sl_V} : sl_Go xs N 48 4 [a0, some (.inl x), a2, a3, a4, a5, a6] st σ Q ↔ sl_Go xs N 48 5 [a0, some (.inl x), a2, a3, a4, a5, a6] (.inl x :: st) σ Q := gk_iload rfl rfl
theorem g48_5 {L : sl_L} {x0 : Int32} {i t : Nat} : sl_Go xs N 48 5 L (.inl x0 :: .inr (.inr (11, i, t)) :: st) σ Q ↔ sl_cw st ≤ 8 ∧ sl_Go xs N 23 0 [some (.inr (.inr (11, i, t))), some (.inl x0)] [] σ (fun r τ => sl_Go xs N 48 8 L (r.toList ++ st) τ Q) := gk_call rfl (Nat.le_add_left 2 st.length) rfl rfl rfl rfl (Nat.le_of_ble_eq_true rfl)
theorem g48_8 {L : sl_L} {x : Int32} : sl_Go xs N 48 8 L (.inl x :: st) σ Q ↔ (¬ x = 0 → sl_Go xs N 48 13 L st σ Q) ∧ (x = 0 → sl_Go xs N 48 11 L st σ Q) := gk_zne rfl
theorem g48_11 {L : sl_L} : sl_Go xs N 48 11 L st σ Q ↔ sl_Go xs N 48 12 L (.inl (-1) :: st) σ Q := gk_const rfl
theorem g48_12 {L : sl_L} {x : Int32} : sl_Go xs N 48 12 L [.inl x] σ Q ↔ Q (some (.inl x)) σ := gk_iret rfl
theorem g48_13 {x : sl_R} {a1 a2 a3 a4 a5 a6 : Option sl_V} : sl_Go xs N 48 13 [some (.inr (.inr x)), a1, a2, a3, a4, a5, a6] st σ Q ↔ sl_Go xs N 48 14 [some (.inr (.inr x)), a1, a2, a3, a4, a5, a6] (.inr (.inr x) :: st) σ Q := gk_aload rfl rfl
theorem g48_14 {L : sl_L} {i t : Nat} : sl_Go xs N 48 14 L (.inr (.inr (0, i, t)) :: st) σ Q ↔ sl_Go xs N 48 17 L (.inr (.inr (11, 0, 0)) :: st) σ Q := gk_get (g := .inr (11, 0, 0)) rfl rfl rfl
theorem g48_17 {L : sl_L} {i t : Nat} : sl_Go xs N 48 17 L (.inr (.inr (11, i, t)) :: st) σ Q ↔ sl_Go xs N 48 20 L (.inr (.inr (12, 0, 0)) :: st) σ Q := gk_get (g := .inr (12, 0, 0)) rfl rfl rfl
theorem g48_20 {x : Int32} {a0 a2 a3 a4 a5 a6 : Option sl_V} : sl_Go xs N 48 20 [a0, some (.inl x), a2, a3, a4, a5, a6] st σ Q ↔ sl_Go xs N 48 21 [a0, some (.inl x), a2, a3, a4, a5, a6] (.inl x :: st) σ Q := gk_iload rfl rfl
theorem g48_21 {L : sl_L} {j : Int32} {r : sl_R} : sl_Go xs N 48 21 L (.inl j :: .inr (.inr r) :: st) σ Q ↔ (0 ≤ j.toInt ∧ j.toInt < sl_rlen r) ∧ sl_Go xs N 48 22 L (.inr (.inr (sl_rg r j.toNatClampNeg)) :: st) σ Q := gk_aald rfl
theorem g48_22n {x : sl_R} {a0 a1 a2 a4 a5 a6 : Option sl_V} : sl_Go xs N 48 22 [a0, a1, a2, none, a4, a5, a6] (.inr (.inr x) :: st) σ Q ↔ sl_Go xs N 48 24 [a0, a1, a2, none, some (.inr (.inr x)), a5, a6] st σ Q := gk_astore rfl ⟨Nat.le_of_ble_eq_true rfl, rfl⟩ rfl
theorem g48_22i {x : sl_R} {z : Int32} {a0 a1 a2 a4 a5 a6 : Option sl_V} : sl_Go xs N 48 22 [a0, a1, a2, some (.inl z), a4, a5, a6] (.inr (.inr x) :: st) σ Q ↔ sl_Go xs N 48 24 [a0, a1, a2, some (.inl z), some (.inr (.inr x)), a5, a6] st σ Q := gk_astore rfl ⟨Nat.le_of_ble_eq_true rfl, rfl⟩ rfl
theorem g48_22r {x : sl_R} {z : sl_R} {a0 a1 a2 a4 a5 a6 : Option sl_V} : sl_Go xs N 48 22 [a0, a1, a2, some (.inr (.inr z)), a4, a5, a6] (.inr (.inr x) :: st) σ Q ↔ sl_Go xs N 48 24 [a0, a1, a2, some (.inr (.inr z)), some (.inr (.inr x)), a5, a6] st σ Q := gk_astore rfl ⟨Nat.le_of_ble_eq_true rfl, rfl⟩ rfl
theorem g48_24 {x : sl_R} {a0 a1 a2 a3 a5 a6 : Option sl_V} : sl_Go xs N 48 24 [a0, a1, a2, a3, some (.inr (.inr x)), a5, a6] st σ Q ↔ sl_Go xs N 48 26 [a0, a1, a2, a3, some (.inr (.inr x)), a5, a6] (.inr (.inr x) :: st) σ Q := gk_aload rfl rfl
theorem g48_26 {x : Int32} {a0 a1 a3 a4 a5 a6 : Option sl_V} : sl_Go xs N 48 26 [a0, a1, some (.inl x), a3, a4, a5, a6] st σ Q ↔ sl_Go xs N 48 27 [a0, a1, some (.inl x), a3, a4, a5, a6] (.inl x :: st) σ Q := gk_iload rfl rfl
theorem g48_27 {L : sl_L} {x0 : Int32} {i t : Nat} : sl_Go xs N 48 27 L (.inl x0 :: .inr (.inr (13, i, t)) :: st) σ Q ↔ sl_cw st ≤ 8 ∧ sl_Go xs N 34 0 [some (.inr (.inr (13, i, t))), some (.inl x0)] [] σ (fun r τ => sl_Go xs N 48 30 L (r.toList ++ st) τ Q) := gk_call rfl (Nat.le_add_left 2 st.length) rfl rfl rfl rfl (Nat.le_of_ble_eq_true rfl)
theorem g48_30 {L : sl_L} {x : Int32} : sl_Go xs N 48 30 L (.inl x :: st) σ Q ↔ (x = 0 → sl_Go xs N 48 40 L st σ Q) ∧ (¬ x = 0 → sl_Go xs N 48 33 L st σ Q) := gk_zeq rfl
theorem g48_33 {x : Int32} {a0 a1 a2 a4 a5 a6 : Option sl_V} : sl_Go xs N 48 33 [a0, a1, a2, some (.inl x), a4, a5, a6] st σ Q ↔ sl_Go xs N 48 34 [a0, a1, a2, some (.inl x), a4, a5, a6] (.inl x :: st) σ Q := gk_iload rfl rfl
theorem g48_34 {L : sl_L} {x0 : Int32} : sl_Go xs N 48 34 L (.inl x0 :: st) σ Q ↔ sl_cw st ≤ 8 ∧ sl_Go xs N 82 0 [some (.inl x0)] [] σ (fun r τ => sl_Go xs N 48 37 L (r.toList ++ st) τ Q) := gk_call rfl (Nat.le_add_left 1 st.length) rfl rfl rfl rfl (Nat.le_of_ble_eq_true rfl)
theorem g48_37 {L : sl_L} {x : Int32} : sl_Go xs N 48 37 L (.inl x :: st) σ Q ↔ (¬ x = 0 → sl_Go xs N 48 43 L st σ Q) ∧ (x = 0 → sl_Go xs N 48 40 L st σ Q) := gk_zne rfl
theorem g48_40 {L : sl_L} : sl_Go xs N 48 40 L st σ Q ↔ sl_Go xs N 48 42 L (.inl (-2) :: st) σ Q := gk_const rfl
theorem g48_42 {L : sl_L} {x : Int32} : sl_Go xs N 48 42 L [.inl x] σ Q ↔ Q (some (.inl x)) σ := gk_iret rfl
theorem g48_43 {L : sl_L} : sl_Go xs N 48 43 L st σ Q ↔ sl_Go xs N 48 44 L (.inl 1 :: st) σ Q := gk_const rfl
theorem g48_44 {x : Int32} {a0 a1 a3 a4 a5 a6 : Option sl_V} : sl_Go xs N 48 44 [a0, a1, some (.inl x), a3, a4, a5, a6] st σ Q ↔ sl_Go xs N 48 45 [a0, a1, some (.inl x), a3, a4, a5, a6] (.inl x :: st) σ Q := gk_iload rfl rfl
theorem g48_45 {L : sl_L} {x y : Int32} : sl_Go xs N 48 45 L (.inl y :: .inl x :: st) σ Q ↔ sl_Go xs N 48 46 L (.inl (x <<< (y &&& 31)) :: st) σ Q := gk_bin (b := 14) rfl
theorem g48_46n {x : Int32} {a0 a1 a2 a3 a5 a6 : Option sl_V} : sl_Go xs N 48 46 [a0, a1, a2, a3, none, a5, a6] (.inl x :: st) σ Q ↔ sl_Go xs N 48 48 [a0, a1, a2, a3, none, some (.inl x), a6] st σ Q := gk_istore rfl ⟨Nat.le_of_ble_eq_true rfl, rfl⟩ rfl
theorem g48_46i {x : Int32} {z : Int32} {a0 a1 a2 a3 a5 a6 : Option sl_V} : sl_Go xs N 48 46 [a0, a1, a2, a3, some (.inl z), a5, a6] (.inl x :: st) σ Q ↔ sl_Go xs N 48 48 [a0, a1, a2, a3, some (.inl z), some (.inl x), a6] st σ Q := gk_istore rfl ⟨Nat.le_of_ble_eq_true rfl, rfl⟩ rfl
theorem g48_46r {x : Int32} {z : sl_R} {a0 a1 a2 a3 a5 a6 : Option sl_V} : sl_Go xs N 48 46 [a0, a1, a2, a3, some (.inr (.inr z)), a5, a6] (.inl x :: st) σ Q ↔ sl_Go xs N 48 48 [a0, a1, a2, a3, some (.inr (.inr z)), some (.inl x), a6] st σ Q := gk_istore rfl ⟨Nat.le_of_ble_eq_true rfl, rfl⟩ rfl
theorem g48_48 {x : sl_R} {a0 a1 a2 a3 a5 a6 : Option sl_V} : sl_Go xs N 48 48 [a0, a1, a2, a3, some (.inr (.inr x)), a5, a6] st σ Q ↔ sl_Go xs N 48 50 [a0, a1, a2, a3, some (.inr (.inr x)), a5, a6] (.inr (.inr x) :: st) σ Q := gk_aload rfl rfl
theorem g48_50 {L : sl_L} {i t : Nat} : sl_Go xs N 48 50 L (.inr (.inr (13, i, t)) :: st) σ Q ↔ sl_Go xs N 48 53 L (.inl (σ 5 5 t) :: st) σ Q := gk_get (g := .inl (5, 5, t)) rfl rfl rfl
theorem g48_53 {x : Int32} {a0 a1 a2 a3 a4 a6 : Option sl_V} : sl_Go xs N 48 53 [a0, a1, a2, a3, a4, some (.inl x), a6] st σ Q ↔ sl_Go xs N 48 55 [a0, a1, a2, a3, a4, some (.inl x), a6] (.inl x :: st) σ Q := gk_iload rfl rfl
theorem g48_55 {L : sl_L} {x y : Int32} : sl_Go xs N 48 55 L (.inl y :: .inl x :: st) σ Q ↔ sl_Go xs N 48 56 L (.inl (x &&& y) :: st) σ Q := gk_bin (b := 11) rfl
theorem g48_56 {L : sl_L} {x : Int32} : sl_Go xs N 48 56 L (.inl x :: st) σ Q ↔ (x = 0 → sl_Go xs N 48 63 L st σ Q) ∧ (¬ x = 0 → sl_Go xs N 48 59 L st σ Q) := gk_zeq rfl
theorem g48_59 {L : sl_L} : sl_Go xs N 48 59 L st σ Q ↔ sl_Go xs N 48 60 L (.inl 1 :: st) σ Q := gk_const rfl
theorem g48_60 {L : sl_L} : sl_Go xs N 48 60 L st σ Q ↔ sl_Go xs N 48 64 L st σ Q := gk_goto rfl
theorem g48_63 {L : sl_L} : sl_Go xs N 48 63 L st σ Q ↔ sl_Go xs N 48 64 L (.inl 0 :: st) σ Q := gk_const rfl
theorem g48_64n {x : Int32} {a0 a1 a2 a3 a4 a6 : Option sl_V} : sl_Go xs N 48 64 [a0, a1, a2, a3, a4, none, a6] (.inl x :: st) σ Q ↔ sl_Go xs N 48 66 [a0, a1, a2, a3, a4, none, some (.inl x)] st σ Q := gk_istore rfl ⟨Nat.le_of_ble_eq_true rfl, rfl⟩ rfl
theorem g48_64i {x : Int32} {z : Int32} {a0 a1 a2 a3 a4 a6 : Option sl_V} : sl_Go xs N 48 64 [a0, a1, a2, a3, a4, some (.inl z), a6] (.inl x :: st) σ Q ↔ sl_Go xs N 48 66 [a0, a1, a2, a3, a4, some (.inl z), some (.inl x)] st σ Q := gk_istore rfl ⟨Nat.le_of_ble_eq_true rfl, rfl⟩ rfl
theorem g48_64r {x : Int32} {z : sl_R} {a0 a1 a2 a3 a4 a6 : Option sl_V} : sl_Go xs N 48 64 [a0, a1, a2, a3, a4, some (.inr (.inr z)), a6] (.inl x :: st) σ Q ↔ sl_Go xs N 48 66 [a0, a1, a2, a3, a4, some (.inr (.inr z)), some (.inl x)] st σ Q := gk_istore rfl ⟨Nat.le_of_ble_eq_true rfl, rfl⟩ rfl
theorem g48_66 {x : sl_R} {a0 a1 a2 a3 a5 a6 : Option sl_V} : sl_Go xs N 48 66 [a0, a1, a2, a3, some (.inr (.inr x)), a5, a6] st σ Q ↔ sl_Go xs N 48 68 [a0, a1, a2, a3, some (.inr (.inr x)), a5, a6] (.inr (.inr x) :: st) σ Q := gk_aload rfl rfl
theorem g48_68 {x : Int32} {a0 a1 a2 a4 a5 a6 : Option sl_V} : sl_Go xs N 48 68 [a0, a1, a2, some (.inl x), a4, a5, a6] st σ Q ↔ sl_Go xs N 48 69 [a0, a1, a2, some (.inl x), a4, a5, a6] (.inl x :: st) σ Q := gk_iload rfl rfl
theorem g48_69 {L : sl_L} : sl_Go xs N 48 69 L st σ Q ↔ sl_Go xs N 48 70 L (.inl 1 :: st) σ Q := gk_const rfl
theorem g48_70 {L : sl_L} {x y : Int32} : sl_Go xs N 48 70 L (.inl y :: .inl x :: st) σ Q ↔ (¬ x = y → sl_Go xs N 48 84 L st σ Q) ∧ (x = y → sl_Go xs N 48 73 L st σ Q) := gk_ine rfl
theorem g48_73 {x : sl_R} {a0 a1 a2 a3 a5 a6 : Option sl_V} : sl_Go xs N 48 73 [a0, a1, a2, a3, some (.inr (.inr x)), a5, a6] st σ Q ↔ sl_Go xs N 48 75 [a0, a1, a2, a3, some (.inr (.inr x)), a5, a6] (.inr (.inr x) :: st) σ Q := gk_aload rfl rfl
theorem g48_75 {L : sl_L} {i t : Nat} : sl_Go xs N 48 75 L (.inr (.inr (13, i, t)) :: st) σ Q ↔ sl_Go xs N 48 78 L (.inl (σ 5 5 t) :: st) σ Q := gk_get (g := .inl (5, 5, t)) rfl rfl rfl
theorem g48_78 {x : Int32} {a0 a1 a2 a3 a4 a6 : Option sl_V} : sl_Go xs N 48 78 [a0, a1, a2, a3, a4, some (.inl x), a6] st σ Q ↔ sl_Go xs N 48 80 [a0, a1, a2, a3, a4, some (.inl x), a6] (.inl x :: st) σ Q := gk_iload rfl rfl
theorem g48_80 {L : sl_L} {x y : Int32} : sl_Go xs N 48 80 L (.inl y :: .inl x :: st) σ Q ↔ sl_Go xs N 48 81 L (.inl (x ||| y) :: st) σ Q := gk_bin (b := 12) rfl
theorem g48_81 {L : sl_L} : sl_Go xs N 48 81 L st σ Q ↔ sl_Go xs N 48 94 L st σ Q := gk_goto rfl
theorem g48_84 {x : sl_R} {a0 a1 a2 a3 a5 a6 : Option sl_V} : sl_Go xs N 48 84 [a0, a1, a2, a3, some (.inr (.inr x)), a5, a6] st σ Q ↔ sl_Go xs N 48 86 [a0, a1, a2, a3, some (.inr (.inr x)), a5, a6] (.inr (.inr x) :: st) σ Q := gk_aload rfl rfl
theorem g48_86 {L : sl_L} {i t : Nat} : sl_Go xs N 48 86 L (.inr (.inr (13, i, t)) :: st) σ Q ↔ sl_Go xs N 48 89 L (.inl (σ 5 5 t) :: st) σ Q := gk_get (g := .inl (5, 5, t)) rfl rfl rfl
theorem g48_89 {x : Int32} {a0 a1 a2 a3 a4 a6 : Option sl_V} : sl_Go xs N 48 89 [a0, a1, a2, a3, a4, some (.inl x), a6] st σ Q ↔ sl_Go xs N 48 91 [a0, a1, a2, a3, a4, some (.inl x), a6] (.inl x :: st) σ Q := gk_iload rfl rfl
theorem g48_91 {L : sl_L} : sl_Go xs N 48 91 L st σ Q ↔ sl_Go xs N 48 92 L (.inl (-1) :: st) σ Q := gk_const rfl
theorem g48_92 {L : sl_L} {x y : Int32} : sl_Go xs N 48 92 L (.inl y :: .inl x :: st) σ Q ↔ sl_Go xs N 48 93 L (.inl (x ^^^ y) :: st) σ Q := gk_bin (b := 13) rfl
theorem g48_93 {L : sl_L} {x y : Int32} : sl_Go xs N 48 93 L (.inl y :: .inl x :: st) σ Q ↔ sl_Go xs N 48 94 L (.inl (x &&& y) :: st) σ Q := gk_bin (b := 11) rfl
theorem g48_94 {L : sl_L} {x : Int32} {i t : Nat} : sl_Go xs N 48 94 L (.inl x :: .inr (.inr (13, i, t)) :: st) σ Q ↔ sl_Go xs N 48 97 L st (sl_up σ 5 5 t x) Q := gk_put0 (q := (5, 5, t)) rfl rfl rfl
theorem g48_97 {x : Int32} {a0 a1 a2 a3 a4 a5 : Option sl_V} : sl_Go xs N 48 97 [a0, a1, a2, a3, a4, a5, some (.inl x)] st σ Q ↔ sl_Go xs N 48 99 [a0, a1, a2, a3, a4, a5, some (.inl x)] (.inl x :: st) σ Q := gk_iload rfl rfl
theorem g48_99 {L : sl_L} {x : Int32} : sl_Go xs N 48 99 L [.inl x] σ Q ↔ Q (some (.inl x)) σ := gk_iret rfl
theorem g49_0 {x : sl_R} {a1 a2 a3 : Option sl_V} : sl_Go xs N 49 0 [some (.inr (.inr x)), a1, a2, a3] st σ Q ↔ sl_Go xs N 49 1 [some (.inr (.inr x)), a1, a2, a3] (.inr (.inr x) :: st) σ Q := gk_aload rfl rfl
theorem g49_1 {L : sl_L} {i t : Nat} : sl_Go xs N 49 1 L (.inr (.inr (0, i, t)) :: st) σ Q ↔ sl_Go xs N 49 4 L (.inr (.inr (11, 0, 0)) :: st) σ Q := gk_get (g := .inr (11, 0, 0)) rfl rfl rfl
theorem g49_4 {x : Int32} {a0 a2 a3 : Option sl_V} : sl_Go xs N 49 4 [a0, some (.inl x), a2, a3] st σ Q ↔ sl_Go xs N 49 5 [a0, some (.inl x), a2, a3] (.inl x :: st) σ Q := gk_iload rfl rfl
theorem g49_5 {L : sl_L} {x0 : Int32} {i t : Nat} : sl_Go xs N 49 5 L (.inl x0 :: .inr (.inr (11, i, t)) :: st) σ Q ↔ sl_cw st ≤ 8 ∧ sl_Go xs N 23 0 [some (.inr (.inr (11, i, t))), some (.inl x0)] [] σ (fun r τ => sl_Go xs N 49 8 L (r.toList ++ st) τ Q) := gk_call rfl (Nat.le_add_left 2 st.length) rfl rfl rfl rfl (Nat.le_of_ble_eq_true rfl)
theorem g49_8 {L : sl_L} {x : Int32} : sl_Go xs N 49 8 L (.inl x :: st) σ Q ↔ (¬ x = 0 → sl_Go xs N 49 13 L st σ Q) ∧ (x = 0 → sl_Go xs N 49 11 L st σ Q) := gk_zne rfl
theorem g49_11 {L : sl_L} : sl_Go xs N 49 11 L st σ Q ↔ sl_Go xs N 49 12 L (.inl (-1) :: st) σ Q := gk_const rfl
theorem g49_12 {L : sl_L} {x : Int32} : sl_Go xs N 49 12 L [.inl x] σ Q ↔ Q (some (.inl x)) σ := gk_iret rfl
theorem g49_13 {x : Int32} {a0 a1 a3 : Option sl_V} : sl_Go xs N 49 13 [a0, a1, some (.inl x), a3] st σ Q ↔ sl_Go xs N 49 14 [a0, a1, some (.inl x), a3] (.inl x :: st) σ Q := gk_iload rfl rfl
theorem g49_14 {L : sl_L} : sl_Go xs N 49 14 L st σ Q ↔ sl_Go xs N 49 15 L (.inl 0 :: st) σ Q := gk_const rfl
theorem g49_15 {x : sl_R} {a1 a2 a3 : Option sl_V} : sl_Go xs N 49 15 [some (.inr (.inr x)), a1, a2, a3] st σ Q ↔ sl_Go xs N 49 16 [some (.inr (.inr x)), a1, a2, a3] (.inr (.inr x) :: st) σ Q := gk_aload rfl rfl
theorem g49_16 {L : sl_L} {i t : Nat} : sl_Go xs N 49 16 L (.inr (.inr (0, i, t)) :: st) σ Q ↔ sl_Go xs N 49 19 L (.inr (.inr (11, 0, 0)) :: st) σ Q := gk_get (g := .inr (11, 0, 0)) rfl rfl rfl
theorem g49_19 {L : sl_L} {i t : Nat} : sl_Go xs N 49 19 L (.inr (.inr (11, i, t)) :: st) σ Q ↔ sl_Go xs N 49 22 L (.inr (.inr (12, 0, 0)) :: st) σ Q := gk_get (g := .inr (12, 0, 0)) rfl rfl rfl
theorem g49_22 {x : Int32} {a0 a2 a3 : Option sl_V} : sl_Go xs N 49 22 [a0, some (.inl x), a2, a3] st σ Q ↔ sl_Go xs N 49 23 [a0, some (.inl x), a2, a3] (.inl x :: st) σ Q := gk_iload rfl rfl
theorem g49_23 {L : sl_L} {j : Int32} {r : sl_R} : sl_Go xs N 49 23 L (.inl j :: .inr (.inr r) :: st) σ Q ↔ (0 ≤ j.toInt ∧ j.toInt < sl_rlen r) ∧ sl_Go xs N 49 24 L (.inr (.inr (sl_rg r j.toNatClampNeg)) :: st) σ Q := gk_aald rfl
theorem g49_24 {L : sl_L} {i t : Nat} : sl_Go xs N 49 24 L (.inr (.inr (13, i, t)) :: st) σ Q ↔ sl_cw st ≤ 8 ∧ sl_Go xs N 32 0 [some (.inr (.inr (13, i, t)))] [] σ (fun r τ => sl_Go xs N 49 27 L (r.toList ++ st) τ Q) := gk_call rfl (Nat.le_add_left 1 st.length) rfl rfl rfl rfl (Nat.le_of_ble_eq_true rfl)
theorem g49_27 {L : sl_L} {x0 : Int32} {x1 : Int32} {x2 : Int32} : sl_Go xs N 49 27 L (.inl x2 :: .inl x1 :: .inl x0 :: st) σ Q ↔ sl_cw st ≤ 8 ∧ sl_Go xs N 81 0 [some (.inl x0), some (.inl x1), some (.inl x2)] [] σ (fun r τ => sl_Go xs N 49 30 L (r.toList ++ st) τ Q) := gk_call rfl (Nat.le_add_left 3 st.length) rfl rfl rfl rfl (Nat.le_of_ble_eq_true rfl)
theorem g49_30 {L : sl_L} {x : Int32} : sl_Go xs N 49 30 L (.inl x :: st) σ Q ↔ (¬ x = 0 → sl_Go xs N 49 36 L st σ Q) ∧ (x = 0 → sl_Go xs N 49 33 L st σ Q) := gk_zne rfl
theorem g49_33 {L : sl_L} : sl_Go xs N 49 33 L st σ Q ↔ sl_Go xs N 49 35 L (.inl (-2) :: st) σ Q := gk_const rfl
theorem g49_35 {L : sl_L} {x : Int32} : sl_Go xs N 49 35 L [.inl x] σ Q ↔ Q (some (.inl x)) σ := gk_iret rfl
theorem g49_36 {x : sl_R} {a1 a2 a3 : Option sl_V} : sl_Go xs N 49 36 [some (.inr (.inr x)), a1, a2, a3] st σ Q ↔ sl_Go xs N 49 37 [some (.inr (.inr x)), a1, a2, a3] (.inr (.inr x) :: st) σ Q := gk_aload rfl rfl
theorem g49_37 {L : sl_L} {i t : Nat} : sl_Go xs N 49 37 L (.inr (.inr (0, i, t)) :: st) σ Q ↔ sl_Go xs N 49 40 L (.inr (.inr (1, 1, 0)) :: st) σ Q := gk_get (g := .inr (1, 1, 0)) rfl rfl rfl
theorem g49_40 {x : Int32} {a0 a2 a3 : Option sl_V} : sl_Go xs N 49 40 [a0, some (.inl x), a2, a3] st σ Q ↔ sl_Go xs N 49 41 [a0, some (.inl x), a2, a3] (.inl x :: st) σ Q := gk_iload rfl rfl
theorem g49_41 {L : sl_L} {x0 : Int32} {i t : Nat} : sl_Go xs N 49 41 L (.inl x0 :: .inr (.inr (1, i, t)) :: st) σ Q ↔ sl_cw st ≤ 8 ∧ sl_Go xs N 11 0 [some (.inr (.inr (1, i, t))), some (.inl x0), none, none] [] σ (fun r τ => sl_Go xs N 49 44 L (r.toList ++ st) τ Q) := gk_call rfl (Nat.le_add_left 2 st.length) rfl rfl rfl rfl (Nat.le_of_ble_eq_true rfl)
theorem g49_44n {x : Int32} {a0 a1 a3 : Option sl_V} : sl_Go xs N 49 44 [a0, a1, none, a3] (.inl x :: st) σ Q ↔ sl_Go xs N 49 45 [a0, a1, none, some (.inl x)] st σ Q := gk_istore rfl ⟨Nat.le_of_ble_eq_true rfl, rfl⟩ rfl
theorem g49_44i {x : Int32} {z : Int32} {a0 a1 a3 : Option sl_V} : sl_Go xs N 49 44 [a0, a1, some (.inl z), a3] (.inl x :: st) σ Q ↔ sl_Go xs N 49 45 [a0, a1, some (.inl z), some (.inl x)] st σ Q := gk_istore rfl ⟨Nat.le_of_ble_eq_true rfl, rfl⟩ rfl
theorem g49_44r {x : Int32} {z : sl_R} {a0 a1 a3 : Option sl_V} : sl_Go xs N 49 44 [a0, a1, some (.inr (.inr z)), a3] (.inl x :: st) σ Q ↔ sl_Go xs N 49 45 [a0, a1, some (.inr (.inr z)), some (.inl x)] st σ Q := gk_istore rfl ⟨Nat.le_of_ble_eq_true rfl, rfl⟩ rfl
theorem g49_45 {x : sl_R} {a1 a2 a3 : Option sl_V} : sl_Go xs N 49 45 [some (.inr (.inr x)), a1, a2, a3] st σ Q ↔ sl_Go xs N 49 46 [some (.inr (.inr x)), a1, a2, a3] (.inr (.inr x) :: st) σ Q := gk_aload rfl rfl
theorem g49_46 {L : sl_L} {i t : Nat} : sl_Go xs N 49 46 L (.inr (.inr (0, i, t)) :: st) σ Q ↔ sl_Go xs N 49 49 L (.inr (.inr (1, 1, 0)) :: st) σ Q := gk_get (g := .inr (1, 1, 0)) rfl rfl rfl
theorem g49_49 {L : sl_L} {i t : Nat} : sl_Go xs N 49 49 L (.inr (.inr (1, i, t)) :: st) σ Q ↔ sl_Go xs N 49 52 L (.inr (.inr (6, i, 0)) :: st) σ Q := gk_get (g := .inr (6, i, 0)) rfl rfl rfl
theorem g49_52 {x : Int32} {a0 a2 a3 : Option sl_V} : sl_Go xs N 49 52 [a0, some (.inl x), a2, a3] st σ Q ↔ sl_Go xs N 49 53 [a0, some (.inl x), a2, a3] (.inl x :: st) σ Q := gk_iload rfl rfl
theorem g49_53 {L : sl_L} {x : sl_R} {y : Int32} : sl_Go xs N 49 53 L (.inl y :: .inr (.inr x) :: st) σ Q ↔ sl_Go xs N 49 54 L (.inl y :: .inr (.inr x) :: .inl y :: .inr (.inr x) :: st) σ Q := gk_dup2 rfl
theorem g49_54 {L : sl_L} {j : Int32} {r : sl_R} : sl_Go xs N 49 54 L (.inl j :: .inr (.inr r) :: st) σ Q ↔ (0 ≤ j.toInt ∧ j.toInt < sl_ilen N r) ∧ sl_Go xs N 49 55 L (.inl (sl_rd xs σ r j.toNatClampNeg) :: st) σ Q := gk_iald rfl
theorem g49_55 {x : Int32} {a0 a1 a3 : Option sl_V} : sl_Go xs N 49 55 [a0, a1, some (.inl x), a3] st σ Q ↔ sl_Go xs N 49 56 [a0, a1, some (.inl x), a3] (.inl x :: st) σ Q := gk_iload rfl rfl
theorem g49_56 {x : Int32} {a0 a1 a2 : Option sl_V} : sl_Go xs N 49 56 [a0, a1, a2, some (.inl x)] st σ Q ↔ sl_Go xs N 49 57 [a0, a1, a2, some (.inl x)] (.inl x :: st) σ Q := gk_iload rfl rfl
theorem g49_57 {L : sl_L} {x y : Int32} : sl_Go xs N 49 57 L (.inl y :: .inl x :: st) σ Q ↔ sl_Go xs N 49 58 L (.inl (x - y) :: st) σ Q := gk_bin (b := 9) rfl
theorem g49_58 {L : sl_L} {x y : Int32} : sl_Go xs N 49 58 L (.inl y :: .inl x :: st) σ Q ↔ sl_Go xs N 49 59 L (.inl (x + y) :: st) σ Q := gk_bin (b := 8) rfl
theorem g49_59 {L : sl_L} {j x : Int32} {r : sl_R} : sl_Go xs N 49 59 L (.inl x :: .inl j :: .inr (.inr r) :: st) σ Q ↔ (0 ≤ j.toInt ∧ j.toInt < sl_wlen r 0) ∧ sl_Go xs N 49 60 L st (sl_wr σ r j.toNatClampNeg x) Q := gk_iast rfl
theorem g49_60 {x : sl_R} {a1 a2 a3 : Option sl_V} : sl_Go xs N 49 60 [some (.inr (.inr x)), a1, a2, a3] st σ Q ↔ sl_Go xs N 49 61 [some (.inr (.inr x)), a1, a2, a3] (.inr (.inr x) :: st) σ Q := gk_aload rfl rfl
theorem g49_61 {L : sl_L} {i t : Nat} : sl_Go xs N 49 61 L (.inr (.inr (0, i, t)) :: st) σ Q ↔ sl_Go xs N 49 64 L (.inr (.inr (1, 1, 0)) :: st) σ Q := gk_get (g := .inr (1, 1, 0)) rfl rfl rfl
theorem g49_64 {x : Int32} {a0 a2 a3 : Option sl_V} : sl_Go xs N 49 64 [a0, some (.inl x), a2, a3] st σ Q ↔ sl_Go xs N 49 65 [a0, some (.inl x), a2, a3] (.inl x :: st) σ Q := gk_iload rfl rfl
theorem g49_65 {x : Int32} {a0 a1 a3 : Option sl_V} : sl_Go xs N 49 65 [a0, a1, some (.inl x), a3] st σ Q ↔ sl_Go xs N 49 66 [a0, a1, some (.inl x), a3] (.inl x :: st) σ Q := gk_iload rfl rfl
theorem g49_66 {L : sl_L} {x0 : Int32} {x1 : Int32} {i t : Nat} : sl_Go xs N 49 66 L (.inl x1 :: .inl x0 :: .inr (.inr (1, i, t)) :: st) σ Q ↔ sl_cw st ≤ 8 ∧ sl_Go xs N 12 0 [some (.inr (.inr (1, i, t))), some (.inl x0), some (.inl x1), none, none] [] σ (fun r τ => sl_Go xs N 49 69 L (r.toList ++ st) τ Q) := gk_call rfl (Nat.le_add_left 3 st.length) rfl rfl rfl rfl (Nat.le_of_ble_eq_true rfl)
theorem g49_69 {x : Int32} {a0 a1 a2 : Option sl_V} : sl_Go xs N 49 69 [a0, a1, a2, some (.inl x)] st σ Q ↔ sl_Go xs N 49 70 [a0, a1, a2, some (.inl x)] (.inl x :: st) σ Q := gk_iload rfl rfl
theorem g49_70 {L : sl_L} {x : Int32} : sl_Go xs N 49 70 L [.inl x] σ Q ↔ Q (some (.inl x)) σ := gk_iret rfl
theorem g50_0 {x : sl_R} {a1 a2 : Option sl_V} : sl_Go xs N 50 0 [some (.inr (.inr x)), a1, a2] st σ Q ↔ sl_Go xs N 50 1 [some (.inr (.inr x)), a1, a2] (.inr (.inr x) :: st) σ Q := gk_aload rfl rfl
theorem g50_1 {L : sl_L} {i t : Nat} : sl_Go xs N 50 1 L (.inr (.inr (0, i, t)) :: st) σ Q ↔ sl_Go xs N 50 4 L (.inr (.inr (11, 0, 0)) :: st) σ Q := gk_get (g := .inr (11, 0, 0)) rfl rfl rfl
theorem g50_4 {x : Int32} {a0 a2 : Option sl_V} : sl_Go xs N 50 4 [a0, some (.inl x), a2] st σ Q ↔ sl_Go xs N 50 5 [a0, some (.inl x), a2] (.inl x :: st) σ Q := gk_iload rfl rfl
theorem g50_5 {L : sl_L} {x0 : Int32} {i t : Nat} : sl_Go xs N 50 5 L (.inl x0 :: .inr (.inr (11, i, t)) :: st) σ Q ↔ sl_cw st ≤ 8 ∧ sl_Go xs N 23 0 [some (.inr (.inr (11, i, t))), some (.inl x0)] [] σ (fun r τ => sl_Go xs N 50 8 L (r.toList ++ st) τ Q) := gk_call rfl (Nat.le_add_left 2 st.length) rfl rfl rfl rfl (Nat.le_of_ble_eq_true rfl)
theorem g50_8 {L : sl_L} {x : Int32} : sl_Go xs N 50 8 L (.inl x :: st) σ Q ↔ (¬ x = 0 → sl_Go xs N 50 13 L st σ Q) ∧ (x = 0 → sl_Go xs N 50 11 L st σ Q) := gk_zne rfl
theorem g50_11 {L : sl_L} : sl_Go xs N 50 11 L st σ Q ↔ sl_Go xs N 50 12 L (.inl (-1) :: st) σ Q := gk_const rfl
theorem g50_12 {L : sl_L} {x : Int32} : sl_Go xs N 50 12 L [.inl x] σ Q ↔ Q (some (.inl x)) σ := gk_iret rfl
theorem g50_13 {x : sl_R} {a1 a2 : Option sl_V} : sl_Go xs N 50 13 [some (.inr (.inr x)), a1, a2] st σ Q ↔ sl_Go xs N 50 14 [some (.inr (.inr x)), a1, a2] (.inr (.inr x) :: st) σ Q := gk_aload rfl rfl
theorem g50_14 {L : sl_L} {i t : Nat} : sl_Go xs N 50 14 L (.inr (.inr (0, i, t)) :: st) σ Q ↔ sl_Go xs N 50 17 L (.inr (.inr (11, 0, 0)) :: st) σ Q := gk_get (g := .inr (11, 0, 0)) rfl rfl rfl
theorem g50_17 {L : sl_L} {i t : Nat} : sl_Go xs N 50 17 L (.inr (.inr (11, i, t)) :: st) σ Q ↔ sl_Go xs N 50 20 L (.inr (.inr (12, 0, 0)) :: st) σ Q := gk_get (g := .inr (12, 0, 0)) rfl rfl rfl
theorem g50_20 {x : Int32} {a0 a2 : Option sl_V} : sl_Go xs N 50 20 [a0, some (.inl x), a2] st σ Q ↔ sl_Go xs N 50 21 [a0, some (.inl x), a2] (.inl x :: st) σ Q := gk_iload rfl rfl
theorem g50_21 {L : sl_L} {j : Int32} {r : sl_R} : sl_Go xs N 50 21 L (.inl j :: .inr (.inr r) :: st) σ Q ↔ (0 ≤ j.toInt ∧ j.toInt < sl_rlen r) ∧ sl_Go xs N 50 22 L (.inr (.inr (sl_rg r j.toNatClampNeg)) :: st) σ Q := gk_aald rfl
theorem g50_22 {x : Int32} {a0 a1 : Option sl_V} : sl_Go xs N 50 22 [a0, a1, some (.inl x)] st σ Q ↔ sl_Go xs N 50 23 [a0, a1, some (.inl x)] (.inl x :: st) σ Q := gk_iload rfl rfl
theorem g50_23 {L : sl_L} {x0 : Int32} {i t : Nat} : sl_Go xs N 50 23 L (.inl x0 :: .inr (.inr (13, i, t)) :: st) σ Q ↔ sl_cw st ≤ 8 ∧ sl_Go xs N 33 0 [some (.inr (.inr (13, i, t))), some (.inl x0)] [] σ (fun r τ => sl_Go xs N 50 26 L (r.toList ++ st) τ Q) := gk_call rfl (Nat.le_add_left 2 st.length) rfl rfl rfl rfl (Nat.le_of_ble_eq_true rfl)
theorem g50_26 {L : sl_L} {x : Int32} : sl_Go xs N 50 26 L (.inl x :: st) σ Q ↔ (¬ x = 0 → sl_Go xs N 50 32 L st σ Q) ∧ (x = 0 → sl_Go xs N 50 29 L st σ Q) := gk_zne rfl
theorem g50_29 {L : sl_L} : sl_Go xs N 50 29 L st σ Q ↔ sl_Go xs N 50 31 L (.inl (-2) :: st) σ Q := gk_const rfl
theorem g50_31 {L : sl_L} {x : Int32} : sl_Go xs N 50 31 L [.inl x] σ Q ↔ Q (some (.inl x)) σ := gk_iret rfl
theorem g50_32 {x : sl_R} {a1 a2 : Option sl_V} : sl_Go xs N 50 32 [some (.inr (.inr x)), a1, a2] st σ Q ↔ sl_Go xs N 50 33 [some (.inr (.inr x)), a1, a2] (.inr (.inr x) :: st) σ Q := gk_aload rfl rfl
theorem g50_33 {L : sl_L} {i t : Nat} : sl_Go xs N 50 33 L (.inr (.inr (0, i, t)) :: st) σ Q ↔ sl_Go xs N 50 36 L (.inr (.inr (11, 0, 0)) :: st) σ Q := gk_get (g := .inr (11, 0, 0)) rfl rfl rfl
theorem g50_36 {x : Int32} {a0 a2 : Option sl_V} : sl_Go xs N 50 36 [a0, some (.inl x), a2] st σ Q ↔ sl_Go xs N 50 37 [a0, some (.inl x), a2] (.inl x :: st) σ Q := gk_iload rfl rfl
theorem g50_37 {x : Int32} {a0 a1 : Option sl_V} : sl_Go xs N 50 37 [a0, a1, some (.inl x)] st σ Q ↔ sl_Go xs N 50 38 [a0, a1, some (.inl x)] (.inl x :: st) σ Q := gk_iload rfl rfl
theorem g50_38 {L : sl_L} {x0 : Int32} {x1 : Int32} {i t : Nat} : sl_Go xs N 50 38 L (.inl x1 :: .inl x0 :: .inr (.inr (11, i, t)) :: st) σ Q ↔ sl_cw st ≤ 8 ∧ sl_Go xs N 27 0 [some (.inr (.inr (11, i, t))), some (.inl x0), some (.inl x1)] [] σ (fun r τ => sl_Go xs N 50 41 L (r.toList ++ st) τ Q) := gk_call rfl (Nat.le_add_left 3 st.length) rfl rfl rfl rfl (Nat.le_of_ble_eq_true rfl)
theorem g50_41 {L : sl_L} {x : Int32} : sl_Go xs N 50 41 L [.inl x] σ Q ↔ Q (some (.inl x)) σ := gk_iret rfl
theorem g51_0 {x : sl_R} {a1 a2 a3 : Option sl_V} : sl_Go xs N 51 0 [some (.inr (.inr x)), a1, a2, a3] st σ Q ↔ sl_Go xs N 51 1 [some (.inr (.inr x)), a1, a2, a3] (.inr (.inr x) :: st) σ Q := gk_aload rfl rfl
theorem g51_1 {L : sl_L} {i t : Nat} : sl_Go xs N 51 1 L (.inr (.inr (0, i, t)) :: st) σ Q ↔ sl_Go xs N 51 4 L (.inr (.inr (11, 0, 0)) :: st) σ Q := gk_get (g := .inr (11, 0, 0)) rfl rfl rfl
theorem g51_4 {x : Int32} {a0 a2 a3 : Option sl_V} : sl_Go xs N 51 4 [a0, some (.inl x), a2, a3] st σ Q ↔ sl_Go xs N 51 5 [a0, some (.inl x), a2, a3] (.inl x :: st) σ Q := gk_iload rfl rfl
theorem g51_5 {L : sl_L} {x0 : Int32} {i t : Nat} : sl_Go xs N 51 5 L (.inl x0 :: .inr (.inr (11, i, t)) :: st) σ Q ↔ sl_cw st ≤ 8 ∧ sl_Go xs N 24 0 [some (.inr (.inr (11, i, t))), some (.inl x0)] [] σ (fun r τ => sl_Go xs N 51 8 L (r.toList ++ st) τ Q) := gk_call rfl (Nat.le_add_left 2 st.length) rfl rfl rfl rfl (Nat.le_of_ble_eq_true rfl)
theorem g51_8 {L : sl_L} {x : Int32} : sl_Go xs N 51 8 L (.inl x :: st) σ Q ↔ (¬ x = 0 → sl_Go xs N 51 13 L st σ Q) ∧ (x = 0 → sl_Go xs N 51 11 L st σ Q) := gk_zne rfl
theorem g51_11 {L : sl_L} : sl_Go xs N 51 11 L st σ Q ↔ sl_Go xs N 51 12 L (.inl (-1) :: st) σ Q := gk_const rfl
theorem g51_12 {L : sl_L} {x : Int32} : sl_Go xs N 51 12 L [.inl x] σ Q ↔ Q (some (.inl x)) σ := gk_iret rfl
theorem g51_13 {x : Int32} {a0 a1 a3 : Option sl_V} : sl_Go xs N 51 13 [a0, a1, some (.inl x), a3] st σ Q ↔ sl_Go xs N 51 14 [a0, a1, some (.inl x), a3] (.inl x :: st) σ Q := gk_iload rfl rfl
theorem g51_14 {L : sl_L} : sl_Go xs N 51 14 L st σ Q ↔ sl_Go xs N 51 15 L (.inl 0 :: st) σ Q := gk_const rfl
theorem g51_15 {L : sl_L} : sl_Go xs N 51 15 L st σ Q ↔ sl_Go xs N 51 17 L (.inl 50 :: st) σ Q := gk_const rfl
theorem g51_17 {L : sl_L} {x0 : Int32} {x1 : Int32} {x2 : Int32} : sl_Go xs N 51 17 L (.inl x2 :: .inl x1 :: .inl x0 :: st) σ Q ↔ sl_cw st ≤ 8 ∧ sl_Go xs N 81 0 [some (.inl x0), some (.inl x1), some (.inl x2)] [] σ (fun r τ => sl_Go xs N 51 20 L (r.toList ++ st) τ Q) := gk_call rfl (Nat.le_add_left 3 st.length) rfl rfl rfl rfl (Nat.le_of_ble_eq_true rfl)
theorem g51_20 {L : sl_L} {x : Int32} : sl_Go xs N 51 20 L (.inl x :: st) σ Q ↔ (¬ x = 0 → sl_Go xs N 51 26 L st σ Q) ∧ (x = 0 → sl_Go xs N 51 23 L st σ Q) := gk_zne rfl
theorem g51_23 {L : sl_L} : sl_Go xs N 51 23 L st σ Q ↔ sl_Go xs N 51 25 L (.inl (-2) :: st) σ Q := gk_const rfl
theorem g51_25 {L : sl_L} {x : Int32} : sl_Go xs N 51 25 L [.inl x] σ Q ↔ Q (some (.inl x)) σ := gk_iret rfl
theorem g51_26 {x : sl_R} {a1 a2 a3 : Option sl_V} : sl_Go xs N 51 26 [some (.inr (.inr x)), a1, a2, a3] st σ Q ↔ sl_Go xs N 51 27 [some (.inr (.inr x)), a1, a2, a3] (.inr (.inr x) :: st) σ Q := gk_aload rfl rfl
theorem g51_27 {L : sl_L} {i t : Nat} : sl_Go xs N 51 27 L (.inr (.inr (0, i, t)) :: st) σ Q ↔ sl_Go xs N 51 30 L (.inr (.inr (1, 1, 0)) :: st) σ Q := gk_get (g := .inr (1, 1, 0)) rfl rfl rfl
theorem g51_30 {L : sl_L} {i t : Nat} : sl_Go xs N 51 30 L (.inr (.inr (1, i, t)) :: st) σ Q ↔ sl_Go xs N 51 33 L (.inr (.inr (8, i, 0)) :: st) σ Q := gk_get (g := .inr (8, i, 0)) rfl rfl rfl
theorem g51_33 {x : Int32} {a0 a2 a3 : Option sl_V} : sl_Go xs N 51 33 [a0, some (.inl x), a2, a3] st σ Q ↔ sl_Go xs N 51 34 [a0, some (.inl x), a2, a3] (.inl x :: st) σ Q := gk_iload rfl rfl
theorem g51_34 {L : sl_L} {j : Int32} {r : sl_R} : sl_Go xs N 51 34 L (.inl j :: .inr (.inr r) :: st) σ Q ↔ (0 ≤ j.toInt ∧ j.toInt < sl_ilen N r) ∧ sl_Go xs N 51 35 L (.inl (sl_rd xs σ r j.toNatClampNeg) :: st) σ Q := gk_iald rfl
theorem g51_35n {x : Int32} {a0 a1 a3 : Option sl_V} : sl_Go xs N 51 35 [a0, a1, none, a3] (.inl x :: st) σ Q ↔ sl_Go xs N 51 36 [a0, a1, none, some (.inl x)] st σ Q := gk_istore rfl ⟨Nat.le_of_ble_eq_true rfl, rfl⟩ rfl
theorem g51_35i {x : Int32} {z : Int32} {a0 a1 a3 : Option sl_V} : sl_Go xs N 51 35 [a0, a1, some (.inl z), a3] (.inl x :: st) σ Q ↔ sl_Go xs N 51 36 [a0, a1, some (.inl z), some (.inl x)] st σ Q := gk_istore rfl ⟨Nat.le_of_ble_eq_true rfl, rfl⟩ rfl
theorem g51_35r {x : Int32} {z : sl_R} {a0 a1 a3 : Option sl_V} : sl_Go xs N 51 35 [a0, a1, some (.inr (.inr z)), a3] (.inl x :: st) σ Q ↔ sl_Go xs N 51 36 [a0, a1, some (.inr (.inr z)), some (.inl x)] st σ Q := gk_istore rfl ⟨Nat.le_of_ble_eq_true rfl, rfl⟩ rfl
theorem g51_36 {x : sl_R} {a1 a2 a3 : Option sl_V} : sl_Go xs N 51 36 [some (.inr (.inr x)), a1, a2, a3] st σ Q ↔ sl_Go xs N 51 37 [some (.inr (.inr x)), a1, a2, a3] (.inr (.inr x) :: st) σ Q := gk_aload rfl rfl
theorem g51_37 {L : sl_L} {i t : Nat} : sl_Go xs N 51 37 L (.inr (.inr (0, i, t)) :: st) σ Q ↔ sl_Go xs N 51 40 L (.inr (.inr (1, 1, 0)) :: st) σ Q := gk_get (g := .inr (1, 1, 0)) rfl rfl rfl
theorem g51_40 {L : sl_L} {i t : Nat} : sl_Go xs N 51 40 L (.inr (.inr (1, i, t)) :: st) σ Q ↔ sl_Go xs N 51 43 L (.inr (.inr (8, i, 0)) :: st) σ Q := gk_get (g := .inr (8, i, 0)) rfl rfl rfl
theorem g51_43 {x : Int32} {a0 a2 a3 : Option sl_V} : sl_Go xs N 51 43 [a0, some (.inl x), a2, a3] st σ Q ↔ sl_Go xs N 51 44 [a0, some (.inl x), a2, a3] (.inl x :: st) σ Q := gk_iload rfl rfl
theorem g51_44 {x : Int32} {a0 a1 a3 : Option sl_V} : sl_Go xs N 51 44 [a0, a1, some (.inl x), a3] st σ Q ↔ sl_Go xs N 51 45 [a0, a1, some (.inl x), a3] (.inl x :: st) σ Q := gk_iload rfl rfl
theorem g51_45 {L : sl_L} {j x : Int32} {r : sl_R} : sl_Go xs N 51 45 L (.inl x :: .inl j :: .inr (.inr r) :: st) σ Q ↔ (0 ≤ j.toInt ∧ j.toInt < sl_wlen r 0) ∧ sl_Go xs N 51 46 L st (sl_wr σ r j.toNatClampNeg x) Q := gk_iast rfl
theorem g51_46 {x : Int32} {a0 a1 a2 : Option sl_V} : sl_Go xs N 51 46 [a0, a1, a2, some (.inl x)] st σ Q ↔ sl_Go xs N 51 47 [a0, a1, a2, some (.inl x)] (.inl x :: st) σ Q := gk_iload rfl rfl
theorem g51_47 {L : sl_L} {x : Int32} : sl_Go xs N 51 47 L [.inl x] σ Q ↔ Q (some (.inl x)) σ := gk_iret rfl
theorem g52_0 {x : Int32} {a0 a2 : Option sl_V} : sl_Go xs N 52 0 [a0, some (.inl x), a2] st σ Q ↔ sl_Go xs N 52 1 [a0, some (.inl x), a2] (.inl x :: st) σ Q := gk_iload rfl rfl
theorem g52_1 {L : sl_L} : sl_Go xs N 52 1 L st σ Q ↔ sl_Go xs N 52 3 L (.inl (-50) :: st) σ Q := gk_const rfl
theorem g52_3 {L : sl_L} : sl_Go xs N 52 3 L st σ Q ↔ sl_Go xs N 52 5 L (.inl 50 :: st) σ Q := gk_const rfl
theorem g52_5 {L : sl_L} {x0 : Int32} {x1 : Int32} {x2 : Int32} : sl_Go xs N 52 5 L (.inl x2 :: .inl x1 :: .inl x0 :: st) σ Q ↔ sl_cw st ≤ 8 ∧ sl_Go xs N 81 0 [some (.inl x0), some (.inl x1), some (.inl x2)] [] σ (fun r τ => sl_Go xs N 52 8 L (r.toList ++ st) τ Q) := gk_call rfl (Nat.le_add_left 3 st.length) rfl rfl rfl rfl (Nat.le_of_ble_eq_true rfl)
theorem g52_8 {L : sl_L} {x : Int32} : sl_Go xs N 52 8 L (.inl x :: st) σ Q ↔ (¬ x = 0 → sl_Go xs N 52 14 L st σ Q) ∧ (x = 0 → sl_Go xs N 52 11 L st σ Q) := gk_zne rfl
theorem g52_11 {L : sl_L} : sl_Go xs N 52 11 L st σ Q ↔ sl_Go xs N 52 13 L (.inl (-100) :: st) σ Q := gk_const rfl
theorem g52_13 {L : sl_L} {x : Int32} : sl_Go xs N 52 13 L [.inl x] σ Q ↔ Q (some (.inl x)) σ := gk_iret rfl
theorem g52_14 {x : sl_R} {a1 a2 : Option sl_V} : sl_Go xs N 52 14 [some (.inr (.inr x)), a1, a2] st σ Q ↔ sl_Go xs N 52 15 [some (.inr (.inr x)), a1, a2] (.inr (.inr x) :: st) σ Q := gk_aload rfl rfl
theorem g52_15 {L : sl_L} {i t : Nat} : sl_Go xs N 52 15 L (.inr (.inr (0, i, t)) :: st) σ Q ↔ sl_Go xs N 52 18 L (.inr (.inr (1, 1, 0)) :: st) σ Q := gk_get (g := .inr (1, 1, 0)) rfl rfl rfl
theorem g52_18 {L : sl_L} {i t : Nat} : sl_Go xs N 52 18 L (.inr (.inr (1, i, t)) :: st) σ Q ↔ sl_Go xs N 52 21 L (.inl (σ i 0 1) :: st) σ Q := gk_get (g := .inl (i, 0, 1)) rfl rfl rfl
theorem g52_21n {x : Int32} {a0 a2 : Option sl_V} : sl_Go xs N 52 21 [a0, none, a2] (.inl x :: st) σ Q ↔ sl_Go xs N 52 22 [a0, none, some (.inl x)] st σ Q := gk_istore rfl ⟨Nat.le_of_ble_eq_true rfl, rfl⟩ rfl
theorem g52_21i {x : Int32} {z : Int32} {a0 a2 : Option sl_V} : sl_Go xs N 52 21 [a0, some (.inl z), a2] (.inl x :: st) σ Q ↔ sl_Go xs N 52 22 [a0, some (.inl z), some (.inl x)] st σ Q := gk_istore rfl ⟨Nat.le_of_ble_eq_true rfl, rfl⟩ rfl
theorem g52_21r {x : Int32} {z : sl_R} {a0 a2 : Option sl_V} : sl_Go xs N 52 21 [a0, some (.inr (.inr z)), a2] (.inl x :: st) σ Q ↔ sl_Go xs N 52 22 [a0, some (.inr (.inr z)), some (.inl x)] st σ Q := gk_istore rfl ⟨Nat.le_of_ble_eq_true rfl, rfl⟩ rfl
theorem g52_22 {x : sl_R} {a1 a2 : Option sl_V} : sl_Go xs N 52 22 [some (.inr (.inr x)), a1, a2] st σ Q ↔ sl_Go xs N 52 23 [some (.inr (.inr x)), a1, a2] (.inr (.inr x) :: st) σ Q := gk_aload rfl rfl
theorem g52_23 {L : sl_L} {i t : Nat} : sl_Go xs N 52 23 L (.inr (.inr (0, i, t)) :: st) σ Q ↔ sl_Go xs N 52 26 L (.inr (.inr (1, 1, 0)) :: st) σ Q := gk_get (g := .inr (1, 1, 0)) rfl rfl rfl
theorem g52_26 {x : Int32} {a0 a2 : Option sl_V} : sl_Go xs N 52 26 [a0, some (.inl x), a2] st σ Q ↔ sl_Go xs N 52 27 [a0, some (.inl x), a2] (.inl x :: st) σ Q := gk_iload rfl rfl
theorem g52_27 {L : sl_L} {x : Int32} {i t : Nat} : sl_Go xs N 52 27 L (.inl x :: .inr (.inr (1, i, t)) :: st) σ Q ↔ sl_Go xs N 52 30 L st (sl_up σ i 0 1 x) Q := gk_put0 (q := (i, 0, 1)) rfl rfl rfl
theorem g52_30 {x : Int32} {a0 a1 : Option sl_V} : sl_Go xs N 52 30 [a0, a1, some (.inl x)] st σ Q ↔ sl_Go xs N 52 31 [a0, a1, some (.inl x)] (.inl x :: st) σ Q := gk_iload rfl rfl
theorem g52_31 {L : sl_L} {x : Int32} : sl_Go xs N 52 31 L [.inl x] σ Q ↔ Q (some (.inl x)) σ := gk_iret rfl
theorem g53_0 {x : Int32} {a0 a2 a3 : Option sl_V} : sl_Go xs N 53 0 [a0, some (.inl x), a2, a3] st σ Q ↔ sl_Go xs N 53 1 [a0, some (.inl x), a2, a3] (.inl x :: st) σ Q := gk_iload rfl rfl
theorem g53_1 {L : sl_L} {x : Int32} : sl_Go xs N 53 1 L (.inl x :: st) σ Q ↔ (¬ x = 0 → sl_Go xs N 53 32 L st σ Q) ∧ (x = 0 → sl_Go xs N 53 4 L st σ Q) := gk_zne rfl
theorem g53_4 {x : Int32} {a0 a1 a3 : Option sl_V} : sl_Go xs N 53 4 [a0, a1, some (.inl x), a3] st σ Q ↔ sl_Go xs N 53 5 [a0, a1, some (.inl x), a3] (.inl x :: st) σ Q := gk_iload rfl rfl
theorem g53_5 {L : sl_L} : sl_Go xs N 53 5 L st σ Q ↔ sl_Go xs N 53 6 L (.inl 1 :: st) σ Q := gk_const rfl
theorem g53_6 {L : sl_L} : sl_Go xs N 53 6 L st σ Q ↔ sl_Go xs N 53 8 L (.inl 50 :: st) σ Q := gk_const rfl
theorem g53_8 {L : sl_L} {x0 : Int32} {x1 : Int32} {x2 : Int32} : sl_Go xs N 53 8 L (.inl x2 :: .inl x1 :: .inl x0 :: st) σ Q ↔ sl_cw st ≤ 8 ∧ sl_Go xs N 81 0 [some (.inl x0), some (.inl x1), some (.inl x2)] [] σ (fun r τ => sl_Go xs N 53 11 L (r.toList ++ st) τ Q) := gk_call rfl (Nat.le_add_left 3 st.length) rfl rfl rfl rfl (Nat.le_of_ble_eq_true rfl)
theorem g53_11 {L : sl_L} {x : Int32} : sl_Go xs N 53 11 L (.inl x :: st) σ Q ↔ (x = 0 → sl_Go xs N 53 32 L st σ Q) ∧ (¬ x = 0 → sl_Go xs N 53 14 L st σ Q) := gk_zeq rfl
theorem g53_14 {x : sl_R} {a1 a2 a3 : Option sl_V} : sl_Go xs N 53 14 [some (.inr (.inr x)), a1, a2, a3] st σ Q ↔ sl_Go xs N 53 15 [some (.inr (.inr x)), a1, a2, a3] (.inr (.inr x) :: st) σ Q := gk_aload rfl rfl
theorem g53_15 {L : sl_L} {i t : Nat} : sl_Go xs N 53 15 L (.inr (.inr (0, i, t)) :: st) σ Q ↔ sl_Go xs N 53 18 L (.inr (.inr (11, 0, 0)) :: st) σ Q := gk_get (g := .inr (11, 0, 0)) rfl rfl rfl
theorem g53_18 {L : sl_L} {i t : Nat} : sl_Go xs N 53 18 L (.inr (.inr (11, i, t)) :: st) σ Q ↔ sl_Go xs N 53 21 L (.inl (σ 5 0 3) :: st) σ Q := gk_get (g := .inl (5, 0, 3)) rfl rfl rfl
theorem g53_21n {x : Int32} {a0 a1 a3 : Option sl_V} : sl_Go xs N 53 21 [a0, a1, none, a3] (.inl x :: st) σ Q ↔ sl_Go xs N 53 22 [a0, a1, none, some (.inl x)] st σ Q := gk_istore rfl ⟨Nat.le_of_ble_eq_true rfl, rfl⟩ rfl
theorem g53_21i {x : Int32} {z : Int32} {a0 a1 a3 : Option sl_V} : sl_Go xs N 53 21 [a0, a1, some (.inl z), a3] (.inl x :: st) σ Q ↔ sl_Go xs N 53 22 [a0, a1, some (.inl z), some (.inl x)] st σ Q := gk_istore rfl ⟨Nat.le_of_ble_eq_true rfl, rfl⟩ rfl
theorem g53_21r {x : Int32} {z : sl_R} {a0 a1 a3 : Option sl_V} : sl_Go xs N 53 21 [a0, a1, some (.inr (.inr z)), a3] (.inl x :: st) σ Q ↔ sl_Go xs N 53 22 [a0, a1, some (.inr (.inr z)), some (.inl x)] st σ Q := gk_istore rfl ⟨Nat.le_of_ble_eq_true rfl, rfl⟩ rfl
theorem g53_22 {x : sl_R} {a1 a2 a3 : Option sl_V} : sl_Go xs N 53 22 [some (.inr (.inr x)), a1, a2, a3] st σ Q ↔ sl_Go xs N 53 23 [some (.inr (.inr x)), a1, a2, a3] (.inr (.inr x) :: st) σ Q := gk_aload rfl rfl
theorem g53_23 {L : sl_L} {i t : Nat} : sl_Go xs N 53 23 L (.inr (.inr (0, i, t)) :: st) σ Q ↔ sl_Go xs N 53 26 L (.inr (.inr (11, 0, 0)) :: st) σ Q := gk_get (g := .inr (11, 0, 0)) rfl rfl rfl
theorem g53_26 {x : Int32} {a0 a1 a3 : Option sl_V} : sl_Go xs N 53 26 [a0, a1, some (.inl x), a3] st σ Q ↔ sl_Go xs N 53 27 [a0, a1, some (.inl x), a3] (.inl x :: st) σ Q := gk_iload rfl rfl
theorem g53_27 {L : sl_L} {x : Int32} {i t : Nat} : sl_Go xs N 53 27 L (.inl x :: .inr (.inr (11, i, t)) :: st) σ Q ↔ sl_Go xs N 53 30 L st (sl_up σ 5 0 3 x) Q := gk_put0 (q := (5, 0, 3)) rfl rfl rfl
theorem g53_30 {x : Int32} {a0 a1 a2 : Option sl_V} : sl_Go xs N 53 30 [a0, a1, a2, some (.inl x)] st σ Q ↔ sl_Go xs N 53 31 [a0, a1, a2, some (.inl x)] (.inl x :: st) σ Q := gk_iload rfl rfl
theorem g53_31 {L : sl_L} {x : Int32} : sl_Go xs N 53 31 L [.inl x] σ Q ↔ Q (some (.inl x)) σ := gk_iret rfl
theorem g53_32 {x : Int32} {a0 a2 a3 : Option sl_V} : sl_Go xs N 53 32 [a0, some (.inl x), a2, a3] st σ Q ↔ sl_Go xs N 53 33 [a0, some (.inl x), a2, a3] (.inl x :: st) σ Q := gk_iload rfl rfl
theorem g53_33 {L : sl_L} : sl_Go xs N 53 33 L st σ Q ↔ sl_Go xs N 53 34 L (.inl 1 :: st) σ Q := gk_const rfl
theorem g53_34 {L : sl_L} {x y : Int32} : sl_Go xs N 53 34 L (.inl y :: .inl x :: st) σ Q ↔ (¬ x = y → sl_Go xs N 53 65 L st σ Q) ∧ (x = y → sl_Go xs N 53 37 L st σ Q) := gk_ine rfl
theorem g53_37 {x : Int32} {a0 a1 a3 : Option sl_V} : sl_Go xs N 53 37 [a0, a1, some (.inl x), a3] st σ Q ↔ sl_Go xs N 53 38 [a0, a1, some (.inl x), a3] (.inl x :: st) σ Q := gk_iload rfl rfl
theorem g53_38 {L : sl_L} : sl_Go xs N 53 38 L st σ Q ↔ sl_Go xs N 53 39 L (.inl 0 :: st) σ Q := gk_const rfl
theorem g53_39 {L : sl_L} : sl_Go xs N 53 39 L st σ Q ↔ sl_Go xs N 53 41 L (.inl 100000 :: st) σ Q := gk_const rfl
theorem g53_41 {L : sl_L} {x0 : Int32} {x1 : Int32} {x2 : Int32} : sl_Go xs N 53 41 L (.inl x2 :: .inl x1 :: .inl x0 :: st) σ Q ↔ sl_cw st ≤ 8 ∧ sl_Go xs N 81 0 [some (.inl x0), some (.inl x1), some (.inl x2)] [] σ (fun r τ => sl_Go xs N 53 44 L (r.toList ++ st) τ Q) := gk_call rfl (Nat.le_add_left 3 st.length) rfl rfl rfl rfl (Nat.le_of_ble_eq_true rfl)
theorem g53_44 {L : sl_L} {x : Int32} : sl_Go xs N 53 44 L (.inl x :: st) σ Q ↔ (x = 0 → sl_Go xs N 53 65 L st σ Q) ∧ (¬ x = 0 → sl_Go xs N 53 47 L st σ Q) := gk_zeq rfl
theorem g53_47 {x : sl_R} {a1 a2 a3 : Option sl_V} : sl_Go xs N 53 47 [some (.inr (.inr x)), a1, a2, a3] st σ Q ↔ sl_Go xs N 53 48 [some (.inr (.inr x)), a1, a2, a3] (.inr (.inr x) :: st) σ Q := gk_aload rfl rfl
theorem g53_48 {L : sl_L} {i t : Nat} : sl_Go xs N 53 48 L (.inr (.inr (0, i, t)) :: st) σ Q ↔ sl_Go xs N 53 51 L (.inr (.inr (11, 0, 0)) :: st) σ Q := gk_get (g := .inr (11, 0, 0)) rfl rfl rfl
theorem g53_51 {L : sl_L} {i t : Nat} : sl_Go xs N 53 51 L (.inr (.inr (11, i, t)) :: st) σ Q ↔ sl_Go xs N 53 54 L (.inl (σ 5 0 4) :: st) σ Q := gk_get (g := .inl (5, 0, 4)) rfl rfl rfl
theorem g53_54n {x : Int32} {a0 a1 a3 : Option sl_V} : sl_Go xs N 53 54 [a0, a1, none, a3] (.inl x :: st) σ Q ↔ sl_Go xs N 53 55 [a0, a1, none, some (.inl x)] st σ Q := gk_istore rfl ⟨Nat.le_of_ble_eq_true rfl, rfl⟩ rfl
theorem g53_54i {x : Int32} {z : Int32} {a0 a1 a3 : Option sl_V} : sl_Go xs N 53 54 [a0, a1, some (.inl z), a3] (.inl x :: st) σ Q ↔ sl_Go xs N 53 55 [a0, a1, some (.inl z), some (.inl x)] st σ Q := gk_istore rfl ⟨Nat.le_of_ble_eq_true rfl, rfl⟩ rfl
theorem g53_54r {x : Int32} {z : sl_R} {a0 a1 a3 : Option sl_V} : sl_Go xs N 53 54 [a0, a1, some (.inr (.inr z)), a3] (.inl x :: st) σ Q ↔ sl_Go xs N 53 55 [a0, a1, some (.inr (.inr z)), some (.inl x)] st σ Q := gk_istore rfl ⟨Nat.le_of_ble_eq_true rfl, rfl⟩ rfl
theorem g53_55 {x : sl_R} {a1 a2 a3 : Option sl_V} : sl_Go xs N 53 55 [some (.inr (.inr x)), a1, a2, a3] st σ Q ↔ sl_Go xs N 53 56 [some (.inr (.inr x)), a1, a2, a3] (.inr (.inr x) :: st) σ Q := gk_aload rfl rfl
theorem g53_56 {L : sl_L} {i t : Nat} : sl_Go xs N 53 56 L (.inr (.inr (0, i, t)) :: st) σ Q ↔ sl_Go xs N 53 59 L (.inr (.inr (11, 0, 0)) :: st) σ Q := gk_get (g := .inr (11, 0, 0)) rfl rfl rfl
theorem g53_59 {x : Int32} {a0 a1 a3 : Option sl_V} : sl_Go xs N 53 59 [a0, a1, some (.inl x), a3] st σ Q ↔ sl_Go xs N 53 60 [a0, a1, some (.inl x), a3] (.inl x :: st) σ Q := gk_iload rfl rfl
theorem g53_60 {L : sl_L} {x : Int32} {i t : Nat} : sl_Go xs N 53 60 L (.inl x :: .inr (.inr (11, i, t)) :: st) σ Q ↔ sl_Go xs N 53 63 L st (sl_up σ 5 0 4 x) Q := gk_put0 (q := (5, 0, 4)) rfl rfl rfl
theorem g53_63 {x : Int32} {a0 a1 a2 : Option sl_V} : sl_Go xs N 53 63 [a0, a1, a2, some (.inl x)] st σ Q ↔ sl_Go xs N 53 64 [a0, a1, a2, some (.inl x)] (.inl x :: st) σ Q := gk_iload rfl rfl
theorem g53_64 {L : sl_L} {x : Int32} : sl_Go xs N 53 64 L [.inl x] σ Q ↔ Q (some (.inl x)) σ := gk_iret rfl
theorem g53_65 {L : sl_L} : sl_Go xs N 53 65 L st σ Q ↔ sl_Go xs N 53 67 L (.inl (-2) :: st) σ Q := gk_const rfl
theorem g53_67 {L : sl_L} {x : Int32} : sl_Go xs N 53 67 L [.inl x] σ Q ↔ Q (some (.inl x)) σ := gk_iret rfl
theorem g54_0 {x : Int32} {a0 : Option sl_V} : sl_Go xs N 54 0 [a0, some (.inl x)] st σ Q ↔ sl_Go xs N 54 1 [a0, some (.inl x)] (.inl x :: st) σ Q := gk_iload rfl rfl
theorem g54_1 {L : sl_L} : sl_Go xs N 54 1 L st σ Q ↔ sl_Go xs N 54 2 L (.inl 1 :: st) σ Q := gk_const rfl
theorem g54_2 {L : sl_L} : sl_Go xs N 54 2 L st σ Q ↔ sl_Go xs N 54 5 L (.inl 200 :: st) σ Q := gk_const rfl
theorem g54_5 {L : sl_L} {x0 : Int32} {x1 : Int32} {x2 : Int32} : sl_Go xs N 54 5 L (.inl x2 :: .inl x1 :: .inl x0 :: st) σ Q ↔ sl_cw st ≤ 8 ∧ sl_Go xs N 81 0 [some (.inl x0), some (.inl x1), some (.inl x2)] [] σ (fun r τ => sl_Go xs N 54 8 L (r.toList ++ st) τ Q) := gk_call rfl (Nat.le_add_left 3 st.length) rfl rfl rfl rfl (Nat.le_of_ble_eq_true rfl)
theorem g54_8 {L : sl_L} {x : Int32} : sl_Go xs N 54 8 L (.inl x :: st) σ Q ↔ (¬ x = 0 → sl_Go xs N 54 14 L st σ Q) ∧ (x = 0 → sl_Go xs N 54 11 L st σ Q) := gk_zne rfl
theorem g54_11 {L : sl_L} : sl_Go xs N 54 11 L st σ Q ↔ sl_Go xs N 54 13 L (.inl (-2) :: st) σ Q := gk_const rfl
theorem g54_13 {L : sl_L} {x : Int32} : sl_Go xs N 54 13 L [.inl x] σ Q ↔ Q (some (.inl x)) σ := gk_iret rfl
theorem g54_14 {x : sl_R} {a1 : Option sl_V} : sl_Go xs N 54 14 [some (.inr (.inr x)), a1] st σ Q ↔ sl_Go xs N 54 15 [some (.inr (.inr x)), a1] (.inr (.inr x) :: st) σ Q := gk_aload rfl rfl
theorem g54_15 {L : sl_L} {i t : Nat} : sl_Go xs N 54 15 L (.inr (.inr (0, i, t)) :: st) σ Q ↔ sl_Go xs N 54 18 L (.inr (.inr (1, 1, 0)) :: st) σ Q := gk_get (g := .inr (1, 1, 0)) rfl rfl rfl
theorem g54_18 {L : sl_L} {i t : Nat} : sl_Go xs N 54 18 L (.inr (.inr (1, i, t)) :: st) σ Q ↔ sl_Go xs N 54 21 L (.inl (σ i 0 0) :: st) σ Q := gk_get (g := .inl (i, 0, 0)) rfl rfl rfl
theorem g54_21 {x : Int32} {a0 : Option sl_V} : sl_Go xs N 54 21 [a0, some (.inl x)] st σ Q ↔ sl_Go xs N 54 22 [a0, some (.inl x)] (.inl x :: st) σ Q := gk_iload rfl rfl
theorem g54_22 {L : sl_L} {x y : Int32} : sl_Go xs N 54 22 L (.inl y :: .inl x :: st) σ Q ↔ sl_Go xs N 54 23 L (.inl (x + y) :: st) σ Q := gk_bin (b := 8) rfl
theorem g54_23 {L : sl_L} : sl_Go xs N 54 23 L st σ Q ↔ sl_Go xs N 54 26 L (.inl 20000 :: st) σ Q := gk_const rfl
theorem g54_26 {L : sl_L} {x y : Int32} : sl_Go xs N 54 26 L (.inl y :: .inl x :: st) σ Q ↔ (x ≤ y → sl_Go xs N 54 32 L st σ Q) ∧ (¬ x ≤ y → sl_Go xs N 54 29 L st σ Q) := gk_ile rfl
theorem g54_29 {L : sl_L} : sl_Go xs N 54 29 L st σ Q ↔ sl_Go xs N 54 31 L (.inl (-4) :: st) σ Q := gk_const rfl
theorem g54_31 {L : sl_L} {x : Int32} : sl_Go xs N 54 31 L [.inl x] σ Q ↔ Q (some (.inl x)) σ := gk_iret rfl
theorem g54_32 {x : sl_R} {a1 : Option sl_V} : sl_Go xs N 54 32 [some (.inr (.inr x)), a1] st σ Q ↔ sl_Go xs N 54 33 [some (.inr (.inr x)), a1] (.inr (.inr x) :: st) σ Q := gk_aload rfl rfl
theorem g54_33 {L : sl_L} {i t : Nat} : sl_Go xs N 54 33 L (.inr (.inr (0, i, t)) :: st) σ Q ↔ sl_Go xs N 54 36 L (.inr (.inr (1, 1, 0)) :: st) σ Q := gk_get (g := .inr (1, 1, 0)) rfl rfl rfl
theorem g54_36 {x : Int32} {a0 : Option sl_V} : sl_Go xs N 54 36 [a0, some (.inl x)] st σ Q ↔ sl_Go xs N 54 37 [a0, some (.inl x)] (.inl x :: st) σ Q := gk_iload rfl rfl
theorem g54_37 {L : sl_L} {x0 : Int32} {i t : Nat} : sl_Go xs N 54 37 L (.inl x0 :: .inr (.inr (1, i, t)) :: st) σ Q ↔ sl_cw st ≤ 8 ∧ sl_Go xs N 14 0 [some (.inr (.inr (1, i, t))), some (.inl x0), none] [] σ (fun r τ => sl_Go xs N 54 40 L (r.toList ++ st) τ Q) := gk_call rfl (Nat.le_add_left 2 st.length) rfl rfl rfl rfl (Nat.le_of_ble_eq_true rfl)
theorem g54_40 {x : sl_R} {a1 : Option sl_V} : sl_Go xs N 54 40 [some (.inr (.inr x)), a1] st σ Q ↔ sl_Go xs N 54 41 [some (.inr (.inr x)), a1] (.inr (.inr x) :: st) σ Q := gk_aload rfl rfl
theorem g54_41 {L : sl_L} {i t : Nat} : sl_Go xs N 54 41 L (.inr (.inr (0, i, t)) :: st) σ Q ↔ sl_Go xs N 54 44 L (.inr (.inr (1, 1, 0)) :: st) σ Q := gk_get (g := .inr (1, 1, 0)) rfl rfl rfl
theorem g54_44 {L : sl_L} {i t : Nat} : sl_Go xs N 54 44 L (.inr (.inr (1, i, t)) :: st) σ Q ↔ sl_Go xs N 54 47 L (.inl (σ i 0 0) :: st) σ Q := gk_get (g := .inl (i, 0, 0)) rfl rfl rfl
theorem g54_47 {L : sl_L} {x : Int32} : sl_Go xs N 54 47 L [.inl x] σ Q ↔ Q (some (.inl x)) σ := gk_iret rfl
theorem g55_0 {x : Int32} {a0 a1 a2 : Option sl_V} : sl_Go xs N 55 0 [a0, a1, a2, some (.inl x)] st σ Q ↔ sl_Go xs N 55 1 [a0, a1, a2, some (.inl x)] (.inl x :: st) σ Q := gk_iload rfl rfl
theorem g55_1 {L : sl_L} : sl_Go xs N 55 1 L st σ Q ↔ sl_Go xs N 55 2 L (.inl 1 :: st) σ Q := gk_const rfl
theorem g55_2 {L : sl_L} : sl_Go xs N 55 2 L st σ Q ↔ sl_Go xs N 55 4 L (.inl 8 :: st) σ Q := gk_const rfl
theorem g55_4 {L : sl_L} {x0 : Int32} {x1 : Int32} {x2 : Int32} : sl_Go xs N 55 4 L (.inl x2 :: .inl x1 :: .inl x0 :: st) σ Q ↔ sl_cw st ≤ 8 ∧ sl_Go xs N 81 0 [some (.inl x0), some (.inl x1), some (.inl x2)] [] σ (fun r τ => sl_Go xs N 55 7 L (r.toList ++ st) τ Q) := gk_call rfl (Nat.le_add_left 3 st.length) rfl rfl rfl rfl (Nat.le_of_ble_eq_true rfl)
theorem g55_7 {L : sl_L} {x : Int32} : sl_Go xs N 55 7 L (.inl x :: st) σ Q ↔ (¬ x = 0 → sl_Go xs N 55 13 L st σ Q) ∧ (x = 0 → sl_Go xs N 55 10 L st σ Q) := gk_zne rfl
theorem g55_10 {L : sl_L} : sl_Go xs N 55 10 L st σ Q ↔ sl_Go xs N 55 12 L (.inl (-2) :: st) σ Q := gk_const rfl
theorem g55_12 {L : sl_L} {x : Int32} : sl_Go xs N 55 12 L [.inl x] σ Q ↔ Q (some (.inl x)) σ := gk_iret rfl
theorem g55_13 {x : sl_R} {a1 a2 a3 : Option sl_V} : sl_Go xs N 55 13 [some (.inr (.inr x)), a1, a2, a3] st σ Q ↔ sl_Go xs N 55 14 [some (.inr (.inr x)), a1, a2, a3] (.inr (.inr x) :: st) σ Q := gk_aload rfl rfl
theorem g55_14 {L : sl_L} {i t : Nat} : sl_Go xs N 55 14 L (.inr (.inr (0, i, t)) :: st) σ Q ↔ sl_Go xs N 55 17 L (.inr (.inr (20, 0, 0)) :: st) σ Q := gk_get (g := .inr (20, 0, 0)) rfl rfl rfl
theorem g55_17 {x : Int64} {a0 a2 a3 : Option sl_V} : sl_Go xs N 55 17 [a0, some (.inr (.inl x)), a2, a3] st σ Q ↔ sl_Go xs N 55 18 [a0, some (.inr (.inl x)), a2, a3] (.inr (.inl x) :: st) σ Q := gk_lload rfl rfl
theorem g55_18 {x : Int32} {a0 a1 a2 : Option sl_V} : sl_Go xs N 55 18 [a0, a1, a2, some (.inl x)] st σ Q ↔ sl_Go xs N 55 19 [a0, a1, a2, some (.inl x)] (.inl x :: st) σ Q := gk_iload rfl rfl
theorem g55_19 {L : sl_L} {x0 : Int64} {x1 : Int32} {i t : Nat} : sl_Go xs N 55 19 L (.inl x1 :: .inr (.inl x0) :: .inr (.inr (20, i, t)) :: st) σ Q ↔ sl_cw st ≤ 8 ∧ sl_Go xs N 36 0 [some (.inr (.inr (20, i, t))), some (.inr (.inl x0)), none, some (.inl x1), none] [] σ (fun r τ => sl_Go xs N 55 22 L (r.toList ++ st) τ Q) := gk_call rfl (Nat.le_add_left 3 st.length) rfl rfl rfl rfl (Nat.le_of_ble_eq_true rfl)
theorem g55_22 {L : sl_L} {x : Int32} : sl_Go xs N 55 22 L [.inl x] σ Q ↔ Q (some (.inl x)) σ := gk_iret rfl
theorem g56_0 {x : sl_R} {a1 : Option sl_V} : sl_Go xs N 56 0 [some (.inr (.inr x)), a1] st σ Q ↔ sl_Go xs N 56 1 [some (.inr (.inr x)), a1] (.inr (.inr x) :: st) σ Q := gk_aload rfl rfl
theorem g56_1 {L : sl_L} {i t : Nat} : sl_Go xs N 56 1 L (.inr (.inr (0, i, t)) :: st) σ Q ↔ sl_Go xs N 56 4 L (.inr (.inr (11, 0, 0)) :: st) σ Q := gk_get (g := .inr (11, 0, 0)) rfl rfl rfl
theorem g56_4 {L : sl_L} {i t : Nat} : sl_Go xs N 56 4 L (.inr (.inr (11, i, t)) :: st) σ Q ↔ sl_Go xs N 56 7 L (.inl (σ 5 0 2) :: st) σ Q := gk_get (g := .inl (5, 0, 2)) rfl rfl rfl
theorem g56_7 {L : sl_L} : sl_Go xs N 56 7 L st σ Q ↔ sl_Go xs N 56 9 L (.inl 6 :: st) σ Q := gk_const rfl
theorem g56_9 {L : sl_L} {x y : Int32} : sl_Go xs N 56 9 L (.inl y :: .inl x :: st) σ Q ↔ (¬ x = y → sl_Go xs N 56 15 L st σ Q) ∧ (x = y → sl_Go xs N 56 12 L st σ Q) := gk_ine rfl
theorem g56_12 {L : sl_L} : sl_Go xs N 56 12 L st σ Q ↔ sl_Go xs N 56 14 L (.inl (-4) :: st) σ Q := gk_const rfl
theorem g56_14 {L : sl_L} {x : Int32} : sl_Go xs N 56 14 L [.inl x] σ Q ↔ Q (some (.inl x)) σ := gk_iret rfl
theorem g56_15 {x : sl_R} {a1 : Option sl_V} : sl_Go xs N 56 15 [some (.inr (.inr x)), a1] st σ Q ↔ sl_Go xs N 56 16 [some (.inr (.inr x)), a1] (.inr (.inr x) :: st) σ Q := gk_aload rfl rfl
theorem g56_16 {L : sl_L} {i t : Nat} : sl_Go xs N 56 16 L (.inr (.inr (0, i, t)) :: st) σ Q ↔ sl_Go xs N 56 19 L (.inr (.inr (20, 0, 0)) :: st) σ Q := gk_get (g := .inr (20, 0, 0)) rfl rfl rfl
theorem g56_19 {x : sl_R} {a1 : Option sl_V} : sl_Go xs N 56 19 [some (.inr (.inr x)), a1] st σ Q ↔ sl_Go xs N 56 20 [some (.inr (.inr x)), a1] (.inr (.inr x) :: st) σ Q := gk_aload rfl rfl
theorem g56_20 {L : sl_L} {i t : Nat} : sl_Go xs N 56 20 L (.inr (.inr (0, i, t)) :: st) σ Q ↔ sl_Go xs N 56 23 L (.inr (.inr (11, 0, 0)) :: st) σ Q := gk_get (g := .inr (11, 0, 0)) rfl rfl rfl
theorem g56_23 {L : sl_L} {i t : Nat} : sl_Go xs N 56 23 L (.inr (.inr (11, i, t)) :: st) σ Q ↔ sl_Go xs N 56 26 L (.inr (.inr (16, 0, 0)) :: st) σ Q := gk_get (g := .inr (16, 0, 0)) rfl rfl rfl
theorem g56_26 {x : sl_R} {a1 : Option sl_V} : sl_Go xs N 56 26 [some (.inr (.inr x)), a1] st σ Q ↔ sl_Go xs N 56 27 [some (.inr (.inr x)), a1] (.inr (.inr x) :: st) σ Q := gk_aload rfl rfl
theorem g56_27 {L : sl_L} {i t : Nat} : sl_Go xs N 56 27 L (.inr (.inr (0, i, t)) :: st) σ Q ↔ sl_Go xs N 56 30 L (.inr (.inr (11, 0, 0)) :: st) σ Q := gk_get (g := .inr (11, 0, 0)) rfl rfl rfl
theorem g56_30 {L : sl_L} {i t : Nat} : sl_Go xs N 56 30 L (.inr (.inr (11, i, t)) :: st) σ Q ↔ sl_Go xs N 56 33 L (.inl (σ 5 0 2) :: st) σ Q := gk_get (g := .inl (5, 0, 2)) rfl rfl rfl
theorem g56_33 {L : sl_L} {j : Int32} {r : sl_R} : sl_Go xs N 56 33 L (.inl j :: .inr (.inr r) :: st) σ Q ↔ (0 ≤ j.toInt ∧ j.toInt < sl_rlen r) ∧ sl_Go xs N 56 34 L (.inr (.inr (sl_rg r j.toNatClampNeg)) :: st) σ Q := gk_aald rfl
theorem g56_34 {L : sl_L} {x0 : sl_R} {i t : Nat} : sl_Go xs N 56 34 L (.inr (.inr x0) :: .inr (.inr (20, i, t)) :: st) σ Q ↔ sl_cw st ≤ 8 ∧ sl_Go xs N 37 0 [some (.inr (.inr (20, i, t))), some (.inr (.inr x0)), none] [] σ (fun r τ => sl_Go xs N 56 37 L (r.toList ++ st) τ Q) := gk_call rfl (Nat.le_add_left 2 st.length) rfl rfl rfl rfl (Nat.le_of_ble_eq_true rfl)
theorem g56_37n {x : Int32} {a1 : Option sl_V} : sl_Go xs N 56 37 [none, a1] (.inl x :: st) σ Q ↔ sl_Go xs N 56 38 [none, some (.inl x)] st σ Q := gk_istore rfl ⟨Nat.le_of_ble_eq_true rfl, rfl⟩ rfl
theorem g56_37i {x : Int32} {z : Int32} {a1 : Option sl_V} : sl_Go xs N 56 37 [some (.inl z), a1] (.inl x :: st) σ Q ↔ sl_Go xs N 56 38 [some (.inl z), some (.inl x)] st σ Q := gk_istore rfl ⟨Nat.le_of_ble_eq_true rfl, rfl⟩ rfl
theorem g56_37r {x : Int32} {z : sl_R} {a1 : Option sl_V} : sl_Go xs N 56 37 [some (.inr (.inr z)), a1] (.inl x :: st) σ Q ↔ sl_Go xs N 56 38 [some (.inr (.inr z)), some (.inl x)] st σ Q := gk_istore rfl ⟨Nat.le_of_ble_eq_true rfl, rfl⟩ rfl
theorem g56_38 {x : sl_R} {a1 : Option sl_V} : sl_Go xs N 56 38 [some (.inr (.inr x)), a1] st σ Q ↔ sl_Go xs N 56 39 [some (.inr (.inr x)), a1] (.inr (.inr x) :: st) σ Q := gk_aload rfl rfl
theorem g56_39 {L : sl_L} {i t : Nat} : sl_Go xs N 56 39 L (.inr (.inr (0, i, t)) :: st) σ Q ↔ sl_Go xs N 56 42 L (.inr (.inr (20, 0, 0)) :: st) σ Q := gk_get (g := .inr (20, 0, 0)) rfl rfl rfl
theorem g56_42 {L : sl_L} : sl_Go xs N 56 42 L st σ Q ↔ sl_Go xs N 56 43 L (.inl 0 :: st) σ Q := gk_const rfl
theorem g56_43 {L : sl_L} {x : Int32} {i t : Nat} : sl_Go xs N 56 43 L (.inl x :: .inr (.inr (20, i, t)) :: st) σ Q ↔ sl_Go xs N 56 46 L st (sl_up σ 7 0 3 x) Q := gk_put0 (q := (7, 0, 3)) rfl rfl rfl
theorem g56_46 {x : Int32} {a0 : Option sl_V} : sl_Go xs N 56 46 [a0, some (.inl x)] st σ Q ↔ sl_Go xs N 56 47 [a0, some (.inl x)] (.inl x :: st) σ Q := gk_iload rfl rfl
theorem g56_47 {L : sl_L} : sl_Go xs N 56 47 L st σ Q ↔ sl_Go xs N 56 48 L (.inl (-1) :: st) σ Q := gk_const rfl
theorem g56_48 {L : sl_L} {x y : Int32} : sl_Go xs N 56 48 L (.inl y :: .inl x :: st) σ Q ↔ (x = y → sl_Go xs N 56 56 L st σ Q) ∧ (¬ x = y → sl_Go xs N 56 51 L st σ Q) := gk_ieq rfl
theorem g56_51 {L : sl_L} : sl_Go xs N 56 51 L st σ Q ↔ sl_Go xs N 56 53 L (.inl (-100) :: st) σ Q := gk_const rfl
theorem g56_53 {x : Int32} {a0 : Option sl_V} : sl_Go xs N 56 53 [a0, some (.inl x)] st σ Q ↔ sl_Go xs N 56 54 [a0, some (.inl x)] (.inl x :: st) σ Q := gk_iload rfl rfl
theorem g56_54 {L : sl_L} {x y : Int32} : sl_Go xs N 56 54 L (.inl y :: .inl x :: st) σ Q ↔ sl_Go xs N 56 55 L (.inl (x - y) :: st) σ Q := gk_bin (b := 9) rfl
theorem g56_55 {L : sl_L} {x : Int32} : sl_Go xs N 56 55 L [.inl x] σ Q ↔ Q (some (.inl x)) σ := gk_iret rfl
theorem g56_56 {x : sl_R} {a1 : Option sl_V} : sl_Go xs N 56 56 [some (.inr (.inr x)), a1] st σ Q ↔ sl_Go xs N 56 57 [some (.inr (.inr x)), a1] (.inr (.inr x) :: st) σ Q := gk_aload rfl rfl
theorem g56_57 {L : sl_L} {i t : Nat} : sl_Go xs N 56 57 L (.inr (.inr (0, i, t)) :: st) σ Q ↔ sl_Go xs N 56 60 L (.inr (.inr (11, 0, 0)) :: st) σ Q := gk_get (g := .inr (11, 0, 0)) rfl rfl rfl
theorem g56_60i {L : sl_L} {x : Int32} : sl_Go xs N 56 60 L (.inl x :: st) σ Q ↔ sl_Go xs N 56 61 L (.inl x :: .inl x :: st) σ Q := gk_dupi rfl
theorem g56_60r {L : sl_L} {x : sl_R} : sl_Go xs N 56 60 L (.inr (.inr x) :: st) σ Q ↔ sl_Go xs N 56 61 L (.inr (.inr x) :: .inr (.inr x) :: st) σ Q := gk_dupr rfl
theorem g56_61 {L : sl_L} {i t : Nat} : sl_Go xs N 56 61 L (.inr (.inr (11, i, t)) :: st) σ Q ↔ sl_Go xs N 56 64 L (.inl (σ 5 0 2) :: st) σ Q := gk_get (g := .inl (5, 0, 2)) rfl rfl rfl
theorem g56_64 {L : sl_L} : sl_Go xs N 56 64 L st σ Q ↔ sl_Go xs N 56 65 L (.inl 1 :: st) σ Q := gk_const rfl
theorem g56_65 {L : sl_L} {x y : Int32} : sl_Go xs N 56 65 L (.inl y :: .inl x :: st) σ Q ↔ sl_Go xs N 56 66 L (.inl (x + y) :: st) σ Q := gk_bin (b := 8) rfl
theorem g56_66 {L : sl_L} {x : Int32} {i t : Nat} : sl_Go xs N 56 66 L (.inl x :: .inr (.inr (11, i, t)) :: st) σ Q ↔ sl_Go xs N 56 69 L st (sl_up σ 5 0 2 x) Q := gk_put0 (q := (5, 0, 2)) rfl rfl rfl
theorem g56_69 {x : sl_R} {a1 : Option sl_V} : sl_Go xs N 56 69 [some (.inr (.inr x)), a1] st σ Q ↔ sl_Go xs N 56 70 [some (.inr (.inr x)), a1] (.inr (.inr x) :: st) σ Q := gk_aload rfl rfl
theorem g56_70 {L : sl_L} {i t : Nat} : sl_Go xs N 56 70 L (.inr (.inr (0, i, t)) :: st) σ Q ↔ sl_Go xs N 56 73 L (.inr (.inr (11, 0, 0)) :: st) σ Q := gk_get (g := .inr (11, 0, 0)) rfl rfl rfl
theorem g56_73 {L : sl_L} {i t : Nat} : sl_Go xs N 56 73 L (.inr (.inr (11, i, t)) :: st) σ Q ↔ sl_Go xs N 56 76 L (.inl (σ 5 0 2) :: st) σ Q := gk_get (g := .inl (5, 0, 2)) rfl rfl rfl
theorem g56_76 {L : sl_L} : sl_Go xs N 56 76 L st σ Q ↔ sl_Go xs N 56 77 L (.inl 1 :: st) σ Q := gk_const rfl
theorem g56_77 {L : sl_L} {x y : Int32} : sl_Go xs N 56 77 L (.inl y :: .inl x :: st) σ Q ↔ sl_Go xs N 56 78 L (.inl (x - y) :: st) σ Q := gk_bin (b := 9) rfl
theorem g56_78 {L : sl_L} {x : Int32} : sl_Go xs N 56 78 L [.inl x] σ Q ↔ Q (some (.inl x)) σ := gk_iret rfl
theorem g57_0 {x : sl_R} {a1 a2 a3 a4 : Option sl_V} : sl_Go xs N 57 0 [some (.inr (.inr x)), a1, a2, a3, a4] st σ Q ↔ sl_Go xs N 57 1 [some (.inr (.inr x)), a1, a2, a3, a4] (.inr (.inr x) :: st) σ Q := gk_aload rfl rfl
theorem g57_1 {L : sl_L} {i t : Nat} : sl_Go xs N 57 1 L (.inr (.inr (0, i, t)) :: st) σ Q ↔ sl_Go xs N 57 4 L (.inr (.inr (11, 0, 0)) :: st) σ Q := gk_get (g := .inr (11, 0, 0)) rfl rfl rfl
theorem g57_4 {x : Int32} {a0 a2 a3 a4 : Option sl_V} : sl_Go xs N 57 4 [a0, some (.inl x), a2, a3, a4] st σ Q ↔ sl_Go xs N 57 5 [a0, some (.inl x), a2, a3, a4] (.inl x :: st) σ Q := gk_iload rfl rfl
theorem g57_5 {L : sl_L} {x0 : Int32} {i t : Nat} : sl_Go xs N 57 5 L (.inl x0 :: .inr (.inr (11, i, t)) :: st) σ Q ↔ sl_cw st ≤ 8 ∧ sl_Go xs N 25 0 [some (.inr (.inr (11, i, t))), some (.inl x0)] [] σ (fun r τ => sl_Go xs N 57 8 L (r.toList ++ st) τ Q) := gk_call rfl (Nat.le_add_left 2 st.length) rfl rfl rfl rfl (Nat.le_of_ble_eq_true rfl)
theorem g57_8 {L : sl_L} {x : Int32} : sl_Go xs N 57 8 L (.inl x :: st) σ Q ↔ (¬ x = 0 → sl_Go xs N 57 14 L st σ Q) ∧ (x = 0 → sl_Go xs N 57 11 L st σ Q) := gk_zne rfl
theorem g57_11 {L : sl_L} : sl_Go xs N 57 11 L st σ Q ↔ sl_Go xs N 57 13 L (.inl (-100) :: st) σ Q := gk_const rfl
theorem g57_13 {L : sl_L} {x : Int32} : sl_Go xs N 57 13 L [.inl x] σ Q ↔ Q (some (.inl x)) σ := gk_iret rfl
theorem g57_14 {x : sl_R} {a1 a2 a3 a4 : Option sl_V} : sl_Go xs N 57 14 [some (.inr (.inr x)), a1, a2, a3, a4] st σ Q ↔ sl_Go xs N 57 15 [some (.inr (.inr x)), a1, a2, a3, a4] (.inr (.inr x) :: st) σ Q := gk_aload rfl rfl
theorem g57_15 {L : sl_L} {i t : Nat} : sl_Go xs N 57 15 L (.inr (.inr (0, i, t)) :: st) σ Q ↔ sl_Go xs N 57 18 L (.inr (.inr (11, 0, 0)) :: st) σ Q := gk_get (g := .inr (11, 0, 0)) rfl rfl rfl
theorem g57_18 {L : sl_L} {i t : Nat} : sl_Go xs N 57 18 L (.inr (.inr (11, i, t)) :: st) σ Q ↔ sl_Go xs N 57 21 L (.inr (.inr (16, 0, 0)) :: st) σ Q := gk_get (g := .inr (16, 0, 0)) rfl rfl rfl
theorem g57_21 {x : Int32} {a0 a2 a3 a4 : Option sl_V} : sl_Go xs N 57 21 [a0, some (.inl x), a2, a3, a4] st σ Q ↔ sl_Go xs N 57 22 [a0, some (.inl x), a2, a3, a4] (.inl x :: st) σ Q := gk_iload rfl rfl
theorem g57_22 {L : sl_L} {j : Int32} {r : sl_R} : sl_Go xs N 57 22 L (.inl j :: .inr (.inr r) :: st) σ Q ↔ (0 ≤ j.toInt ∧ j.toInt < sl_rlen r) ∧ sl_Go xs N 57 23 L (.inr (.inr (sl_rg r j.toNatClampNeg)) :: st) σ Q := gk_aald rfl
theorem g57_23n {x : sl_R} {a0 a1 a2 a4 : Option sl_V} : sl_Go xs N 57 23 [a0, a1, a2, none, a4] (.inr (.inr x) :: st) σ Q ↔ sl_Go xs N 57 25 [a0, a1, a2, none, some (.inr (.inr x))] st σ Q := gk_astore rfl ⟨Nat.le_of_ble_eq_true rfl, rfl⟩ rfl
theorem g57_23i {x : sl_R} {z : Int32} {a0 a1 a2 a4 : Option sl_V} : sl_Go xs N 57 23 [a0, a1, a2, some (.inl z), a4] (.inr (.inr x) :: st) σ Q ↔ sl_Go xs N 57 25 [a0, a1, a2, some (.inl z), some (.inr (.inr x))] st σ Q := gk_astore rfl ⟨Nat.le_of_ble_eq_true rfl, rfl⟩ rfl
theorem g57_23r {x : sl_R} {z : sl_R} {a0 a1 a2 a4 : Option sl_V} : sl_Go xs N 57 23 [a0, a1, a2, some (.inr (.inr z)), a4] (.inr (.inr x) :: st) σ Q ↔ sl_Go xs N 57 25 [a0, a1, a2, some (.inr (.inr z)), some (.inr (.inr x))] st σ Q := gk_astore rfl ⟨Nat.le_of_ble_eq_true rfl, rfl⟩ rfl
theorem g57_25 {x : Int32} {a0 a1 a2 a4 : Option sl_V} : sl_Go xs N 57 25 [a0, a1, a2, some (.inl x), a4] st σ Q ↔ sl_Go xs N 57 26 [a0, a1, a2, some (.inl x), a4] (.inl x :: st) σ Q := gk_iload rfl rfl
theorem g57_26 {L : sl_L} {x : Int32} : sl_Go xs N 57 26 L (.inl x :: st) σ Q ↔ (¬ x = 0 → sl_Go xs N 57 35 L st σ Q) ∧ (x = 0 → sl_Go xs N 57 29 L st σ Q) := gk_zne rfl
theorem g57_29 {x : sl_R} {a0 a1 a2 a3 : Option sl_V} : sl_Go xs N 57 29 [a0, a1, a2, a3, some (.inr (.inr x))] st σ Q ↔ sl_Go xs N 57 31 [a0, a1, a2, a3, some (.inr (.inr x))] (.inr (.inr x) :: st) σ Q := gk_aload rfl rfl
theorem g57_31 {L : sl_L} {i t : Nat} : sl_Go xs N 57 31 L (.inr (.inr (17, i, t)) :: st) σ Q ↔ sl_Go xs N 57 34 L (.inl (σ 5 8 t) :: st) σ Q := gk_get (g := .inl (5, 8, t)) rfl rfl rfl
theorem g57_34 {L : sl_L} {x : Int32} : sl_Go xs N 57 34 L [.inl x] σ Q ↔ Q (some (.inl x)) σ := gk_iret rfl
theorem g57_35 {x : Int32} {a0 a1 a3 a4 : Option sl_V} : sl_Go xs N 57 35 [a0, a1, some (.inl x), a3, a4] st σ Q ↔ sl_Go xs N 57 36 [a0, a1, some (.inl x), a3, a4] (.inl x :: st) σ Q := gk_iload rfl rfl
theorem g57_36 {L : sl_L} : sl_Go xs N 57 36 L st σ Q ↔ sl_Go xs N 57 37 L (.inl 0 :: st) σ Q := gk_const rfl
theorem g57_37 {x : sl_R} {a0 a1 a2 a3 : Option sl_V} : sl_Go xs N 57 37 [a0, a1, a2, a3, some (.inr (.inr x))] st σ Q ↔ sl_Go xs N 57 39 [a0, a1, a2, a3, some (.inr (.inr x))] (.inr (.inr x) :: st) σ Q := gk_aload rfl rfl
theorem g57_39 {L : sl_L} {i t : Nat} : sl_Go xs N 57 39 L (.inr (.inr (17, i, t)) :: st) σ Q ↔ sl_Go xs N 57 42 L (.inl (σ 5 8 t) :: st) σ Q := gk_get (g := .inl (5, 8, t)) rfl rfl rfl
theorem g57_42 {L : sl_L} : sl_Go xs N 57 42 L st σ Q ↔ sl_Go xs N 57 43 L (.inl 1 :: st) σ Q := gk_const rfl
theorem g57_43 {L : sl_L} {x y : Int32} : sl_Go xs N 57 43 L (.inl y :: .inl x :: st) σ Q ↔ sl_Go xs N 57 44 L (.inl (x - y) :: st) σ Q := gk_bin (b := 9) rfl
theorem g57_44 {L : sl_L} {x0 : Int32} {x1 : Int32} {x2 : Int32} : sl_Go xs N 57 44 L (.inl x2 :: .inl x1 :: .inl x0 :: st) σ Q ↔ sl_cw st ≤ 8 ∧ sl_Go xs N 81 0 [some (.inl x0), some (.inl x1), some (.inl x2)] [] σ (fun r τ => sl_Go xs N 57 47 L (r.toList ++ st) τ Q) := gk_call rfl (Nat.le_add_left 3 st.length) rfl rfl rfl rfl (Nat.le_of_ble_eq_true rfl)
theorem g57_47 {L : sl_L} {x : Int32} : sl_Go xs N 57 47 L (.inl x :: st) σ Q ↔ (¬ x = 0 → sl_Go xs N 57 53 L st σ Q) ∧ (x = 0 → sl_Go xs N 57 50 L st σ Q) := gk_zne rfl
theorem g57_50 {L : sl_L} : sl_Go xs N 57 50 L st σ Q ↔ sl_Go xs N 57 52 L (.inl (-101) :: st) σ Q := gk_const rfl
theorem g57_52 {L : sl_L} {x : Int32} : sl_Go xs N 57 52 L [.inl x] σ Q ↔ Q (some (.inl x)) σ := gk_iret rfl
theorem g57_53 {x : Int32} {a0 a1 a2 a4 : Option sl_V} : sl_Go xs N 57 53 [a0, a1, a2, some (.inl x), a4] st σ Q ↔ sl_Go xs N 57 54 [a0, a1, a2, some (.inl x), a4] (.inl x :: st) σ Q := gk_iload rfl rfl
theorem g57_54 {L : sl_L} : sl_Go xs N 57 54 L st σ Q ↔ sl_Go xs N 57 55 L (.inl 1 :: st) σ Q := gk_const rfl
theorem g57_55 {L : sl_L} {x y : Int32} : sl_Go xs N 57 55 L (.inl y :: .inl x :: st) σ Q ↔ (¬ x = y → sl_Go xs N 57 68 L st σ Q) ∧ (x = y → sl_Go xs N 57 58 L st σ Q) := gk_ine rfl
theorem g57_58 {x : sl_R} {a0 a1 a2 a3 : Option sl_V} : sl_Go xs N 57 58 [a0, a1, a2, a3, some (.inr (.inr x))] st σ Q ↔ sl_Go xs N 57 60 [a0, a1, a2, a3, some (.inr (.inr x))] (.inr (.inr x) :: st) σ Q := gk_aload rfl rfl
theorem g57_60 {L : sl_L} {i t : Nat} : sl_Go xs N 57 60 L (.inr (.inr (17, i, t)) :: st) σ Q ↔ sl_Go xs N 57 63 L (.inr (.inr (18, 0, t)) :: st) σ Q := gk_get (g := .inr (18, 0, t)) rfl rfl rfl
theorem g57_63 {x : Int32} {a0 a1 a3 a4 : Option sl_V} : sl_Go xs N 57 63 [a0, a1, some (.inl x), a3, a4] st σ Q ↔ sl_Go xs N 57 64 [a0, a1, some (.inl x), a3, a4] (.inl x :: st) σ Q := gk_iload rfl rfl
theorem g57_64 {L : sl_L} {j : Int32} {r : sl_R} : sl_Go xs N 57 64 L (.inl j :: .inr (.inr r) :: st) σ Q ↔ (0 ≤ j.toInt ∧ j.toInt < sl_ilen N r) ∧ sl_Go xs N 57 65 L (.inl (sl_rd xs σ r j.toNatClampNeg) :: st) σ Q := gk_iald rfl
theorem g57_65 {L : sl_L} : sl_Go xs N 57 65 L st σ Q ↔ sl_Go xs N 57 85 L st σ Q := gk_goto rfl
theorem g57_68 {x : Int32} {a0 a1 a2 a4 : Option sl_V} : sl_Go xs N 57 68 [a0, a1, a2, some (.inl x), a4] st σ Q ↔ sl_Go xs N 57 69 [a0, a1, a2, some (.inl x), a4] (.inl x :: st) σ Q := gk_iload rfl rfl
theorem g57_69 {L : sl_L} : sl_Go xs N 57 69 L st σ Q ↔ sl_Go xs N 57 70 L (.inl 2 :: st) σ Q := gk_const rfl
theorem g57_70 {L : sl_L} {x y : Int32} : sl_Go xs N 57 70 L (.inl y :: .inl x :: st) σ Q ↔ (¬ x = y → sl_Go xs N 57 83 L st σ Q) ∧ (x = y → sl_Go xs N 57 73 L st σ Q) := gk_ine rfl
theorem g57_73 {x : sl_R} {a0 a1 a2 a3 : Option sl_V} : sl_Go xs N 57 73 [a0, a1, a2, a3, some (.inr (.inr x))] st σ Q ↔ sl_Go xs N 57 75 [a0, a1, a2, a3, some (.inr (.inr x))] (.inr (.inr x) :: st) σ Q := gk_aload rfl rfl
theorem g57_75 {L : sl_L} {i t : Nat} : sl_Go xs N 57 75 L (.inr (.inr (17, i, t)) :: st) σ Q ↔ sl_Go xs N 57 78 L (.inr (.inr (19, 0, t)) :: st) σ Q := gk_get (g := .inr (19, 0, t)) rfl rfl rfl
theorem g57_78 {x : Int32} {a0 a1 a3 a4 : Option sl_V} : sl_Go xs N 57 78 [a0, a1, some (.inl x), a3, a4] st σ Q ↔ sl_Go xs N 57 79 [a0, a1, some (.inl x), a3, a4] (.inl x :: st) σ Q := gk_iload rfl rfl
theorem g57_79 {L : sl_L} {j : Int32} {r : sl_R} : sl_Go xs N 57 79 L (.inl j :: .inr (.inr r) :: st) σ Q ↔ (0 ≤ j.toInt ∧ j.toInt < sl_ilen N r) ∧ sl_Go xs N 57 80 L (.inl (sl_rd xs σ r j.toNatClampNeg) :: st) σ Q := gk_iald rfl
theorem g57_80 {L : sl_L} : sl_Go xs N 57 80 L st σ Q ↔ sl_Go xs N 57 85 L st σ Q := gk_goto rfl
theorem g57_83 {L : sl_L} : sl_Go xs N 57 83 L st σ Q ↔ sl_Go xs N 57 85 L (.inl (-101) :: st) σ Q := gk_const rfl
theorem g57_85 {L : sl_L} {x : Int32} : sl_Go xs N 57 85 L [.inl x] σ Q ↔ Q (some (.inl x)) σ := gk_iret rfl
theorem g58_0 {x : sl_R} {a1 : Option sl_V} : sl_Go xs N 58 0 [some (.inr (.inr x)), a1] st σ Q ↔ sl_Go xs N 58 1 [some (.inr (.inr x)), a1] (.inr (.inr x) :: st) σ Q := gk_aload rfl rfl
theorem g58_1 {L : sl_L} {i t : Nat} : sl_Go xs N 58 1 L (.inr (.inr (0, i, t)) :: st) σ Q ↔ sl_Go xs N 58 4 L (.inr (.inr (11, 0, 0)) :: st) σ Q := gk_get (g := .inr (11, 0, 0)) rfl rfl rfl
theorem g58_4 {x : Int32} {a0 : Option sl_V} : sl_Go xs N 58 4 [a0, some (.inl x)] st σ Q ↔ sl_Go xs N 58 5 [a0, some (.inl x)] (.inl x :: st) σ Q := gk_iload rfl rfl
theorem g58_5 {L : sl_L} {x0 : Int32} {i t : Nat} : sl_Go xs N 58 5 L (.inl x0 :: .inr (.inr (11, i, t)) :: st) σ Q ↔ sl_cw st ≤ 8 ∧ sl_Go xs N 25 0 [some (.inr (.inr (11, i, t))), some (.inl x0)] [] σ (fun r τ => sl_Go xs N 58 8 L (r.toList ++ st) τ Q) := gk_call rfl (Nat.le_add_left 2 st.length) rfl rfl rfl rfl (Nat.le_of_ble_eq_true rfl)
theorem g58_8 {L : sl_L} {x : Int32} : sl_Go xs N 58 8 L (.inl x :: st) σ Q ↔ (¬ x = 0 → sl_Go xs N 58 13 L st σ Q) ∧ (x = 0 → sl_Go xs N 58 11 L st σ Q) := gk_zne rfl
theorem g58_11 {L : sl_L} : sl_Go xs N 58 11 L st σ Q ↔ sl_Go xs N 58 12 L (.inl (-1) :: st) σ Q := gk_const rfl
theorem g58_12 {L : sl_L} {x : Int32} : sl_Go xs N 58 12 L [.inl x] σ Q ↔ Q (some (.inl x)) σ := gk_iret rfl
theorem g58_13 {x : sl_R} {a1 : Option sl_V} : sl_Go xs N 58 13 [some (.inr (.inr x)), a1] st σ Q ↔ sl_Go xs N 58 14 [some (.inr (.inr x)), a1] (.inr (.inr x) :: st) σ Q := gk_aload rfl rfl
theorem g58_14 {L : sl_L} {i t : Nat} : sl_Go xs N 58 14 L (.inr (.inr (0, i, t)) :: st) σ Q ↔ sl_Go xs N 58 17 L (.inr (.inr (1, 1, 0)) :: st) σ Q := gk_get (g := .inr (1, 1, 0)) rfl rfl rfl
theorem g58_17 {L : sl_L} {i t : Nat} : sl_Go xs N 58 17 L (.inr (.inr (1, i, t)) :: st) σ Q ↔ sl_Go xs N 58 20 L (.inl (σ i 0 2) :: st) σ Q := gk_get (g := .inl (i, 0, 2)) rfl rfl rfl
theorem g58_20 {L : sl_L} : sl_Go xs N 58 20 L st σ Q ↔ sl_Go xs N 58 21 L (.inl (-1) :: st) σ Q := gk_const rfl
theorem g58_21 {L : sl_L} {x y : Int32} : sl_Go xs N 58 21 L (.inl y :: .inl x :: st) σ Q ↔ (x = y → sl_Go xs N 58 27 L st σ Q) ∧ (¬ x = y → sl_Go xs N 58 24 L st σ Q) := gk_ieq rfl
theorem g58_24 {L : sl_L} : sl_Go xs N 58 24 L st σ Q ↔ sl_Go xs N 58 26 L (.inl (-3) :: st) σ Q := gk_const rfl
theorem g58_26 {L : sl_L} {x : Int32} : sl_Go xs N 58 26 L [.inl x] σ Q ↔ Q (some (.inl x)) σ := gk_iret rfl
theorem g58_27 {x : sl_R} {a1 : Option sl_V} : sl_Go xs N 58 27 [some (.inr (.inr x)), a1] st σ Q ↔ sl_Go xs N 58 28 [some (.inr (.inr x)), a1] (.inr (.inr x) :: st) σ Q := gk_aload rfl rfl
theorem g58_28 {L : sl_L} {i t : Nat} : sl_Go xs N 58 28 L (.inr (.inr (0, i, t)) :: st) σ Q ↔ sl_Go xs N 58 31 L (.inr (.inr (1, 1, 0)) :: st) σ Q := gk_get (g := .inr (1, 1, 0)) rfl rfl rfl
theorem g58_31 {x : Int32} {a0 : Option sl_V} : sl_Go xs N 58 31 [a0, some (.inl x)] st σ Q ↔ sl_Go xs N 58 32 [a0, some (.inl x)] (.inl x :: st) σ Q := gk_iload rfl rfl
theorem g58_32 {L : sl_L} {x0 : Int32} {i t : Nat} : sl_Go xs N 58 32 L (.inl x0 :: .inr (.inr (1, i, t)) :: st) σ Q ↔ sl_cw st ≤ 8 ∧ sl_Go xs N 13 0 [some (.inr (.inr (1, i, t))), some (.inl x0)] [] σ (fun r τ => sl_Go xs N 58 35 L (r.toList ++ st) τ Q) := gk_call rfl (Nat.le_add_left 2 st.length) rfl rfl rfl rfl (Nat.le_of_ble_eq_true rfl)
theorem g58_35 {x : Int32} {a0 : Option sl_V} : sl_Go xs N 58 35 [a0, some (.inl x)] st σ Q ↔ sl_Go xs N 58 36 [a0, some (.inl x)] (.inl x :: st) σ Q := gk_iload rfl rfl
theorem g58_36 {L : sl_L} {x : Int32} : sl_Go xs N 58 36 L [.inl x] σ Q ↔ Q (some (.inl x)) σ := gk_iret rfl
theorem g59_0 {x : sl_R} {a1 a2 : Option sl_V} : sl_Go xs N 59 0 [some (.inr (.inr x)), a1, a2] st σ Q ↔ sl_Go xs N 59 1 [some (.inr (.inr x)), a1, a2] (.inr (.inr x) :: st) σ Q := gk_aload rfl rfl
theorem g59_1 {L : sl_L} {i t : Nat} : sl_Go xs N 59 1 L (.inr (.inr (0, i, t)) :: st) σ Q ↔ sl_Go xs N 59 4 L (.inr (.inr (11, 0, 0)) :: st) σ Q := gk_get (g := .inr (11, 0, 0)) rfl rfl rfl
theorem g59_4 {x : Int32} {a0 a2 : Option sl_V} : sl_Go xs N 59 4 [a0, some (.inl x), a2] st σ Q ↔ sl_Go xs N 59 5 [a0, some (.inl x), a2] (.inl x :: st) σ Q := gk_iload rfl rfl
theorem g59_5 {L : sl_L} {x0 : Int32} {i t : Nat} : sl_Go xs N 59 5 L (.inl x0 :: .inr (.inr (11, i, t)) :: st) σ Q ↔ sl_cw st ≤ 8 ∧ sl_Go xs N 23 0 [some (.inr (.inr (11, i, t))), some (.inl x0)] [] σ (fun r τ => sl_Go xs N 59 8 L (r.toList ++ st) τ Q) := gk_call rfl (Nat.le_add_left 2 st.length) rfl rfl rfl rfl (Nat.le_of_ble_eq_true rfl)
theorem g59_8 {L : sl_L} {x : Int32} : sl_Go xs N 59 8 L (.inl x :: st) σ Q ↔ (¬ x = 0 → sl_Go xs N 59 13 L st σ Q) ∧ (x = 0 → sl_Go xs N 59 11 L st σ Q) := gk_zne rfl
theorem g59_11 {L : sl_L} : sl_Go xs N 59 11 L st σ Q ↔ sl_Go xs N 59 12 L (.inl (-1) :: st) σ Q := gk_const rfl
theorem g59_12 {L : sl_L} {x : Int32} : sl_Go xs N 59 12 L [.inl x] σ Q ↔ Q (some (.inl x)) σ := gk_iret rfl
theorem g59_13 {x : sl_R} {a1 a2 : Option sl_V} : sl_Go xs N 59 13 [some (.inr (.inr x)), a1, a2] st σ Q ↔ sl_Go xs N 59 14 [some (.inr (.inr x)), a1, a2] (.inr (.inr x) :: st) σ Q := gk_aload rfl rfl
theorem g59_14 {L : sl_L} {i t : Nat} : sl_Go xs N 59 14 L (.inr (.inr (0, i, t)) :: st) σ Q ↔ sl_Go xs N 59 17 L (.inr (.inr (11, 0, 0)) :: st) σ Q := gk_get (g := .inr (11, 0, 0)) rfl rfl rfl
theorem g59_17 {L : sl_L} {i t : Nat} : sl_Go xs N 59 17 L (.inr (.inr (11, i, t)) :: st) σ Q ↔ sl_Go xs N 59 20 L (.inr (.inr (12, 0, 0)) :: st) σ Q := gk_get (g := .inr (12, 0, 0)) rfl rfl rfl
theorem g59_20 {x : Int32} {a0 a2 : Option sl_V} : sl_Go xs N 59 20 [a0, some (.inl x), a2] st σ Q ↔ sl_Go xs N 59 21 [a0, some (.inl x), a2] (.inl x :: st) σ Q := gk_iload rfl rfl
theorem g59_21 {L : sl_L} {j : Int32} {r : sl_R} : sl_Go xs N 59 21 L (.inl j :: .inr (.inr r) :: st) σ Q ↔ (0 ≤ j.toInt ∧ j.toInt < sl_rlen r) ∧ sl_Go xs N 59 22 L (.inr (.inr (sl_rg r j.toNatClampNeg)) :: st) σ Q := gk_aald rfl
theorem g59_22 {x : Int32} {a0 a1 : Option sl_V} : sl_Go xs N 59 22 [a0, a1, some (.inl x)] st σ Q ↔ sl_Go xs N 59 23 [a0, a1, some (.inl x)] (.inl x :: st) σ Q := gk_iload rfl rfl
theorem g59_23 {L : sl_L} {x0 : Int32} {i t : Nat} : sl_Go xs N 59 23 L (.inl x0 :: .inr (.inr (13, i, t)) :: st) σ Q ↔ sl_cw st ≤ 8 ∧ sl_Go xs N 33 0 [some (.inr (.inr (13, i, t))), some (.inl x0)] [] σ (fun r τ => sl_Go xs N 59 26 L (r.toList ++ st) τ Q) := gk_call rfl (Nat.le_add_left 2 st.length) rfl rfl rfl rfl (Nat.le_of_ble_eq_true rfl)
theorem g59_26 {L : sl_L} {x : Int32} : sl_Go xs N 59 26 L (.inl x :: st) σ Q ↔ (x = 0 → sl_Go xs N 59 43 L st σ Q) ∧ (¬ x = 0 → sl_Go xs N 59 29 L st σ Q) := gk_zeq rfl
theorem g59_29 {x : sl_R} {a1 a2 : Option sl_V} : sl_Go xs N 59 29 [some (.inr (.inr x)), a1, a2] st σ Q ↔ sl_Go xs N 59 30 [some (.inr (.inr x)), a1, a2] (.inr (.inr x) :: st) σ Q := gk_aload rfl rfl
theorem g59_30 {L : sl_L} {i t : Nat} : sl_Go xs N 59 30 L (.inr (.inr (0, i, t)) :: st) σ Q ↔ sl_Go xs N 59 33 L (.inr (.inr (1, 1, 0)) :: st) σ Q := gk_get (g := .inr (1, 1, 0)) rfl rfl rfl
theorem g59_33 {L : sl_L} {i t : Nat} : sl_Go xs N 59 33 L (.inr (.inr (1, i, t)) :: st) σ Q ↔ sl_Go xs N 59 36 L (.inr (.inr (2, i, 0)) :: st) σ Q := gk_get (g := .inr (2, i, 0)) rfl rfl rfl
theorem g59_36 {x : Int32} {a0 a2 : Option sl_V} : sl_Go xs N 59 36 [a0, some (.inl x), a2] st σ Q ↔ sl_Go xs N 59 37 [a0, some (.inl x), a2] (.inl x :: st) σ Q := gk_iload rfl rfl
theorem g59_37 {L : sl_L} {j : Int32} {r : sl_R} : sl_Go xs N 59 37 L (.inl j :: .inr (.inr r) :: st) σ Q ↔ (0 ≤ j.toInt ∧ j.toInt < sl_rlen r) ∧ sl_Go xs N 59 38 L (.inr (.inr (sl_rg r j.toNatClampNeg)) :: st) σ Q := gk_aald rfl
theorem g59_38 {x : Int32} {a0 a1 : Option sl_V} : sl_Go xs N 59 38 [a0, a1, some (.inl x)] st σ Q ↔ sl_Go xs N 59 39 [a0, a1, some (.inl x)] (.inl x :: st) σ Q := gk_iload rfl rfl
theorem g59_39 {L : sl_L} {j : Int32} {r : sl_R} : sl_Go xs N 59 39 L (.inl j :: .inr (.inr r) :: st) σ Q ↔ (0 ≤ j.toInt ∧ j.toInt < sl_ilen N r) ∧ sl_Go xs N 59 40 L (.inl (sl_rd xs σ r j.toNatClampNeg) :: st) σ Q := gk_iald rfl
theorem g59_40 {L : sl_L} : sl_Go xs N 59 40 L st σ Q ↔ sl_Go xs N 59 45 L st σ Q := gk_goto rfl
theorem g59_43 {L : sl_L} : sl_Go xs N 59 43 L st σ Q ↔ sl_Go xs N 59 45 L (.inl (-2) :: st) σ Q := gk_const rfl
theorem g59_45 {L : sl_L} {x : Int32} : sl_Go xs N 59 45 L [.inl x] σ Q ↔ Q (some (.inl x)) σ := gk_iret rfl
theorem g60_0 {x : sl_R} {a1 a2 : Option sl_V} : sl_Go xs N 60 0 [some (.inr (.inr x)), a1, a2] st σ Q ↔ sl_Go xs N 60 1 [some (.inr (.inr x)), a1, a2] (.inr (.inr x) :: st) σ Q := gk_aload rfl rfl
theorem g60_1 {L : sl_L} {i t : Nat} : sl_Go xs N 60 1 L (.inr (.inr (0, i, t)) :: st) σ Q ↔ sl_Go xs N 60 4 L (.inr (.inr (11, 0, 0)) :: st) σ Q := gk_get (g := .inr (11, 0, 0)) rfl rfl rfl
theorem g60_4 {x : Int32} {a0 a2 : Option sl_V} : sl_Go xs N 60 4 [a0, some (.inl x), a2] st σ Q ↔ sl_Go xs N 60 5 [a0, some (.inl x), a2] (.inl x :: st) σ Q := gk_iload rfl rfl
theorem g60_5 {L : sl_L} {x0 : Int32} {i t : Nat} : sl_Go xs N 60 5 L (.inl x0 :: .inr (.inr (11, i, t)) :: st) σ Q ↔ sl_cw st ≤ 8 ∧ sl_Go xs N 23 0 [some (.inr (.inr (11, i, t))), some (.inl x0)] [] σ (fun r τ => sl_Go xs N 60 8 L (r.toList ++ st) τ Q) := gk_call rfl (Nat.le_add_left 2 st.length) rfl rfl rfl rfl (Nat.le_of_ble_eq_true rfl)
theorem g60_8 {L : sl_L} {x : Int32} : sl_Go xs N 60 8 L (.inl x :: st) σ Q ↔ (¬ x = 0 → sl_Go xs N 60 14 L st σ Q) ∧ (x = 0 → sl_Go xs N 60 11 L st σ Q) := gk_zne rfl
theorem g60_11 {L : sl_L} : sl_Go xs N 60 11 L st σ Q ↔ sl_Go xs N 60 13 L (.inl (-1000000) :: st) σ Q := gk_const rfl
theorem g60_13 {L : sl_L} {x : Int32} : sl_Go xs N 60 13 L [.inl x] σ Q ↔ Q (some (.inl x)) σ := gk_iret rfl
theorem g60_14 {x : sl_R} {a1 a2 : Option sl_V} : sl_Go xs N 60 14 [some (.inr (.inr x)), a1, a2] st σ Q ↔ sl_Go xs N 60 15 [some (.inr (.inr x)), a1, a2] (.inr (.inr x) :: st) σ Q := gk_aload rfl rfl
theorem g60_15 {L : sl_L} {i t : Nat} : sl_Go xs N 60 15 L (.inr (.inr (0, i, t)) :: st) σ Q ↔ sl_Go xs N 60 18 L (.inr (.inr (11, 0, 0)) :: st) σ Q := gk_get (g := .inr (11, 0, 0)) rfl rfl rfl
theorem g60_18 {L : sl_L} {i t : Nat} : sl_Go xs N 60 18 L (.inr (.inr (11, i, t)) :: st) σ Q ↔ sl_Go xs N 60 21 L (.inr (.inr (12, 0, 0)) :: st) σ Q := gk_get (g := .inr (12, 0, 0)) rfl rfl rfl
theorem g60_21 {x : Int32} {a0 a2 : Option sl_V} : sl_Go xs N 60 21 [a0, some (.inl x), a2] st σ Q ↔ sl_Go xs N 60 22 [a0, some (.inl x), a2] (.inl x :: st) σ Q := gk_iload rfl rfl
theorem g60_22 {L : sl_L} {j : Int32} {r : sl_R} : sl_Go xs N 60 22 L (.inl j :: .inr (.inr r) :: st) σ Q ↔ (0 ≤ j.toInt ∧ j.toInt < sl_rlen r) ∧ sl_Go xs N 60 23 L (.inr (.inr (sl_rg r j.toNatClampNeg)) :: st) σ Q := gk_aald rfl
theorem g60_23 {x : Int32} {a0 a1 : Option sl_V} : sl_Go xs N 60 23 [a0, a1, some (.inl x)] st σ Q ↔ sl_Go xs N 60 24 [a0, a1, some (.inl x)] (.inl x :: st) σ Q := gk_iload rfl rfl
theorem g60_24 {L : sl_L} {x0 : Int32} {i t : Nat} : sl_Go xs N 60 24 L (.inl x0 :: .inr (.inr (13, i, t)) :: st) σ Q ↔ sl_cw st ≤ 8 ∧ sl_Go xs N 34 0 [some (.inr (.inr (13, i, t))), some (.inl x0)] [] σ (fun r τ => sl_Go xs N 60 27 L (r.toList ++ st) τ Q) := gk_call rfl (Nat.le_add_left 2 st.length) rfl rfl rfl rfl (Nat.le_of_ble_eq_true rfl)
theorem g60_27 {L : sl_L} {x : Int32} : sl_Go xs N 60 27 L (.inl x :: st) σ Q ↔ (x = 0 → sl_Go xs N 60 44 L st σ Q) ∧ (¬ x = 0 → sl_Go xs N 60 30 L st σ Q) := gk_zeq rfl
theorem g60_30 {x : sl_R} {a1 a2 : Option sl_V} : sl_Go xs N 60 30 [some (.inr (.inr x)), a1, a2] st σ Q ↔ sl_Go xs N 60 31 [some (.inr (.inr x)), a1, a2] (.inr (.inr x) :: st) σ Q := gk_aload rfl rfl
theorem g60_31 {L : sl_L} {i t : Nat} : sl_Go xs N 60 31 L (.inr (.inr (0, i, t)) :: st) σ Q ↔ sl_Go xs N 60 34 L (.inr (.inr (1, 1, 0)) :: st) σ Q := gk_get (g := .inr (1, 1, 0)) rfl rfl rfl
theorem g60_34 {L : sl_L} {i t : Nat} : sl_Go xs N 60 34 L (.inr (.inr (1, i, t)) :: st) σ Q ↔ sl_Go xs N 60 37 L (.inr (.inr (3, i, 0)) :: st) σ Q := gk_get (g := .inr (3, i, 0)) rfl rfl rfl
theorem g60_37 {x : Int32} {a0 a2 : Option sl_V} : sl_Go xs N 60 37 [a0, some (.inl x), a2] st σ Q ↔ sl_Go xs N 60 38 [a0, some (.inl x), a2] (.inl x :: st) σ Q := gk_iload rfl rfl
theorem g60_38 {L : sl_L} {j : Int32} {r : sl_R} : sl_Go xs N 60 38 L (.inl j :: .inr (.inr r) :: st) σ Q ↔ (0 ≤ j.toInt ∧ j.toInt < sl_rlen r) ∧ sl_Go xs N 60 39 L (.inr (.inr (sl_rg r j.toNatClampNeg)) :: st) σ Q := gk_aald rfl
theorem g60_39 {x : Int32} {a0 a1 : Option sl_V} : sl_Go xs N 60 39 [a0, a1, some (.inl x)] st σ Q ↔ sl_Go xs N 60 40 [a0, a1, some (.inl x)] (.inl x :: st) σ Q := gk_iload rfl rfl
theorem g60_40 {L : sl_L} {j : Int32} {r : sl_R} : sl_Go xs N 60 40 L (.inl j :: .inr (.inr r) :: st) σ Q ↔ (0 ≤ j.toInt ∧ j.toInt < sl_ilen N r) ∧ sl_Go xs N 60 41 L (.inl (sl_rd xs σ r j.toNatClampNeg) :: st) σ Q := gk_iald rfl
theorem g60_41 {L : sl_L} : sl_Go xs N 60 41 L st σ Q ↔ sl_Go xs N 60 46 L st σ Q := gk_goto rfl
theorem g60_44 {L : sl_L} : sl_Go xs N 60 44 L st σ Q ↔ sl_Go xs N 60 46 L (.inl (-1000001) :: st) σ Q := gk_const rfl
theorem g60_46 {L : sl_L} {x : Int32} : sl_Go xs N 60 46 L [.inl x] σ Q ↔ Q (some (.inl x)) σ := gk_iret rfl
theorem g61_0 {x : sl_R} {a1 a2 : Option sl_V} : sl_Go xs N 61 0 [some (.inr (.inr x)), a1, a2] st σ Q ↔ sl_Go xs N 61 1 [some (.inr (.inr x)), a1, a2] (.inr (.inr x) :: st) σ Q := gk_aload rfl rfl
theorem g61_1 {L : sl_L} {i t : Nat} : sl_Go xs N 61 1 L (.inr (.inr (0, i, t)) :: st) σ Q ↔ sl_Go xs N 61 4 L (.inr (.inr (11, 0, 0)) :: st) σ Q := gk_get (g := .inr (11, 0, 0)) rfl rfl rfl
theorem g61_4 {x : Int32} {a0 a2 : Option sl_V} : sl_Go xs N 61 4 [a0, some (.inl x), a2] st σ Q ↔ sl_Go xs N 61 5 [a0, some (.inl x), a2] (.inl x :: st) σ Q := gk_iload rfl rfl
theorem g61_5 {L : sl_L} {x0 : Int32} {i t : Nat} : sl_Go xs N 61 5 L (.inl x0 :: .inr (.inr (11, i, t)) :: st) σ Q ↔ sl_cw st ≤ 8 ∧ sl_Go xs N 23 0 [some (.inr (.inr (11, i, t))), some (.inl x0)] [] σ (fun r τ => sl_Go xs N 61 8 L (r.toList ++ st) τ Q) := gk_call rfl (Nat.le_add_left 2 st.length) rfl rfl rfl rfl (Nat.le_of_ble_eq_true rfl)
theorem g61_8 {L : sl_L} {x : Int32} : sl_Go xs N 61 8 L (.inl x :: st) σ Q ↔ (¬ x = 0 → sl_Go xs N 61 13 L st σ Q) ∧ (x = 0 → sl_Go xs N 61 11 L st σ Q) := gk_zne rfl
theorem g61_11 {L : sl_L} : sl_Go xs N 61 11 L st σ Q ↔ sl_Go xs N 61 12 L (.inl (-1) :: st) σ Q := gk_const rfl
theorem g61_12 {L : sl_L} {x : Int32} : sl_Go xs N 61 12 L [.inl x] σ Q ↔ Q (some (.inl x)) σ := gk_iret rfl
theorem g61_13 {x : Int32} {a0 a1 : Option sl_V} : sl_Go xs N 61 13 [a0, a1, some (.inl x)] st σ Q ↔ sl_Go xs N 61 14 [a0, a1, some (.inl x)] (.inl x :: st) σ Q := gk_iload rfl rfl
theorem g61_14 {L : sl_L} {x : Int32} : sl_Go xs N 61 14 L (.inl x :: st) σ Q ↔ (x = 0 → sl_Go xs N 61 48 L st σ Q) ∧ (¬ x = 0 → (x = 1 → sl_Go xs N 61 61 L st σ Q) ∧ (¬ x = 1 → (x = 2 → sl_Go xs N 61 70 L st σ Q) ∧ (¬ x = 2 → (x = 3 → sl_Go xs N 61 80 L st σ Q) ∧ (¬ x = 3 → (x = 4 → sl_Go xs N 61 90 L st σ Q) ∧ (¬ x = 4 → sl_Go xs N 61 103 L st σ Q))))) := gk_sw (ts := sl_sw 0) rfl rfl (Nat.le_of_ble_eq_true rfl)
theorem g61_48 {x : sl_R} {a1 a2 : Option sl_V} : sl_Go xs N 61 48 [some (.inr (.inr x)), a1, a2] st σ Q ↔ sl_Go xs N 61 49 [some (.inr (.inr x)), a1, a2] (.inr (.inr x) :: st) σ Q := gk_aload rfl rfl
theorem g61_49 {L : sl_L} {i t : Nat} : sl_Go xs N 61 49 L (.inr (.inr (0, i, t)) :: st) σ Q ↔ sl_Go xs N 61 52 L (.inr (.inr (11, 0, 0)) :: st) σ Q := gk_get (g := .inr (11, 0, 0)) rfl rfl rfl
theorem g61_52 {L : sl_L} {i t : Nat} : sl_Go xs N 61 52 L (.inr (.inr (11, i, t)) :: st) σ Q ↔ sl_Go xs N 61 55 L (.inr (.inr (12, 0, 0)) :: st) σ Q := gk_get (g := .inr (12, 0, 0)) rfl rfl rfl
theorem g61_55 {x : Int32} {a0 a2 : Option sl_V} : sl_Go xs N 61 55 [a0, some (.inl x), a2] st σ Q ↔ sl_Go xs N 61 56 [a0, some (.inl x), a2] (.inl x :: st) σ Q := gk_iload rfl rfl
theorem g61_56 {L : sl_L} {j : Int32} {r : sl_R} : sl_Go xs N 61 56 L (.inl j :: .inr (.inr r) :: st) σ Q ↔ (0 ≤ j.toInt ∧ j.toInt < sl_rlen r) ∧ sl_Go xs N 61 57 L (.inr (.inr (sl_rg r j.toNatClampNeg)) :: st) σ Q := gk_aald rfl
theorem g61_57 {L : sl_L} {i t : Nat} : sl_Go xs N 61 57 L (.inr (.inr (13, i, t)) :: st) σ Q ↔ sl_Go xs N 61 60 L (.inl (σ 5 1 t) :: st) σ Q := gk_get (g := .inl (5, 1, t)) rfl rfl rfl
theorem g61_60 {L : sl_L} {x : Int32} : sl_Go xs N 61 60 L [.inl x] σ Q ↔ Q (some (.inl x)) σ := gk_iret rfl
theorem g61_61 {x : sl_R} {a1 a2 : Option sl_V} : sl_Go xs N 61 61 [some (.inr (.inr x)), a1, a2] st σ Q ↔ sl_Go xs N 61 62 [some (.inr (.inr x)), a1, a2] (.inr (.inr x) :: st) σ Q := gk_aload rfl rfl
theorem g61_62 {L : sl_L} {i t : Nat} : sl_Go xs N 61 62 L (.inr (.inr (0, i, t)) :: st) σ Q ↔ sl_Go xs N 61 65 L (.inr (.inr (1, 1, 0)) :: st) σ Q := gk_get (g := .inr (1, 1, 0)) rfl rfl rfl
theorem g61_65 {x : Int32} {a0 a2 : Option sl_V} : sl_Go xs N 61 65 [a0, some (.inl x), a2] st σ Q ↔ sl_Go xs N 61 66 [a0, some (.inl x), a2] (.inl x :: st) σ Q := gk_iload rfl rfl
theorem g61_66 {L : sl_L} {x0 : Int32} {i t : Nat} : sl_Go xs N 61 66 L (.inl x0 :: .inr (.inr (1, i, t)) :: st) σ Q ↔ sl_cw st ≤ 8 ∧ sl_Go xs N 11 0 [some (.inr (.inr (1, i, t))), some (.inl x0), none, none] [] σ (fun r τ => sl_Go xs N 61 69 L (r.toList ++ st) τ Q) := gk_call rfl (Nat.le_add_left 2 st.length) rfl rfl rfl rfl (Nat.le_of_ble_eq_true rfl)
theorem g61_69 {L : sl_L} {x : Int32} : sl_Go xs N 61 69 L [.inl x] σ Q ↔ Q (some (.inl x)) σ := gk_iret rfl
theorem g61_70 {x : sl_R} {a1 a2 : Option sl_V} : sl_Go xs N 61 70 [some (.inr (.inr x)), a1, a2] st σ Q ↔ sl_Go xs N 61 71 [some (.inr (.inr x)), a1, a2] (.inr (.inr x) :: st) σ Q := gk_aload rfl rfl
theorem g61_71 {L : sl_L} {i t : Nat} : sl_Go xs N 61 71 L (.inr (.inr (0, i, t)) :: st) σ Q ↔ sl_Go xs N 61 74 L (.inr (.inr (1, 1, 0)) :: st) σ Q := gk_get (g := .inr (1, 1, 0)) rfl rfl rfl
theorem g61_74 {L : sl_L} {i t : Nat} : sl_Go xs N 61 74 L (.inr (.inr (1, i, t)) :: st) σ Q ↔ sl_Go xs N 61 77 L (.inr (.inr (6, i, 0)) :: st) σ Q := gk_get (g := .inr (6, i, 0)) rfl rfl rfl
theorem g61_77 {x : Int32} {a0 a2 : Option sl_V} : sl_Go xs N 61 77 [a0, some (.inl x), a2] st σ Q ↔ sl_Go xs N 61 78 [a0, some (.inl x), a2] (.inl x :: st) σ Q := gk_iload rfl rfl
theorem g61_78 {L : sl_L} {j : Int32} {r : sl_R} : sl_Go xs N 61 78 L (.inl j :: .inr (.inr r) :: st) σ Q ↔ (0 ≤ j.toInt ∧ j.toInt < sl_ilen N r) ∧ sl_Go xs N 61 79 L (.inl (sl_rd xs σ r j.toNatClampNeg) :: st) σ Q := gk_iald rfl
theorem g61_79 {L : sl_L} {x : Int32} : sl_Go xs N 61 79 L [.inl x] σ Q ↔ Q (some (.inl x)) σ := gk_iret rfl
theorem g61_80 {x : sl_R} {a1 a2 : Option sl_V} : sl_Go xs N 61 80 [some (.inr (.inr x)), a1, a2] st σ Q ↔ sl_Go xs N 61 81 [some (.inr (.inr x)), a1, a2] (.inr (.inr x) :: st) σ Q := gk_aload rfl rfl
theorem g61_81 {L : sl_L} {i t : Nat} : sl_Go xs N 61 81 L (.inr (.inr (0, i, t)) :: st) σ Q ↔ sl_Go xs N 61 84 L (.inr (.inr (1, 1, 0)) :: st) σ Q := gk_get (g := .inr (1, 1, 0)) rfl rfl rfl
theorem g61_84 {L : sl_L} {i t : Nat} : sl_Go xs N 61 84 L (.inr (.inr (1, i, t)) :: st) σ Q ↔ sl_Go xs N 61 87 L (.inr (.inr (7, i, 0)) :: st) σ Q := gk_get (g := .inr (7, i, 0)) rfl rfl rfl
theorem g61_87 {x : Int32} {a0 a2 : Option sl_V} : sl_Go xs N 61 87 [a0, some (.inl x), a2] st σ Q ↔ sl_Go xs N 61 88 [a0, some (.inl x), a2] (.inl x :: st) σ Q := gk_iload rfl rfl
theorem g61_88 {L : sl_L} {j : Int32} {r : sl_R} : sl_Go xs N 61 88 L (.inl j :: .inr (.inr r) :: st) σ Q ↔ (0 ≤ j.toInt ∧ j.toInt < sl_ilen N r) ∧ sl_Go xs N 61 89 L (.inl (sl_rd xs σ r j.toNatClampNeg) :: st) σ Q := gk_iald rfl
theorem g61_89 {L : sl_L} {x : Int32} : sl_Go xs N 61 89 L [.inl x] σ Q ↔ Q (some (.inl x)) σ := gk_iret rfl
theorem g61_90 {x : sl_R} {a1 a2 : Option sl_V} : sl_Go xs N 61 90 [some (.inr (.inr x)), a1, a2] st σ Q ↔ sl_Go xs N 61 91 [some (.inr (.inr x)), a1, a2] (.inr (.inr x) :: st) σ Q := gk_aload rfl rfl
theorem g61_91 {L : sl_L} {i t : Nat} : sl_Go xs N 61 91 L (.inr (.inr (0, i, t)) :: st) σ Q ↔ sl_Go xs N 61 94 L (.inr (.inr (11, 0, 0)) :: st) σ Q := gk_get (g := .inr (11, 0, 0)) rfl rfl rfl
theorem g61_94 {L : sl_L} {i t : Nat} : sl_Go xs N 61 94 L (.inr (.inr (11, i, t)) :: st) σ Q ↔ sl_Go xs N 61 97 L (.inr (.inr (12, 0, 0)) :: st) σ Q := gk_get (g := .inr (12, 0, 0)) rfl rfl rfl
theorem g61_97 {x : Int32} {a0 a2 : Option sl_V} : sl_Go xs N 61 97 [a0, some (.inl x), a2] st σ Q ↔ sl_Go xs N 61 98 [a0, some (.inl x), a2] (.inl x :: st) σ Q := gk_iload rfl rfl
theorem g61_98 {L : sl_L} {j : Int32} {r : sl_R} : sl_Go xs N 61 98 L (.inl j :: .inr (.inr r) :: st) σ Q ↔ (0 ≤ j.toInt ∧ j.toInt < sl_rlen r) ∧ sl_Go xs N 61 99 L (.inr (.inr (sl_rg r j.toNatClampNeg)) :: st) σ Q := gk_aald rfl
theorem g61_99 {L : sl_L} {i t : Nat} : sl_Go xs N 61 99 L (.inr (.inr (13, i, t)) :: st) σ Q ↔ sl_cw st ≤ 8 ∧ sl_Go xs N 32 0 [some (.inr (.inr (13, i, t)))] [] σ (fun r τ => sl_Go xs N 61 102 L (r.toList ++ st) τ Q) := gk_call rfl (Nat.le_add_left 1 st.length) rfl rfl rfl rfl (Nat.le_of_ble_eq_true rfl)
theorem g61_102 {L : sl_L} {x : Int32} : sl_Go xs N 61 102 L [.inl x] σ Q ↔ Q (some (.inl x)) σ := gk_iret rfl
theorem g61_103 {L : sl_L} : sl_Go xs N 61 103 L st σ Q ↔ sl_Go xs N 61 105 L (.inl (-2) :: st) σ Q := gk_const rfl
theorem g61_105 {L : sl_L} {x : Int32} : sl_Go xs N 61 105 L [.inl x] σ Q ↔ Q (some (.inl x)) σ := gk_iret rfl
theorem g62_0 {x : Int32} {a0 a2 a3 : Option sl_V} : sl_Go xs N 62 0 [a0, some (.inl x), a2, a3] st σ Q ↔ sl_Go xs N 62 1 [a0, some (.inl x), a2, a3] (.inl x :: st) σ Q := gk_iload rfl rfl
theorem g62_1 {L : sl_L} {x0 : Int32} : sl_Go xs N 62 1 L (.inl x0 :: st) σ Q ↔ sl_cw st ≤ 8 ∧ sl_Go xs N 4 0 [some (.inl x0)] [] σ (fun r τ => sl_Go xs N 62 4 L (r.toList ++ st) τ Q) := gk_call rfl (Nat.le_add_left 1 st.length) rfl rfl rfl rfl (Nat.le_of_ble_eq_true rfl)
theorem g62_4 {L : sl_L} {x : Int32} : sl_Go xs N 62 4 L (.inl x :: st) σ Q ↔ (x = 0 → sl_Go xs N 62 17 L st σ Q) ∧ (¬ x = 0 → sl_Go xs N 62 7 L st σ Q) := gk_zeq rfl
theorem g62_7 {x : Int32} {a0 a1 a2 : Option sl_V} : sl_Go xs N 62 7 [a0, a1, a2, some (.inl x)] st σ Q ↔ sl_Go xs N 62 8 [a0, a1, a2, some (.inl x)] (.inl x :: st) σ Q := gk_iload rfl rfl
theorem g62_8 {L : sl_L} : sl_Go xs N 62 8 L st σ Q ↔ sl_Go xs N 62 9 L (.inl 0 :: st) σ Q := gk_const rfl
theorem g62_9 {L : sl_L} : sl_Go xs N 62 9 L st σ Q ↔ sl_Go xs N 62 11 L (.inl 50 :: st) σ Q := gk_const rfl
theorem g62_11 {L : sl_L} {x0 : Int32} {x1 : Int32} {x2 : Int32} : sl_Go xs N 62 11 L (.inl x2 :: .inl x1 :: .inl x0 :: st) σ Q ↔ sl_cw st ≤ 8 ∧ sl_Go xs N 81 0 [some (.inl x0), some (.inl x1), some (.inl x2)] [] σ (fun r τ => sl_Go xs N 62 14 L (r.toList ++ st) τ Q) := gk_call rfl (Nat.le_add_left 3 st.length) rfl rfl rfl rfl (Nat.le_of_ble_eq_true rfl)
theorem g62_14 {L : sl_L} {x : Int32} : sl_Go xs N 62 14 L (.inl x :: st) σ Q ↔ (¬ x = 0 → sl_Go xs N 62 20 L st σ Q) ∧ (x = 0 → sl_Go xs N 62 17 L st σ Q) := gk_zne rfl
theorem g62_17 {L : sl_L} : sl_Go xs N 62 17 L st σ Q ↔ sl_Go xs N 62 19 L (.inl (-2) :: st) σ Q := gk_const rfl
theorem g62_19 {L : sl_L} {x : Int32} : sl_Go xs N 62 19 L [.inl x] σ Q ↔ Q (some (.inl x)) σ := gk_iret rfl
theorem g62_20 {x : Int32} {a0 a1 a3 : Option sl_V} : sl_Go xs N 62 20 [a0, a1, some (.inl x), a3] st σ Q ↔ sl_Go xs N 62 21 [a0, a1, some (.inl x), a3] (.inl x :: st) σ Q := gk_iload rfl rfl
theorem g62_21 {L : sl_L} {x : Int32} : sl_Go xs N 62 21 L (.inl x :: st) σ Q ↔ (x = 0 → sl_Go xs N 62 52 L st σ Q) ∧ (¬ x = 0 → (x = 1 → sl_Go xs N 62 57 L st σ Q) ∧ (¬ x = 1 → (x = 2 → sl_Go xs N 62 62 L st σ Q) ∧ (¬ x = 2 → (x = 3 → sl_Go xs N 62 68 L st σ Q) ∧ (¬ x = 3 → sl_Go xs N 62 81 L st σ Q)))) := gk_sw (ts := sl_sw 1) rfl rfl (Nat.le_of_ble_eq_true rfl)
theorem g62_52 {x : Int32} {a0 a2 a3 : Option sl_V} : sl_Go xs N 62 52 [a0, some (.inl x), a2, a3] st σ Q ↔ sl_Go xs N 62 53 [a0, some (.inl x), a2, a3] (.inl x :: st) σ Q := gk_iload rfl rfl
theorem g62_53 {L : sl_L} {x0 : Int32} : sl_Go xs N 62 53 L (.inl x0 :: st) σ Q ↔ sl_cw st ≤ 8 ∧ sl_Go xs N 5 0 [some (.inl x0)] [] σ (fun r τ => sl_Go xs N 62 56 L (r.toList ++ st) τ Q) := gk_call rfl (Nat.le_add_left 1 st.length) rfl rfl rfl rfl (Nat.le_of_ble_eq_true rfl)
theorem g62_56 {L : sl_L} {x : Int32} : sl_Go xs N 62 56 L [.inl x] σ Q ↔ Q (some (.inl x)) σ := gk_iret rfl
theorem g62_57 {x : Int32} {a0 a2 a3 : Option sl_V} : sl_Go xs N 62 57 [a0, some (.inl x), a2, a3] st σ Q ↔ sl_Go xs N 62 58 [a0, some (.inl x), a2, a3] (.inl x :: st) σ Q := gk_iload rfl rfl
theorem g62_58 {L : sl_L} {x0 : Int32} : sl_Go xs N 62 58 L (.inl x0 :: st) σ Q ↔ sl_cw st ≤ 8 ∧ sl_Go xs N 6 0 [some (.inl x0)] [] σ (fun r τ => sl_Go xs N 62 61 L (r.toList ++ st) τ Q) := gk_call rfl (Nat.le_add_left 1 st.length) rfl rfl rfl rfl (Nat.le_of_ble_eq_true rfl)
theorem g62_61 {L : sl_L} {x : Int32} : sl_Go xs N 62 61 L [.inl x] σ Q ↔ Q (some (.inl x)) σ := gk_iret rfl
theorem g62_62 {x : Int32} {a0 a2 a3 : Option sl_V} : sl_Go xs N 62 62 [a0, some (.inl x), a2, a3] st σ Q ↔ sl_Go xs N 62 63 [a0, some (.inl x), a2, a3] (.inl x :: st) σ Q := gk_iload rfl rfl
theorem g62_63 {x : Int32} {a0 a1 a2 : Option sl_V} : sl_Go xs N 62 63 [a0, a1, a2, some (.inl x)] st σ Q ↔ sl_Go xs N 62 64 [a0, a1, a2, some (.inl x)] (.inl x :: st) σ Q := gk_iload rfl rfl
theorem g62_64 {L : sl_L} {x0 : Int32} {x1 : Int32} : sl_Go xs N 62 64 L (.inl x1 :: .inl x0 :: st) σ Q ↔ sl_cw st ≤ 8 ∧ sl_Go xs N 7 0 [some (.inl x0), some (.inl x1), none] [] σ (fun r τ => sl_Go xs N 62 67 L (r.toList ++ st) τ Q) := gk_call rfl (Nat.le_add_left 2 st.length) rfl rfl rfl rfl (Nat.le_of_ble_eq_true rfl)
theorem g62_67 {L : sl_L} {x : Int32} : sl_Go xs N 62 67 L [.inl x] σ Q ↔ Q (some (.inl x)) σ := gk_iret rfl
theorem g62_68 {x : Int32} {a0 a2 a3 : Option sl_V} : sl_Go xs N 62 68 [a0, some (.inl x), a2, a3] st σ Q ↔ sl_Go xs N 62 69 [a0, some (.inl x), a2, a3] (.inl x :: st) σ Q := gk_iload rfl rfl
theorem g62_69 {L : sl_L} {x0 : Int32} : sl_Go xs N 62 69 L (.inl x0 :: st) σ Q ↔ sl_cw st ≤ 8 ∧ sl_Go xs N 8 0 [some (.inl x0)] [] σ (fun r τ => sl_Go xs N 62 72 L (r.toList ++ st) τ Q) := gk_call rfl (Nat.le_add_left 1 st.length) rfl rfl rfl rfl (Nat.le_of_ble_eq_true rfl)
theorem g62_72 {L : sl_L} {x : Int32} : sl_Go xs N 62 72 L (.inl x :: st) σ Q ↔ (x = 0 → sl_Go xs N 62 79 L st σ Q) ∧ (¬ x = 0 → sl_Go xs N 62 75 L st σ Q) := gk_zeq rfl
theorem g62_75 {L : sl_L} : sl_Go xs N 62 75 L st σ Q ↔ sl_Go xs N 62 76 L (.inl 1 :: st) σ Q := gk_const rfl
theorem g62_76 {L : sl_L} : sl_Go xs N 62 76 L st σ Q ↔ sl_Go xs N 62 80 L st σ Q := gk_goto rfl
theorem g62_79 {L : sl_L} : sl_Go xs N 62 79 L st σ Q ↔ sl_Go xs N 62 80 L (.inl 0 :: st) σ Q := gk_const rfl
theorem g62_80 {L : sl_L} {x : Int32} : sl_Go xs N 62 80 L [.inl x] σ Q ↔ Q (some (.inl x)) σ := gk_iret rfl
theorem g62_81 {L : sl_L} : sl_Go xs N 62 81 L st σ Q ↔ sl_Go xs N 62 83 L (.inl (-2) :: st) σ Q := gk_const rfl
theorem g62_83 {L : sl_L} {x : Int32} : sl_Go xs N 62 83 L [.inl x] σ Q ↔ Q (some (.inl x)) σ := gk_iret rfl
theorem g63_0 {x : sl_R} {a1 a2 : Option sl_V} : sl_Go xs N 63 0 [some (.inr (.inr x)), a1, a2] st σ Q ↔ sl_Go xs N 63 1 [some (.inr (.inr x)), a1, a2] (.inr (.inr x) :: st) σ Q := gk_aload rfl rfl
theorem g63_1 {L : sl_L} {i t : Nat} : sl_Go xs N 63 1 L (.inr (.inr (0, i, t)) :: st) σ Q ↔ sl_Go xs N 63 4 L (.inr (.inr (11, 0, 0)) :: st) σ Q := gk_get (g := .inr (11, 0, 0)) rfl rfl rfl
theorem g63_4 {x : Int32} {a0 a2 : Option sl_V} : sl_Go xs N 63 4 [a0, some (.inl x), a2] st σ Q ↔ sl_Go xs N 63 5 [a0, some (.inl x), a2] (.inl x :: st) σ Q := gk_iload rfl rfl
theorem g63_5 {L : sl_L} {x0 : Int32} {i t : Nat} : sl_Go xs N 63 5 L (.inl x0 :: .inr (.inr (11, i, t)) :: st) σ Q ↔ sl_cw st ≤ 8 ∧ sl_Go xs N 24 0 [some (.inr (.inr (11, i, t))), some (.inl x0)] [] σ (fun r τ => sl_Go xs N 63 8 L (r.toList ++ st) τ Q) := gk_call rfl (Nat.le_add_left 2 st.length) rfl rfl rfl rfl (Nat.le_of_ble_eq_true rfl)
theorem g63_8 {L : sl_L} {x : Int32} : sl_Go xs N 63 8 L (.inl x :: st) σ Q ↔ (¬ x = 0 → sl_Go xs N 63 14 L st σ Q) ∧ (x = 0 → sl_Go xs N 63 11 L st σ Q) := gk_zne rfl
theorem g63_11 {L : sl_L} : sl_Go xs N 63 11 L st σ Q ↔ sl_Go xs N 63 13 L (.inl (-5) :: st) σ Q := gk_const rfl
theorem g63_13 {L : sl_L} {x : Int32} : sl_Go xs N 63 13 L [.inl x] σ Q ↔ Q (some (.inl x)) σ := gk_iret rfl
theorem g63_14 {x : Int32} {a0 a1 : Option sl_V} : sl_Go xs N 63 14 [a0, a1, some (.inl x)] st σ Q ↔ sl_Go xs N 63 15 [a0, a1, some (.inl x)] (.inl x :: st) σ Q := gk_iload rfl rfl
theorem g63_15 {L : sl_L} {x : Int32} : sl_Go xs N 63 15 L (.inl x :: st) σ Q ↔ (x = 0 → sl_Go xs N 63 48 L st σ Q) ∧ (¬ x = 0 → (x = 1 → sl_Go xs N 63 58 L st σ Q) ∧ (¬ x = 1 → (x = 2 → sl_Go xs N 63 68 L st σ Q) ∧ (¬ x = 2 → (x = 3 → sl_Go xs N 63 78 L st σ Q) ∧ (¬ x = 3 → (x = 4 → sl_Go xs N 63 88 L st σ Q) ∧ (¬ x = 4 → sl_Go xs N 63 98 L st σ Q))))) := gk_sw (ts := sl_sw 2) rfl rfl (Nat.le_of_ble_eq_true rfl)
theorem g63_48 {x : sl_R} {a1 a2 : Option sl_V} : sl_Go xs N 63 48 [some (.inr (.inr x)), a1, a2] st σ Q ↔ sl_Go xs N 63 49 [some (.inr (.inr x)), a1, a2] (.inr (.inr x) :: st) σ Q := gk_aload rfl rfl
theorem g63_49 {L : sl_L} {i t : Nat} : sl_Go xs N 63 49 L (.inr (.inr (0, i, t)) :: st) σ Q ↔ sl_Go xs N 63 52 L (.inr (.inr (11, 0, 0)) :: st) σ Q := gk_get (g := .inr (11, 0, 0)) rfl rfl rfl
theorem g63_52 {L : sl_L} {i t : Nat} : sl_Go xs N 63 52 L (.inr (.inr (11, i, t)) :: st) σ Q ↔ sl_Go xs N 63 55 L (.inr (.inr (14, 0, 0)) :: st) σ Q := gk_get (g := .inr (14, 0, 0)) rfl rfl rfl
theorem g63_55 {x : Int32} {a0 a2 : Option sl_V} : sl_Go xs N 63 55 [a0, some (.inl x), a2] st σ Q ↔ sl_Go xs N 63 56 [a0, some (.inl x), a2] (.inl x :: st) σ Q := gk_iload rfl rfl
theorem g63_56 {L : sl_L} {j : Int32} {r : sl_R} : sl_Go xs N 63 56 L (.inl j :: .inr (.inr r) :: st) σ Q ↔ (0 ≤ j.toInt ∧ j.toInt < sl_ilen N r) ∧ sl_Go xs N 63 57 L (.inl (sl_rd xs σ r j.toNatClampNeg) :: st) σ Q := gk_iald rfl
theorem g63_57 {L : sl_L} {x : Int32} : sl_Go xs N 63 57 L [.inl x] σ Q ↔ Q (some (.inl x)) σ := gk_iret rfl
theorem g63_58 {x : sl_R} {a1 a2 : Option sl_V} : sl_Go xs N 63 58 [some (.inr (.inr x)), a1, a2] st σ Q ↔ sl_Go xs N 63 59 [some (.inr (.inr x)), a1, a2] (.inr (.inr x) :: st) σ Q := gk_aload rfl rfl
theorem g63_59 {L : sl_L} {i t : Nat} : sl_Go xs N 63 59 L (.inr (.inr (0, i, t)) :: st) σ Q ↔ sl_Go xs N 63 62 L (.inr (.inr (11, 0, 0)) :: st) σ Q := gk_get (g := .inr (11, 0, 0)) rfl rfl rfl
theorem g63_62 {L : sl_L} {i t : Nat} : sl_Go xs N 63 62 L (.inr (.inr (11, i, t)) :: st) σ Q ↔ sl_Go xs N 63 65 L (.inr (.inr (15, 0, 0)) :: st) σ Q := gk_get (g := .inr (15, 0, 0)) rfl rfl rfl
theorem g63_65 {x : Int32} {a0 a2 : Option sl_V} : sl_Go xs N 63 65 [a0, some (.inl x), a2] st σ Q ↔ sl_Go xs N 63 66 [a0, some (.inl x), a2] (.inl x :: st) σ Q := gk_iload rfl rfl
theorem g63_66 {L : sl_L} {j : Int32} {r : sl_R} : sl_Go xs N 63 66 L (.inl j :: .inr (.inr r) :: st) σ Q ↔ (0 ≤ j.toInt ∧ j.toInt < sl_ilen N r) ∧ sl_Go xs N 63 67 L (.inl (sl_rd xs σ r j.toNatClampNeg) :: st) σ Q := gk_iald rfl
theorem g63_67 {L : sl_L} {x : Int32} : sl_Go xs N 63 67 L [.inl x] σ Q ↔ Q (some (.inl x)) σ := gk_iret rfl
theorem g63_68 {x : sl_R} {a1 a2 : Option sl_V} : sl_Go xs N 63 68 [some (.inr (.inr x)), a1, a2] st σ Q ↔ sl_Go xs N 63 69 [some (.inr (.inr x)), a1, a2] (.inr (.inr x) :: st) σ Q := gk_aload rfl rfl
theorem g63_69 {L : sl_L} {i t : Nat} : sl_Go xs N 63 69 L (.inr (.inr (0, i, t)) :: st) σ Q ↔ sl_Go xs N 63 72 L (.inr (.inr (1, 1, 0)) :: st) σ Q := gk_get (g := .inr (1, 1, 0)) rfl rfl rfl
theorem g63_72 {L : sl_L} {i t : Nat} : sl_Go xs N 63 72 L (.inr (.inr (1, i, t)) :: st) σ Q ↔ sl_Go xs N 63 75 L (.inr (.inr (8, i, 0)) :: st) σ Q := gk_get (g := .inr (8, i, 0)) rfl rfl rfl
theorem g63_75 {x : Int32} {a0 a2 : Option sl_V} : sl_Go xs N 63 75 [a0, some (.inl x), a2] st σ Q ↔ sl_Go xs N 63 76 [a0, some (.inl x), a2] (.inl x :: st) σ Q := gk_iload rfl rfl
theorem g63_76 {L : sl_L} {j : Int32} {r : sl_R} : sl_Go xs N 63 76 L (.inl j :: .inr (.inr r) :: st) σ Q ↔ (0 ≤ j.toInt ∧ j.toInt < sl_ilen N r) ∧ sl_Go xs N 63 77 L (.inl (sl_rd xs σ r j.toNatClampNeg) :: st) σ Q := gk_iald rfl
theorem g63_77 {L : sl_L} {x : Int32} : sl_Go xs N 63 77 L [.inl x] σ Q ↔ Q (some (.inl x)) σ := gk_iret rfl
theorem g63_78 {x : sl_R} {a1 a2 : Option sl_V} : sl_Go xs N 63 78 [some (.inr (.inr x)), a1, a2] st σ Q ↔ sl_Go xs N 63 79 [some (.inr (.inr x)), a1, a2] (.inr (.inr x) :: st) σ Q := gk_aload rfl rfl
theorem g63_79 {L : sl_L} {i t : Nat} : sl_Go xs N 63 79 L (.inr (.inr (0, i, t)) :: st) σ Q ↔ sl_Go xs N 63 82 L (.inr (.inr (1, 1, 0)) :: st) σ Q := gk_get (g := .inr (1, 1, 0)) rfl rfl rfl
theorem g63_82 {L : sl_L} {i t : Nat} : sl_Go xs N 63 82 L (.inr (.inr (1, i, t)) :: st) σ Q ↔ sl_Go xs N 63 85 L (.inr (.inr (9, i, 0)) :: st) σ Q := gk_get (g := .inr (9, i, 0)) rfl rfl rfl
theorem g63_85 {x : Int32} {a0 a2 : Option sl_V} : sl_Go xs N 63 85 [a0, some (.inl x), a2] st σ Q ↔ sl_Go xs N 63 86 [a0, some (.inl x), a2] (.inl x :: st) σ Q := gk_iload rfl rfl
theorem g63_86 {L : sl_L} {j : Int32} {r : sl_R} : sl_Go xs N 63 86 L (.inl j :: .inr (.inr r) :: st) σ Q ↔ (0 ≤ j.toInt ∧ j.toInt < sl_ilen N r) ∧ sl_Go xs N 63 87 L (.inl (sl_rd xs σ r j.toNatClampNeg) :: st) σ Q := gk_iald rfl
theorem g63_87 {L : sl_L} {x : Int32} : sl_Go xs N 63 87 L [.inl x] σ Q ↔ Q (some (.inl x)) σ := gk_iret rfl
theorem g63_88 {x : sl_R} {a1 a2 : Option sl_V} : sl_Go xs N 63 88 [some (.inr (.inr x)), a1, a2] st σ Q ↔ sl_Go xs N 63 89 [some (.inr (.inr x)), a1, a2] (.inr (.inr x) :: st) σ Q := gk_aload rfl rfl
theorem g63_89 {L : sl_L} {i t : Nat} : sl_Go xs N 63 89 L (.inr (.inr (0, i, t)) :: st) σ Q ↔ sl_Go xs N 63 92 L (.inr (.inr (1, 1, 0)) :: st) σ Q := gk_get (g := .inr (1, 1, 0)) rfl rfl rfl
theorem g63_92 {L : sl_L} {i t : Nat} : sl_Go xs N 63 92 L (.inr (.inr (1, i, t)) :: st) σ Q ↔ sl_Go xs N 63 95 L (.inr (.inr (10, i, 0)) :: st) σ Q := gk_get (g := .inr (10, i, 0)) rfl rfl rfl
theorem g63_95 {x : Int32} {a0 a2 : Option sl_V} : sl_Go xs N 63 95 [a0, some (.inl x), a2] st σ Q ↔ sl_Go xs N 63 96 [a0, some (.inl x), a2] (.inl x :: st) σ Q := gk_iload rfl rfl
theorem g63_96 {L : sl_L} {j : Int32} {r : sl_R} : sl_Go xs N 63 96 L (.inl j :: .inr (.inr r) :: st) σ Q ↔ (0 ≤ j.toInt ∧ j.toInt < sl_ilen N r) ∧ sl_Go xs N 63 97 L (.inl (sl_rd xs σ r j.toNatClampNeg) :: st) σ Q := gk_iald rfl
theorem g63_97 {L : sl_L} {x : Int32} : sl_Go xs N 63 97 L [.inl x] σ Q ↔ Q (some (.inl x)) σ := gk_iret rfl
theorem g63_98 {L : sl_L} : sl_Go xs N 63 98 L st σ Q ↔ sl_Go xs N 63 100 L (.inl (-7) :: st) σ Q := gk_const rfl
theorem g63_100 {L : sl_L} {x : Int32} : sl_Go xs N 63 100 L [.inl x] σ Q ↔ Q (some (.inl x)) σ := gk_iret rfl
theorem g64_0 {x : Int32} {a0 : Option sl_V} : sl_Go xs N 64 0 [a0, some (.inl x)] st σ Q ↔ sl_Go xs N 64 1 [a0, some (.inl x)] (.inl x :: st) σ Q := gk_iload rfl rfl
theorem g64_1 {L : sl_L} {x : Int32} : sl_Go xs N 64 1 L (.inl x :: st) σ Q ↔ (x = 0 → sl_Go xs N 64 28 L st σ Q) ∧ (¬ x = 0 → (x = 1 → sl_Go xs N 64 36 L st σ Q) ∧ (¬ x = 1 → sl_Go xs N 64 44 L st σ Q)) := gk_sw (ts := sl_sw 3) rfl rfl (Nat.le_of_ble_eq_true rfl)
theorem g64_28 {x : sl_R} {a1 : Option sl_V} : sl_Go xs N 64 28 [some (.inr (.inr x)), a1] st σ Q ↔ sl_Go xs N 64 29 [some (.inr (.inr x)), a1] (.inr (.inr x) :: st) σ Q := gk_aload rfl rfl
theorem g64_29 {L : sl_L} {i t : Nat} : sl_Go xs N 64 29 L (.inr (.inr (0, i, t)) :: st) σ Q ↔ sl_Go xs N 64 32 L (.inr (.inr (1, 1, 0)) :: st) σ Q := gk_get (g := .inr (1, 1, 0)) rfl rfl rfl
theorem g64_32 {L : sl_L} {i t : Nat} : sl_Go xs N 64 32 L (.inr (.inr (1, i, t)) :: st) σ Q ↔ sl_cw st ≤ 8 ∧ sl_Go xs N 20 0 [some (.inr (.inr (1, i, t))), none, none, none, none] [] σ (fun r τ => sl_Go xs N 64 35 L (r.toList ++ st) τ Q) := gk_call rfl (Nat.le_add_left 1 st.length) rfl rfl rfl rfl (Nat.le_of_ble_eq_true rfl)
theorem g64_35 {L : sl_L} {x : Int32} : sl_Go xs N 64 35 L [.inl x] σ Q ↔ Q (some (.inl x)) σ := gk_iret rfl
theorem g64_36 {x : sl_R} {a1 : Option sl_V} : sl_Go xs N 64 36 [some (.inr (.inr x)), a1] st σ Q ↔ sl_Go xs N 64 37 [some (.inr (.inr x)), a1] (.inr (.inr x) :: st) σ Q := gk_aload rfl rfl
theorem g64_37 {L : sl_L} {i t : Nat} : sl_Go xs N 64 37 L (.inr (.inr (0, i, t)) :: st) σ Q ↔ sl_Go xs N 64 40 L (.inr (.inr (1, 1, 0)) :: st) σ Q := gk_get (g := .inr (1, 1, 0)) rfl rfl rfl
theorem g64_40 {L : sl_L} {i t : Nat} : sl_Go xs N 64 40 L (.inr (.inr (1, i, t)) :: st) σ Q ↔ sl_cw st ≤ 8 ∧ sl_Go xs N 21 0 [some (.inr (.inr (1, i, t)))] [] σ (fun r τ => sl_Go xs N 64 43 L (r.toList ++ st) τ Q) := gk_call rfl (Nat.le_add_left 1 st.length) rfl rfl rfl rfl (Nat.le_of_ble_eq_true rfl)
theorem g64_43 {L : sl_L} {x : Int32} : sl_Go xs N 64 43 L [.inl x] σ Q ↔ Q (some (.inl x)) σ := gk_iret rfl
theorem g64_44 {L : sl_L} : sl_Go xs N 64 44 L st σ Q ↔ sl_Go xs N 64 46 L (.inl (-1000000) :: st) σ Q := gk_const rfl
theorem g64_46 {L : sl_L} {x : Int32} : sl_Go xs N 64 46 L [.inl x] σ Q ↔ Q (some (.inl x)) σ := gk_iret rfl
theorem g65_0 {x : Int32} {a0 : Option sl_V} : sl_Go xs N 65 0 [a0, some (.inl x)] st σ Q ↔ sl_Go xs N 65 1 [a0, some (.inl x)] (.inl x :: st) σ Q := gk_iload rfl rfl
theorem g65_1 {L : sl_L} {x : Int32} : sl_Go xs N 65 1 L (.inl x :: st) σ Q ↔ (x = 0 → sl_Go xs N 65 56 L st σ Q) ∧ (¬ x = 0 → (x = 1 → sl_Go xs N 65 64 L st σ Q) ∧ (¬ x = 1 → (x = 2 → sl_Go xs N 65 72 L st σ Q) ∧ (¬ x = 2 → (x = 3 → sl_Go xs N 65 80 L st σ Q) ∧ (¬ x = 3 → (x = 4 → sl_Go xs N 65 88 L st σ Q) ∧ (¬ x = 4 → (x = 5 → sl_Go xs N 65 96 L st σ Q) ∧ (¬ x = 5 → (x = 6 → sl_Go xs N 65 104 L st σ Q) ∧ (¬ x = 6 → (x = 7 → sl_Go xs N 65 120 L st σ Q) ∧ (¬ x = 7 → (x = 8 → sl_Go xs N 65 128 L st σ Q) ∧ (¬ x = 8 → (x = 9 → sl_Go xs N 65 136 L st σ Q) ∧ (¬ x = 9 → sl_Go xs N 65 141 L st σ Q)))))))))) := gk_sw (ts := sl_sw 4) rfl rfl (Nat.le_of_ble_eq_true rfl)
theorem g65_56 {x : sl_R} {a1 : Option sl_V} : sl_Go xs N 65 56 [some (.inr (.inr x)), a1] st σ Q ↔ sl_Go xs N 65 57 [some (.inr (.inr x)), a1] (.inr (.inr x) :: st) σ Q := gk_aload rfl rfl
theorem g65_57 {L : sl_L} {i t : Nat} : sl_Go xs N 65 57 L (.inr (.inr (0, i, t)) :: st) σ Q ↔ sl_Go xs N 65 60 L (.inr (.inr (1, 1, 0)) :: st) σ Q := gk_get (g := .inr (1, 1, 0)) rfl rfl rfl
theorem g65_60 {L : sl_L} {i t : Nat} : sl_Go xs N 65 60 L (.inr (.inr (1, i, t)) :: st) σ Q ↔ sl_Go xs N 65 63 L (.inl (σ i 0 0) :: st) σ Q := gk_get (g := .inl (i, 0, 0)) rfl rfl rfl
theorem g65_63 {L : sl_L} {x : Int32} : sl_Go xs N 65 63 L [.inl x] σ Q ↔ Q (some (.inl x)) σ := gk_iret rfl
theorem g65_64 {x : sl_R} {a1 : Option sl_V} : sl_Go xs N 65 64 [some (.inr (.inr x)), a1] st σ Q ↔ sl_Go xs N 65 65 [some (.inr (.inr x)), a1] (.inr (.inr x) :: st) σ Q := gk_aload rfl rfl
theorem g65_65 {L : sl_L} {i t : Nat} : sl_Go xs N 65 65 L (.inr (.inr (0, i, t)) :: st) σ Q ↔ sl_Go xs N 65 68 L (.inr (.inr (11, 0, 0)) :: st) σ Q := gk_get (g := .inr (11, 0, 0)) rfl rfl rfl
theorem g65_68 {L : sl_L} {i t : Nat} : sl_Go xs N 65 68 L (.inr (.inr (11, i, t)) :: st) σ Q ↔ sl_Go xs N 65 71 L (.inl (σ 5 0 0) :: st) σ Q := gk_get (g := .inl (5, 0, 0)) rfl rfl rfl
theorem g65_71 {L : sl_L} {x : Int32} : sl_Go xs N 65 71 L [.inl x] σ Q ↔ Q (some (.inl x)) σ := gk_iret rfl
theorem g65_72 {x : sl_R} {a1 : Option sl_V} : sl_Go xs N 65 72 [some (.inr (.inr x)), a1] st σ Q ↔ sl_Go xs N 65 73 [some (.inr (.inr x)), a1] (.inr (.inr x) :: st) σ Q := gk_aload rfl rfl
theorem g65_73 {L : sl_L} {i t : Nat} : sl_Go xs N 65 73 L (.inr (.inr (0, i, t)) :: st) σ Q ↔ sl_Go xs N 65 76 L (.inr (.inr (11, 0, 0)) :: st) σ Q := gk_get (g := .inr (11, 0, 0)) rfl rfl rfl
theorem g65_76 {L : sl_L} {i t : Nat} : sl_Go xs N 65 76 L (.inr (.inr (11, i, t)) :: st) σ Q ↔ sl_Go xs N 65 79 L (.inl (σ 5 0 1) :: st) σ Q := gk_get (g := .inl (5, 0, 1)) rfl rfl rfl
theorem g65_79 {L : sl_L} {x : Int32} : sl_Go xs N 65 79 L [.inl x] σ Q ↔ Q (some (.inl x)) σ := gk_iret rfl
theorem g65_80 {x : sl_R} {a1 : Option sl_V} : sl_Go xs N 65 80 [some (.inr (.inr x)), a1] st σ Q ↔ sl_Go xs N 65 81 [some (.inr (.inr x)), a1] (.inr (.inr x) :: st) σ Q := gk_aload rfl rfl
theorem g65_81 {L : sl_L} {i t : Nat} : sl_Go xs N 65 81 L (.inr (.inr (0, i, t)) :: st) σ Q ↔ sl_Go xs N 65 84 L (.inr (.inr (1, 1, 0)) :: st) σ Q := gk_get (g := .inr (1, 1, 0)) rfl rfl rfl
theorem g65_84 {L : sl_L} {i t : Nat} : sl_Go xs N 65 84 L (.inr (.inr (1, i, t)) :: st) σ Q ↔ sl_Go xs N 65 87 L (.inl (σ i 0 5) :: st) σ Q := gk_get (g := .inl (i, 0, 5)) rfl rfl rfl
theorem g65_87 {L : sl_L} {x : Int32} : sl_Go xs N 65 87 L [.inl x] σ Q ↔ Q (some (.inl x)) σ := gk_iret rfl
theorem g65_88 {x : sl_R} {a1 : Option sl_V} : sl_Go xs N 65 88 [some (.inr (.inr x)), a1] st σ Q ↔ sl_Go xs N 65 89 [some (.inr (.inr x)), a1] (.inr (.inr x) :: st) σ Q := gk_aload rfl rfl
theorem g65_89 {L : sl_L} {i t : Nat} : sl_Go xs N 65 89 L (.inr (.inr (0, i, t)) :: st) σ Q ↔ sl_Go xs N 65 92 L (.inr (.inr (1, 1, 0)) :: st) σ Q := gk_get (g := .inr (1, 1, 0)) rfl rfl rfl
theorem g65_92 {L : sl_L} {i t : Nat} : sl_Go xs N 65 92 L (.inr (.inr (1, i, t)) :: st) σ Q ↔ sl_Go xs N 65 95 L (.inl (σ i 0 6) :: st) σ Q := gk_get (g := .inl (i, 0, 6)) rfl rfl rfl
theorem g65_95 {L : sl_L} {x : Int32} : sl_Go xs N 65 95 L [.inl x] σ Q ↔ Q (some (.inl x)) σ := gk_iret rfl
theorem g65_96 {x : sl_R} {a1 : Option sl_V} : sl_Go xs N 65 96 [some (.inr (.inr x)), a1] st σ Q ↔ sl_Go xs N 65 97 [some (.inr (.inr x)), a1] (.inr (.inr x) :: st) σ Q := gk_aload rfl rfl
theorem g65_97 {L : sl_L} {i t : Nat} : sl_Go xs N 65 97 L (.inr (.inr (0, i, t)) :: st) σ Q ↔ sl_Go xs N 65 100 L (.inr (.inr (1, 1, 0)) :: st) σ Q := gk_get (g := .inr (1, 1, 0)) rfl rfl rfl
theorem g65_100 {L : sl_L} {i t : Nat} : sl_Go xs N 65 100 L (.inr (.inr (1, i, t)) :: st) σ Q ↔ sl_Go xs N 65 103 L (.inl (σ i 0 7) :: st) σ Q := gk_get (g := .inl (i, 0, 7)) rfl rfl rfl
theorem g65_103 {L : sl_L} {x : Int32} : sl_Go xs N 65 103 L [.inl x] σ Q ↔ Q (some (.inl x)) σ := gk_iret rfl
theorem g65_104 {x : sl_R} {a1 : Option sl_V} : sl_Go xs N 65 104 [some (.inr (.inr x)), a1] st σ Q ↔ sl_Go xs N 65 105 [some (.inr (.inr x)), a1] (.inr (.inr x) :: st) σ Q := gk_aload rfl rfl
theorem g65_105 {L : sl_L} {i t : Nat} : sl_Go xs N 65 105 L (.inr (.inr (0, i, t)) :: st) σ Q ↔ sl_Go xs N 65 108 L (.inr (.inr (1, 1, 0)) :: st) σ Q := gk_get (g := .inr (1, 1, 0)) rfl rfl rfl
theorem g65_108 {L : sl_L} {i t : Nat} : sl_Go xs N 65 108 L (.inr (.inr (1, i, t)) :: st) σ Q ↔ sl_Go xs N 65 111 L (.inl (σ i 0 8) :: st) σ Q := gk_get (g := .inl (i, 0, 8)) rfl rfl rfl
theorem g65_111 {L : sl_L} {x : Int32} : sl_Go xs N 65 111 L (.inl x :: st) σ Q ↔ (x = 0 → sl_Go xs N 65 118 L st σ Q) ∧ (¬ x = 0 → sl_Go xs N 65 114 L st σ Q) := gk_zeq rfl
theorem g65_114 {L : sl_L} : sl_Go xs N 65 114 L st σ Q ↔ sl_Go xs N 65 115 L (.inl 1 :: st) σ Q := gk_const rfl
theorem g65_115 {L : sl_L} : sl_Go xs N 65 115 L st σ Q ↔ sl_Go xs N 65 119 L st σ Q := gk_goto rfl
theorem g65_118 {L : sl_L} : sl_Go xs N 65 118 L st σ Q ↔ sl_Go xs N 65 119 L (.inl 0 :: st) σ Q := gk_const rfl
theorem g65_119 {L : sl_L} {x : Int32} : sl_Go xs N 65 119 L [.inl x] σ Q ↔ Q (some (.inl x)) σ := gk_iret rfl
theorem g65_120 {x : sl_R} {a1 : Option sl_V} : sl_Go xs N 65 120 [some (.inr (.inr x)), a1] st σ Q ↔ sl_Go xs N 65 121 [some (.inr (.inr x)), a1] (.inr (.inr x) :: st) σ Q := gk_aload rfl rfl
theorem g65_121 {L : sl_L} {i t : Nat} : sl_Go xs N 65 121 L (.inr (.inr (0, i, t)) :: st) σ Q ↔ sl_Go xs N 65 124 L (.inr (.inr (11, 0, 0)) :: st) σ Q := gk_get (g := .inr (11, 0, 0)) rfl rfl rfl
theorem g65_124 {L : sl_L} {i t : Nat} : sl_Go xs N 65 124 L (.inr (.inr (11, i, t)) :: st) σ Q ↔ sl_Go xs N 65 127 L (.inl (σ 5 0 2) :: st) σ Q := gk_get (g := .inl (5, 0, 2)) rfl rfl rfl
theorem g65_127 {L : sl_L} {x : Int32} : sl_Go xs N 65 127 L [.inl x] σ Q ↔ Q (some (.inl x)) σ := gk_iret rfl
theorem g65_128 {x : sl_R} {a1 : Option sl_V} : sl_Go xs N 65 128 [some (.inr (.inr x)), a1] st σ Q ↔ sl_Go xs N 65 129 [some (.inr (.inr x)), a1] (.inr (.inr x) :: st) σ Q := gk_aload rfl rfl
theorem g65_129 {L : sl_L} {i t : Nat} : sl_Go xs N 65 129 L (.inr (.inr (0, i, t)) :: st) σ Q ↔ sl_Go xs N 65 132 L (.inr (.inr (20, 0, 0)) :: st) σ Q := gk_get (g := .inr (20, 0, 0)) rfl rfl rfl
theorem g65_132 {L : sl_L} {i t : Nat} : sl_Go xs N 65 132 L (.inr (.inr (20, i, t)) :: st) σ Q ↔ sl_Go xs N 65 135 L (.inl (σ 7 0 3) :: st) σ Q := gk_get (g := .inl (7, 0, 3)) rfl rfl rfl
theorem g65_135 {L : sl_L} {x : Int32} : sl_Go xs N 65 135 L [.inl x] σ Q ↔ Q (some (.inl x)) σ := gk_iret rfl
theorem g65_136 {x : sl_R} {a1 : Option sl_V} : sl_Go xs N 65 136 [some (.inr (.inr x)), a1] st σ Q ↔ sl_Go xs N 65 137 [some (.inr (.inr x)), a1] (.inr (.inr x) :: st) σ Q := gk_aload rfl rfl
theorem g65_137 {L : sl_L} {i t : Nat} : sl_Go xs N 65 137 L (.inr (.inr (0, i, t)) :: st) σ Q ↔ sl_Go xs N 65 140 L (.inl (σ 7 0 1) :: st) σ Q := gk_get (g := .inl (7, 0, 1)) rfl rfl rfl
theorem g65_140 {L : sl_L} {x : Int32} : sl_Go xs N 65 140 L [.inl x] σ Q ↔ Q (some (.inl x)) σ := gk_iret rfl
theorem g65_141 {L : sl_L} : sl_Go xs N 65 141 L st σ Q ↔ sl_Go xs N 65 143 L (.inl (-2) :: st) σ Q := gk_const rfl
theorem g65_143 {L : sl_L} {x : Int32} : sl_Go xs N 65 143 L [.inl x] σ Q ↔ Q (some (.inl x)) σ := gk_iret rfl
theorem g66_0 {x : sl_R} {a1 a2 a3 : Option sl_V} : sl_Go xs N 66 0 [some (.inr (.inr x)), a1, a2, a3] st σ Q ↔ sl_Go xs N 66 1 [some (.inr (.inr x)), a1, a2, a3] (.inr (.inr x) :: st) σ Q := gk_aload rfl rfl
theorem g66_1 {x : Int32} {a0 a2 a3 : Option sl_V} : sl_Go xs N 66 1 [a0, some (.inl x), a2, a3] st σ Q ↔ sl_Go xs N 66 2 [a0, some (.inl x), a2, a3] (.inl x :: st) σ Q := gk_iload rfl rfl
theorem g66_2 {L : sl_L} {x0 : Int32} {i t : Nat} : sl_Go xs N 66 2 L (.inl x0 :: .inr (.inr (0, i, t)) :: st) σ Q ↔ sl_cw st ≤ 8 ∧ sl_Go xs N 84 0 [some (.inr (.inr (0, i, t))), some (.inl x0)] [] σ (fun r τ => sl_Go xs N 66 5 L (r.toList ++ st) τ Q) := gk_call rfl (Nat.le_add_left 2 st.length) rfl rfl rfl rfl (Nat.le_of_ble_eq_true rfl)
theorem g66_5 {L : sl_L} {x : Int32} : sl_Go xs N 66 5 L (.inl x :: st) σ Q ↔ (¬ x = 0 → sl_Go xs N 66 10 L st σ Q) ∧ (x = 0 → sl_Go xs N 66 8 L st σ Q) := gk_zne rfl
theorem g66_8 {L : sl_L} : sl_Go xs N 66 8 L st σ Q ↔ sl_Go xs N 66 9 L (.inl (-1) :: st) σ Q := gk_const rfl
theorem g66_9 {L : sl_L} {x : Int32} : sl_Go xs N 66 9 L [.inl x] σ Q ↔ Q (some (.inl x)) σ := gk_iret rfl
theorem g66_10 {x : Int32} {a0 a1 a3 : Option sl_V} : sl_Go xs N 66 10 [a0, a1, some (.inl x), a3] st σ Q ↔ sl_Go xs N 66 11 [a0, a1, some (.inl x), a3] (.inl x :: st) σ Q := gk_iload rfl rfl
theorem g66_11 {L : sl_L} : sl_Go xs N 66 11 L st σ Q ↔ sl_Go xs N 66 12 L (.inl 1 :: st) σ Q := gk_const rfl
theorem g66_12 {L : sl_L} : sl_Go xs N 66 12 L st σ Q ↔ sl_Go xs N 66 15 L (.inl 200 :: st) σ Q := gk_const rfl
theorem g66_15 {L : sl_L} {x0 : Int32} {x1 : Int32} {x2 : Int32} : sl_Go xs N 66 15 L (.inl x2 :: .inl x1 :: .inl x0 :: st) σ Q ↔ sl_cw st ≤ 8 ∧ sl_Go xs N 81 0 [some (.inl x0), some (.inl x1), some (.inl x2)] [] σ (fun r τ => sl_Go xs N 66 18 L (r.toList ++ st) τ Q) := gk_call rfl (Nat.le_add_left 3 st.length) rfl rfl rfl rfl (Nat.le_of_ble_eq_true rfl)
theorem g66_18 {L : sl_L} {x : Int32} : sl_Go xs N 66 18 L (.inl x :: st) σ Q ↔ (x = 0 → sl_Go xs N 66 30 L st σ Q) ∧ (¬ x = 0 → sl_Go xs N 66 21 L st σ Q) := gk_zeq rfl
theorem g66_21 {x : Int32} {a0 a1 a2 : Option sl_V} : sl_Go xs N 66 21 [a0, a1, a2, some (.inl x)] st σ Q ↔ sl_Go xs N 66 22 [a0, a1, a2, some (.inl x)] (.inl x :: st) σ Q := gk_iload rfl rfl
theorem g66_22 {L : sl_L} : sl_Go xs N 66 22 L st σ Q ↔ sl_Go xs N 66 23 L (.inl 0 :: st) σ Q := gk_const rfl
theorem g66_23 {L : sl_L} : sl_Go xs N 66 23 L st σ Q ↔ sl_Go xs N 66 24 L (.inl 4 :: st) σ Q := gk_const rfl
theorem g66_24 {L : sl_L} {x0 : Int32} {x1 : Int32} {x2 : Int32} : sl_Go xs N 66 24 L (.inl x2 :: .inl x1 :: .inl x0 :: st) σ Q ↔ sl_cw st ≤ 8 ∧ sl_Go xs N 81 0 [some (.inl x0), some (.inl x1), some (.inl x2)] [] σ (fun r τ => sl_Go xs N 66 27 L (r.toList ++ st) τ Q) := gk_call rfl (Nat.le_add_left 3 st.length) rfl rfl rfl rfl (Nat.le_of_ble_eq_true rfl)
theorem g66_27 {L : sl_L} {x : Int32} : sl_Go xs N 66 27 L (.inl x :: st) σ Q ↔ (¬ x = 0 → sl_Go xs N 66 33 L st σ Q) ∧ (x = 0 → sl_Go xs N 66 30 L st σ Q) := gk_zne rfl
theorem g66_30 {L : sl_L} : sl_Go xs N 66 30 L st σ Q ↔ sl_Go xs N 66 32 L (.inl (-2) :: st) σ Q := gk_const rfl
theorem g66_32 {L : sl_L} {x : Int32} : sl_Go xs N 66 32 L [.inl x] σ Q ↔ Q (some (.inl x)) σ := gk_iret rfl
theorem g66_33 {x : sl_R} {a1 a2 a3 : Option sl_V} : sl_Go xs N 66 33 [some (.inr (.inr x)), a1, a2, a3] st σ Q ↔ sl_Go xs N 66 34 [some (.inr (.inr x)), a1, a2, a3] (.inr (.inr x) :: st) σ Q := gk_aload rfl rfl
theorem g66_34 {x : Int32} {a0 a2 a3 : Option sl_V} : sl_Go xs N 66 34 [a0, some (.inl x), a2, a3] st σ Q ↔ sl_Go xs N 66 35 [a0, some (.inl x), a2, a3] (.inl x :: st) σ Q := gk_iload rfl rfl
theorem g66_35 {L : sl_L} {x0 : Int32} {i t : Nat} : sl_Go xs N 66 35 L (.inl x0 :: .inr (.inr (0, i, t)) :: st) σ Q ↔ sl_cw st ≤ 8 ∧ sl_Go xs N 85 0 [some (.inr (.inr (0, i, t))), some (.inl x0)] [] σ (fun r τ => sl_Go xs N 66 38 L (r.toList ++ st) τ Q) := gk_call rfl (Nat.le_add_left 2 st.length) rfl rfl rfl rfl (Nat.le_of_ble_eq_true rfl)
theorem g66_38 {x : sl_R} {a1 a2 a3 : Option sl_V} : sl_Go xs N 66 38 [some (.inr (.inr x)), a1, a2, a3] st σ Q ↔ sl_Go xs N 66 39 [some (.inr (.inr x)), a1, a2, a3] (.inr (.inr x) :: st) σ Q := gk_aload rfl rfl
theorem g66_39 {L : sl_L} {i t : Nat} : sl_Go xs N 66 39 L (.inr (.inr (0, i, t)) :: st) σ Q ↔ sl_Go xs N 66 42 L (.inr (.inr (1, 2, 0)) :: st) σ Q := gk_get (g := .inr (1, 2, 0)) rfl rfl rfl
theorem g66_42 {x : Int32} {a0 a1 a3 : Option sl_V} : sl_Go xs N 66 42 [a0, a1, some (.inl x), a3] st σ Q ↔ sl_Go xs N 66 43 [a0, a1, some (.inl x), a3] (.inl x :: st) σ Q := gk_iload rfl rfl
theorem g66_43 {L : sl_L} {x0 : Int32} {i t : Nat} : sl_Go xs N 66 43 L (.inl x0 :: .inr (.inr (1, i, t)) :: st) σ Q ↔ sl_cw st ≤ 8 ∧ sl_Go xs N 14 0 [some (.inr (.inr (1, i, t))), some (.inl x0), none] [] σ (fun r τ => sl_Go xs N 66 46 L (r.toList ++ st) τ Q) := gk_call rfl (Nat.le_add_left 2 st.length) rfl rfl rfl rfl (Nat.le_of_ble_eq_true rfl)
theorem g66_46 {x : Int32} {a0 a1 a2 : Option sl_V} : sl_Go xs N 66 46 [a0, a1, a2, some (.inl x)] st σ Q ↔ sl_Go xs N 66 47 [a0, a1, a2, some (.inl x)] (.inl x :: st) σ Q := gk_iload rfl rfl
theorem g66_47 {L : sl_L} {x : Int32} : sl_Go xs N 66 47 L (.inl x :: st) σ Q ↔ (x = 0 → sl_Go xs N 66 76 L st σ Q) ∧ (¬ x = 0 → (x = 1 → sl_Go xs N 66 84 L st σ Q) ∧ (¬ x = 1 → (x = 2 → sl_Go xs N 66 100 L st σ Q) ∧ (¬ x = 2 → (x = 3 → sl_Go xs N 66 116 L st σ Q) ∧ (¬ x = 3 → sl_Go xs N 66 139 L st σ Q)))) := gk_sw (ts := sl_sw 5) rfl rfl (Nat.le_of_ble_eq_true rfl)
theorem g66_76 {x : sl_R} {a1 a2 a3 : Option sl_V} : sl_Go xs N 66 76 [some (.inr (.inr x)), a1, a2, a3] st σ Q ↔ sl_Go xs N 66 77 [some (.inr (.inr x)), a1, a2, a3] (.inr (.inr x) :: st) σ Q := gk_aload rfl rfl
theorem g66_77 {L : sl_L} {i t : Nat} : sl_Go xs N 66 77 L (.inr (.inr (0, i, t)) :: st) σ Q ↔ sl_Go xs N 66 80 L (.inr (.inr (1, 2, 0)) :: st) σ Q := gk_get (g := .inr (1, 2, 0)) rfl rfl rfl
theorem g66_80 {L : sl_L} {i t : Nat} : sl_Go xs N 66 80 L (.inr (.inr (1, i, t)) :: st) σ Q ↔ sl_Go xs N 66 83 L (.inl (σ i 8 2) :: st) σ Q := gk_get (g := .inl (i, 8, 2)) rfl rfl rfl
theorem g66_83 {L : sl_L} {x : Int32} : sl_Go xs N 66 83 L [.inl x] σ Q ↔ Q (some (.inl x)) σ := gk_iret rfl
theorem g66_84 {x : sl_R} {a1 a2 a3 : Option sl_V} : sl_Go xs N 66 84 [some (.inr (.inr x)), a1, a2, a3] st σ Q ↔ sl_Go xs N 66 85 [some (.inr (.inr x)), a1, a2, a3] (.inr (.inr x) :: st) σ Q := gk_aload rfl rfl
theorem g66_85 {L : sl_L} {i t : Nat} : sl_Go xs N 66 85 L (.inr (.inr (0, i, t)) :: st) σ Q ↔ sl_Go xs N 66 88 L (.inr (.inr (1, 2, 0)) :: st) σ Q := gk_get (g := .inr (1, 2, 0)) rfl rfl rfl
theorem g66_88 {L : sl_L} {i t : Nat} : sl_Go xs N 66 88 L (.inr (.inr (1, i, t)) :: st) σ Q ↔ sl_Go xs N 66 91 L (.inl (σ i 0 5) :: st) σ Q := gk_get (g := .inl (i, 0, 5)) rfl rfl rfl
theorem g66_91 {x : sl_R} {a1 a2 a3 : Option sl_V} : sl_Go xs N 66 91 [some (.inr (.inr x)), a1, a2, a3] st σ Q ↔ sl_Go xs N 66 92 [some (.inr (.inr x)), a1, a2, a3] (.inr (.inr x) :: st) σ Q := gk_aload rfl rfl
theorem g66_92 {L : sl_L} {i t : Nat} : sl_Go xs N 66 92 L (.inr (.inr (0, i, t)) :: st) σ Q ↔ sl_Go xs N 66 95 L (.inr (.inr (1, 1, 0)) :: st) σ Q := gk_get (g := .inr (1, 1, 0)) rfl rfl rfl
theorem g66_95 {L : sl_L} {i t : Nat} : sl_Go xs N 66 95 L (.inr (.inr (1, i, t)) :: st) σ Q ↔ sl_Go xs N 66 98 L (.inl (σ i 0 5) :: st) σ Q := gk_get (g := .inl (i, 0, 5)) rfl rfl rfl
theorem g66_98 {L : sl_L} {x y : Int32} : sl_Go xs N 66 98 L (.inl y :: .inl x :: st) σ Q ↔ sl_Go xs N 66 99 L (.inl (x - y) :: st) σ Q := gk_bin (b := 9) rfl
theorem g66_99 {L : sl_L} {x : Int32} : sl_Go xs N 66 99 L [.inl x] σ Q ↔ Q (some (.inl x)) σ := gk_iret rfl
theorem g66_100 {x : sl_R} {a1 a2 a3 : Option sl_V} : sl_Go xs N 66 100 [some (.inr (.inr x)), a1, a2, a3] st σ Q ↔ sl_Go xs N 66 101 [some (.inr (.inr x)), a1, a2, a3] (.inr (.inr x) :: st) σ Q := gk_aload rfl rfl
theorem g66_101 {L : sl_L} {i t : Nat} : sl_Go xs N 66 101 L (.inr (.inr (0, i, t)) :: st) σ Q ↔ sl_Go xs N 66 104 L (.inr (.inr (1, 2, 0)) :: st) σ Q := gk_get (g := .inr (1, 2, 0)) rfl rfl rfl
theorem g66_104 {L : sl_L} {i t : Nat} : sl_Go xs N 66 104 L (.inr (.inr (1, i, t)) :: st) σ Q ↔ sl_Go xs N 66 107 L (.inl (σ i 0 6) :: st) σ Q := gk_get (g := .inl (i, 0, 6)) rfl rfl rfl
theorem g66_107 {x : sl_R} {a1 a2 a3 : Option sl_V} : sl_Go xs N 66 107 [some (.inr (.inr x)), a1, a2, a3] st σ Q ↔ sl_Go xs N 66 108 [some (.inr (.inr x)), a1, a2, a3] (.inr (.inr x) :: st) σ Q := gk_aload rfl rfl
theorem g66_108 {L : sl_L} {i t : Nat} : sl_Go xs N 66 108 L (.inr (.inr (0, i, t)) :: st) σ Q ↔ sl_Go xs N 66 111 L (.inr (.inr (1, 1, 0)) :: st) σ Q := gk_get (g := .inr (1, 1, 0)) rfl rfl rfl
theorem g66_111 {L : sl_L} {i t : Nat} : sl_Go xs N 66 111 L (.inr (.inr (1, i, t)) :: st) σ Q ↔ sl_Go xs N 66 114 L (.inl (σ i 0 6) :: st) σ Q := gk_get (g := .inl (i, 0, 6)) rfl rfl rfl
theorem g66_114 {L : sl_L} {x y : Int32} : sl_Go xs N 66 114 L (.inl y :: .inl x :: st) σ Q ↔ sl_Go xs N 66 115 L (.inl (x - y) :: st) σ Q := gk_bin (b := 9) rfl
theorem g66_115 {L : sl_L} {x : Int32} : sl_Go xs N 66 115 L [.inl x] σ Q ↔ Q (some (.inl x)) σ := gk_iret rfl
theorem g66_116 {x : sl_R} {a1 a2 a3 : Option sl_V} : sl_Go xs N 66 116 [some (.inr (.inr x)), a1, a2, a3] st σ Q ↔ sl_Go xs N 66 117 [some (.inr (.inr x)), a1, a2, a3] (.inr (.inr x) :: st) σ Q := gk_aload rfl rfl
theorem g66_117 {L : sl_L} {i t : Nat} : sl_Go xs N 66 117 L (.inr (.inr (0, i, t)) :: st) σ Q ↔ sl_Go xs N 66 120 L (.inr (.inr (1, 2, 0)) :: st) σ Q := gk_get (g := .inr (1, 2, 0)) rfl rfl rfl
theorem g66_120 {L : sl_L} {i t : Nat} : sl_Go xs N 66 120 L (.inr (.inr (1, i, t)) :: st) σ Q ↔ sl_Go xs N 66 123 L (.inl (σ i 8 2) :: st) σ Q := gk_get (g := .inl (i, 8, 2)) rfl rfl rfl
theorem g66_123 {x : sl_R} {a1 a2 a3 : Option sl_V} : sl_Go xs N 66 123 [some (.inr (.inr x)), a1, a2, a3] st σ Q ↔ sl_Go xs N 66 124 [some (.inr (.inr x)), a1, a2, a3] (.inr (.inr x) :: st) σ Q := gk_aload rfl rfl
theorem g66_124 {L : sl_L} {i t : Nat} : sl_Go xs N 66 124 L (.inr (.inr (0, i, t)) :: st) σ Q ↔ sl_Go xs N 66 127 L (.inr (.inr (11, 0, 0)) :: st) σ Q := gk_get (g := .inr (11, 0, 0)) rfl rfl rfl
theorem g66_127 {L : sl_L} {i t : Nat} : sl_Go xs N 66 127 L (.inr (.inr (11, i, t)) :: st) σ Q ↔ sl_Go xs N 66 130 L (.inl (σ 5 0 4) :: st) σ Q := gk_get (g := .inl (5, 0, 4)) rfl rfl rfl
theorem g66_130 {L : sl_L} {x y : Int32} : sl_Go xs N 66 130 L (.inl y :: .inl x :: st) σ Q ↔ (x ≤ y → sl_Go xs N 66 137 L st σ Q) ∧ (¬ x ≤ y → sl_Go xs N 66 133 L st σ Q) := gk_ile rfl
theorem g66_133 {L : sl_L} : sl_Go xs N 66 133 L st σ Q ↔ sl_Go xs N 66 134 L (.inl 1 :: st) σ Q := gk_const rfl
theorem g66_134 {L : sl_L} : sl_Go xs N 66 134 L st σ Q ↔ sl_Go xs N 66 138 L st σ Q := gk_goto rfl
theorem g66_137 {L : sl_L} : sl_Go xs N 66 137 L st σ Q ↔ sl_Go xs N 66 138 L (.inl 0 :: st) σ Q := gk_const rfl
theorem g66_138 {L : sl_L} {x : Int32} : sl_Go xs N 66 138 L [.inl x] σ Q ↔ Q (some (.inl x)) σ := gk_iret rfl
theorem g66_139 {x : sl_R} {a1 a2 a3 : Option sl_V} : sl_Go xs N 66 139 [some (.inr (.inr x)), a1, a2, a3] st σ Q ↔ sl_Go xs N 66 140 [some (.inr (.inr x)), a1, a2, a3] (.inr (.inr x) :: st) σ Q := gk_aload rfl rfl
theorem g66_140 {L : sl_L} {i t : Nat} : sl_Go xs N 66 140 L (.inr (.inr (0, i, t)) :: st) σ Q ↔ sl_Go xs N 66 143 L (.inr (.inr (1, 2, 0)) :: st) σ Q := gk_get (g := .inr (1, 2, 0)) rfl rfl rfl
theorem g66_143 {L : sl_L} {i t : Nat} : sl_Go xs N 66 143 L (.inr (.inr (1, i, t)) :: st) σ Q ↔ sl_Go xs N 66 146 L (.inl (σ i 0 7) :: st) σ Q := gk_get (g := .inl (i, 0, 7)) rfl rfl rfl
theorem g66_146 {x : sl_R} {a1 a2 a3 : Option sl_V} : sl_Go xs N 66 146 [some (.inr (.inr x)), a1, a2, a3] st σ Q ↔ sl_Go xs N 66 147 [some (.inr (.inr x)), a1, a2, a3] (.inr (.inr x) :: st) σ Q := gk_aload rfl rfl
theorem g66_147 {L : sl_L} {i t : Nat} : sl_Go xs N 66 147 L (.inr (.inr (0, i, t)) :: st) σ Q ↔ sl_Go xs N 66 150 L (.inr (.inr (1, 1, 0)) :: st) σ Q := gk_get (g := .inr (1, 1, 0)) rfl rfl rfl
theorem g66_150 {L : sl_L} {i t : Nat} : sl_Go xs N 66 150 L (.inr (.inr (1, i, t)) :: st) σ Q ↔ sl_Go xs N 66 153 L (.inl (σ i 0 7) :: st) σ Q := gk_get (g := .inl (i, 0, 7)) rfl rfl rfl
theorem g66_153 {L : sl_L} {x y : Int32} : sl_Go xs N 66 153 L (.inl y :: .inl x :: st) σ Q ↔ sl_Go xs N 66 154 L (.inl (x - y) :: st) σ Q := gk_bin (b := 9) rfl
theorem g66_154 {L : sl_L} {x : Int32} : sl_Go xs N 66 154 L [.inl x] σ Q ↔ Q (some (.inl x)) σ := gk_iret rfl
theorem g67_0 {x : sl_R} {a1 a2 a3 a4 a5 a6 a7 a8 a9 : Option sl_V} : sl_Go xs N 67 0 [some (.inr (.inr x)), a1, a2, a3, a4, a5, a6, a7, a8, a9] st σ Q ↔ sl_Go xs N 67 1 [some (.inr (.inr x)), a1, a2, a3, a4, a5, a6, a7, a8, a9] (.inr (.inr x) :: st) σ Q := gk_aload rfl rfl
theorem g67_1 {L : sl_L} {i t : Nat} : sl_Go xs N 67 1 L (.inr (.inr (0, i, t)) :: st) σ Q ↔ sl_Go xs N 67 4 L (.inr (.inr (11, 0, 0)) :: st) σ Q := gk_get (g := .inr (11, 0, 0)) rfl rfl rfl
theorem g67_4 {x : Int32} {a0 a2 a3 a4 a5 a6 a7 a8 a9 : Option sl_V} : sl_Go xs N 67 4 [a0, some (.inl x), a2, a3, a4, a5, a6, a7, a8, a9] st σ Q ↔ sl_Go xs N 67 5 [a0, some (.inl x), a2, a3, a4, a5, a6, a7, a8, a9] (.inl x :: st) σ Q := gk_iload rfl rfl
theorem g67_5 {L : sl_L} {x0 : Int32} {i t : Nat} : sl_Go xs N 67 5 L (.inl x0 :: .inr (.inr (11, i, t)) :: st) σ Q ↔ sl_cw st ≤ 8 ∧ sl_Go xs N 23 0 [some (.inr (.inr (11, i, t))), some (.inl x0)] [] σ (fun r τ => sl_Go xs N 67 8 L (r.toList ++ st) τ Q) := gk_call rfl (Nat.le_add_left 2 st.length) rfl rfl rfl rfl (Nat.le_of_ble_eq_true rfl)
theorem g67_8 {L : sl_L} {x : Int32} : sl_Go xs N 67 8 L (.inl x :: st) σ Q ↔ (x = 0 → sl_Go xs N 67 19 L st σ Q) ∧ (¬ x = 0 → sl_Go xs N 67 11 L st σ Q) := gk_zeq rfl
theorem g67_11 {x : sl_R} {a1 a2 a3 a4 a5 a6 a7 a8 a9 : Option sl_V} : sl_Go xs N 67 11 [some (.inr (.inr x)), a1, a2, a3, a4, a5, a6, a7, a8, a9] st σ Q ↔ sl_Go xs N 67 12 [some (.inr (.inr x)), a1, a2, a3, a4, a5, a6, a7, a8, a9] (.inr (.inr x) :: st) σ Q := gk_aload rfl rfl
theorem g67_12 {x : Int32} {a0 a1 a3 a4 a5 a6 a7 a8 a9 : Option sl_V} : sl_Go xs N 67 12 [a0, a1, some (.inl x), a3, a4, a5, a6, a7, a8, a9] st σ Q ↔ sl_Go xs N 67 13 [a0, a1, some (.inl x), a3, a4, a5, a6, a7, a8, a9] (.inl x :: st) σ Q := gk_iload rfl rfl
theorem g67_13 {L : sl_L} {x0 : Int32} {i t : Nat} : sl_Go xs N 67 13 L (.inl x0 :: .inr (.inr (0, i, t)) :: st) σ Q ↔ sl_cw st ≤ 8 ∧ sl_Go xs N 84 0 [some (.inr (.inr (0, i, t))), some (.inl x0)] [] σ (fun r τ => sl_Go xs N 67 16 L (r.toList ++ st) τ Q) := gk_call rfl (Nat.le_add_left 2 st.length) rfl rfl rfl rfl (Nat.le_of_ble_eq_true rfl)
theorem g67_16 {L : sl_L} {x : Int32} : sl_Go xs N 67 16 L (.inl x :: st) σ Q ↔ (¬ x = 0 → sl_Go xs N 67 21 L st σ Q) ∧ (x = 0 → sl_Go xs N 67 19 L st σ Q) := gk_zne rfl
theorem g67_19 {L : sl_L} : sl_Go xs N 67 19 L st σ Q ↔ sl_Go xs N 67 20 L (.inl (-1) :: st) σ Q := gk_const rfl
theorem g67_20 {L : sl_L} {x : Int32} : sl_Go xs N 67 20 L [.inl x] σ Q ↔ Q (some (.inl x)) σ := gk_iret rfl
theorem g67_21 {x : Int32} {a0 a1 a2 a4 a5 a6 a7 a8 a9 : Option sl_V} : sl_Go xs N 67 21 [a0, a1, a2, some (.inl x), a4, a5, a6, a7, a8, a9] st σ Q ↔ sl_Go xs N 67 22 [a0, a1, a2, some (.inl x), a4, a5, a6, a7, a8, a9] (.inl x :: st) σ Q := gk_iload rfl rfl
theorem g67_22 {L : sl_L} : sl_Go xs N 67 22 L st σ Q ↔ sl_Go xs N 67 23 L (.inl 1 :: st) σ Q := gk_const rfl
theorem g67_23 {L : sl_L} : sl_Go xs N 67 23 L st σ Q ↔ sl_Go xs N 67 26 L (.inl 1200 :: st) σ Q := gk_const rfl
theorem g67_26 {L : sl_L} {x0 : Int32} {x1 : Int32} {x2 : Int32} : sl_Go xs N 67 26 L (.inl x2 :: .inl x1 :: .inl x0 :: st) σ Q ↔ sl_cw st ≤ 8 ∧ sl_Go xs N 81 0 [some (.inl x0), some (.inl x1), some (.inl x2)] [] σ (fun r τ => sl_Go xs N 67 29 L (r.toList ++ st) τ Q) := gk_call rfl (Nat.le_add_left 3 st.length) rfl rfl rfl rfl (Nat.le_of_ble_eq_true rfl)
theorem g67_29 {L : sl_L} {x : Int32} : sl_Go xs N 67 29 L (.inl x :: st) σ Q ↔ (¬ x = 0 → sl_Go xs N 67 35 L st σ Q) ∧ (x = 0 → sl_Go xs N 67 32 L st σ Q) := gk_zne rfl
theorem g67_32 {L : sl_L} : sl_Go xs N 67 32 L st σ Q ↔ sl_Go xs N 67 34 L (.inl (-2) :: st) σ Q := gk_const rfl
theorem g67_34 {L : sl_L} {x : Int32} : sl_Go xs N 67 34 L [.inl x] σ Q ↔ Q (some (.inl x)) σ := gk_iret rfl
theorem g67_35 {x : sl_R} {a1 a2 a3 a4 a5 a6 a7 a8 a9 : Option sl_V} : sl_Go xs N 67 35 [some (.inr (.inr x)), a1, a2, a3, a4, a5, a6, a7, a8, a9] st σ Q ↔ sl_Go xs N 67 36 [some (.inr (.inr x)), a1, a2, a3, a4, a5, a6, a7, a8, a9] (.inr (.inr x) :: st) σ Q := gk_aload rfl rfl
theorem g67_36 {L : sl_L} {i t : Nat} : sl_Go xs N 67 36 L (.inr (.inr (0, i, t)) :: st) σ Q ↔ sl_Go xs N 67 39 L (.inr (.inr (11, 0, 0)) :: st) σ Q := gk_get (g := .inr (11, 0, 0)) rfl rfl rfl
theorem g67_39 {L : sl_L} {i t : Nat} : sl_Go xs N 67 39 L (.inr (.inr (11, i, t)) :: st) σ Q ↔ sl_Go xs N 67 42 L (.inr (.inr (12, 0, 0)) :: st) σ Q := gk_get (g := .inr (12, 0, 0)) rfl rfl rfl
theorem g67_42 {x : Int32} {a0 a2 a3 a4 a5 a6 a7 a8 a9 : Option sl_V} : sl_Go xs N 67 42 [a0, some (.inl x), a2, a3, a4, a5, a6, a7, a8, a9] st σ Q ↔ sl_Go xs N 67 43 [a0, some (.inl x), a2, a3, a4, a5, a6, a7, a8, a9] (.inl x :: st) σ Q := gk_iload rfl rfl
theorem g67_43 {L : sl_L} {j : Int32} {r : sl_R} : sl_Go xs N 67 43 L (.inl j :: .inr (.inr r) :: st) σ Q ↔ (0 ≤ j.toInt ∧ j.toInt < sl_rlen r) ∧ sl_Go xs N 67 44 L (.inr (.inr (sl_rg r j.toNatClampNeg)) :: st) σ Q := gk_aald rfl
theorem g67_44 {L : sl_L} {i t : Nat} : sl_Go xs N 67 44 L (.inr (.inr (13, i, t)) :: st) σ Q ↔ sl_cw st ≤ 8 ∧ sl_Go xs N 32 0 [some (.inr (.inr (13, i, t)))] [] σ (fun r τ => sl_Go xs N 67 47 L (r.toList ++ st) τ Q) := gk_call rfl (Nat.le_add_left 1 st.length) rfl rfl rfl rfl (Nat.le_of_ble_eq_true rfl)
theorem g67_47n {x : Int32} {a0 a1 a2 a4 a5 a6 a7 a8 a9 : Option sl_V} : sl_Go xs N 67 47 [a0, a1, a2, none, a4, a5, a6, a7, a8, a9] (.inl x :: st) σ Q ↔ sl_Go xs N 67 49 [a0, a1, a2, none, some (.inl x), a5, a6, a7, a8, a9] st σ Q := gk_istore rfl ⟨Nat.le_of_ble_eq_true rfl, rfl⟩ rfl
theorem g67_47i {x : Int32} {z : Int32} {a0 a1 a2 a4 a5 a6 a7 a8 a9 : Option sl_V} : sl_Go xs N 67 47 [a0, a1, a2, some (.inl z), a4, a5, a6, a7, a8, a9] (.inl x :: st) σ Q ↔ sl_Go xs N 67 49 [a0, a1, a2, some (.inl z), some (.inl x), a5, a6, a7, a8, a9] st σ Q := gk_istore rfl ⟨Nat.le_of_ble_eq_true rfl, rfl⟩ rfl
theorem g67_47r {x : Int32} {z : sl_R} {a0 a1 a2 a4 a5 a6 a7 a8 a9 : Option sl_V} : sl_Go xs N 67 47 [a0, a1, a2, some (.inr (.inr z)), a4, a5, a6, a7, a8, a9] (.inl x :: st) σ Q ↔ sl_Go xs N 67 49 [a0, a1, a2, some (.inr (.inr z)), some (.inl x), a5, a6, a7, a8, a9] st σ Q := gk_istore rfl ⟨Nat.le_of_ble_eq_true rfl, rfl⟩ rfl
theorem g67_49 {x : sl_R} {a1 a2 a3 a4 a5 a6 a7 a8 a9 : Option sl_V} : sl_Go xs N 67 49 [some (.inr (.inr x)), a1, a2, a3, a4, a5, a6, a7, a8, a9] st σ Q ↔ sl_Go xs N 67 50 [some (.inr (.inr x)), a1, a2, a3, a4, a5, a6, a7, a8, a9] (.inr (.inr x) :: st) σ Q := gk_aload rfl rfl
theorem g67_50 {L : sl_L} {i t : Nat} : sl_Go xs N 67 50 L (.inr (.inr (0, i, t)) :: st) σ Q ↔ sl_Go xs N 67 53 L (.inr (.inr (11, 0, 0)) :: st) σ Q := gk_get (g := .inr (11, 0, 0)) rfl rfl rfl
theorem g67_53 {L : sl_L} {i t : Nat} : sl_Go xs N 67 53 L (.inr (.inr (11, i, t)) :: st) σ Q ↔ sl_Go xs N 67 56 L (.inr (.inr (12, 0, 0)) :: st) σ Q := gk_get (g := .inr (12, 0, 0)) rfl rfl rfl
theorem g67_56 {x : Int32} {a0 a2 a3 a4 a5 a6 a7 a8 a9 : Option sl_V} : sl_Go xs N 67 56 [a0, some (.inl x), a2, a3, a4, a5, a6, a7, a8, a9] st σ Q ↔ sl_Go xs N 67 57 [a0, some (.inl x), a2, a3, a4, a5, a6, a7, a8, a9] (.inl x :: st) σ Q := gk_iload rfl rfl
theorem g67_57 {L : sl_L} {j : Int32} {r : sl_R} : sl_Go xs N 67 57 L (.inl j :: .inr (.inr r) :: st) σ Q ↔ (0 ≤ j.toInt ∧ j.toInt < sl_rlen r) ∧ sl_Go xs N 67 58 L (.inr (.inr (sl_rg r j.toNatClampNeg)) :: st) σ Q := gk_aald rfl
theorem g67_58 {x : Int32} {a0 a1 a2 a4 a5 a6 a7 a8 a9 : Option sl_V} : sl_Go xs N 67 58 [a0, a1, a2, some (.inl x), a4, a5, a6, a7, a8, a9] st σ Q ↔ sl_Go xs N 67 59 [a0, a1, a2, some (.inl x), a4, a5, a6, a7, a8, a9] (.inl x :: st) σ Q := gk_iload rfl rfl
theorem g67_59 {L : sl_L} {x0 : Int32} {i t : Nat} : sl_Go xs N 67 59 L (.inl x0 :: .inr (.inr (13, i, t)) :: st) σ Q ↔ sl_cw st ≤ 8 ∧ sl_Go xs N 35 0 [some (.inr (.inr (13, i, t))), some (.inl x0)] [] σ (fun r τ => sl_Go xs N 67 62 L (r.toList ++ st) τ Q) := gk_call rfl (Nat.le_add_left 2 st.length) rfl rfl rfl rfl (Nat.le_of_ble_eq_true rfl)
theorem g67_62n {x : Int32} {a0 a1 a2 a3 a5 a6 a7 a8 a9 : Option sl_V} : sl_Go xs N 67 62 [a0, a1, a2, a3, none, a5, a6, a7, a8, a9] (.inl x :: st) σ Q ↔ sl_Go xs N 67 64 [a0, a1, a2, a3, none, some (.inl x), a6, a7, a8, a9] st σ Q := gk_istore rfl ⟨Nat.le_of_ble_eq_true rfl, rfl⟩ rfl
theorem g67_62i {x : Int32} {z : Int32} {a0 a1 a2 a3 a5 a6 a7 a8 a9 : Option sl_V} : sl_Go xs N 67 62 [a0, a1, a2, a3, some (.inl z), a5, a6, a7, a8, a9] (.inl x :: st) σ Q ↔ sl_Go xs N 67 64 [a0, a1, a2, a3, some (.inl z), some (.inl x), a6, a7, a8, a9] st σ Q := gk_istore rfl ⟨Nat.le_of_ble_eq_true rfl, rfl⟩ rfl
theorem g67_62r {x : Int32} {z : sl_R} {a0 a1 a2 a3 a5 a6 a7 a8 a9 : Option sl_V} : sl_Go xs N 67 62 [a0, a1, a2, a3, some (.inr (.inr z)), a5, a6, a7, a8, a9] (.inl x :: st) σ Q ↔ sl_Go xs N 67 64 [a0, a1, a2, a3, some (.inr (.inr z)), some (.inl x), a6, a7, a8, a9] st σ Q := gk_istore rfl ⟨Nat.le_of_ble_eq_true rfl, rfl⟩ rfl
theorem g67_64 {L : sl_L} : sl_Go xs N 67 64 L st σ Q ↔ sl_Go xs N 67 65 L (.inl 0 :: st) σ Q := gk_const rfl
theorem g67_65n {x : Int32} {a0 a1 a2 a3 a4 a6 a7 a8 a9 : Option sl_V} : sl_Go xs N 67 65 [a0, a1, a2, a3, a4, none, a6, a7, a8, a9] (.inl x :: st) σ Q ↔ sl_Go xs N 67 67 [a0, a1, a2, a3, a4, none, some (.inl x), a7, a8, a9] st σ Q := gk_istore rfl ⟨Nat.le_of_ble_eq_true rfl, rfl⟩ rfl
theorem g67_65i {x : Int32} {z : Int32} {a0 a1 a2 a3 a4 a6 a7 a8 a9 : Option sl_V} : sl_Go xs N 67 65 [a0, a1, a2, a3, a4, some (.inl z), a6, a7, a8, a9] (.inl x :: st) σ Q ↔ sl_Go xs N 67 67 [a0, a1, a2, a3, a4, some (.inl z), some (.inl x), a7, a8, a9] st σ Q := gk_istore rfl ⟨Nat.le_of_ble_eq_true rfl, rfl⟩ rfl
theorem g67_65r {x : Int32} {z : sl_R} {a0 a1 a2 a3 a4 a6 a7 a8 a9 : Option sl_V} : sl_Go xs N 67 65 [a0, a1, a2, a3, a4, some (.inr (.inr z)), a6, a7, a8, a9] (.inl x :: st) σ Q ↔ sl_Go xs N 67 67 [a0, a1, a2, a3, a4, some (.inr (.inr z)), some (.inl x), a7, a8, a9] st σ Q := gk_istore rfl ⟨Nat.le_of_ble_eq_true rfl, rfl⟩ rfl
theorem g67_67 {L : sl_L} : sl_Go xs N 67 67 L st σ Q ↔ sl_Go xs N 67 68 L (.inl (-1) :: st) σ Q := gk_const rfl
theorem g67_68n {x : Int32} {a0 a1 a2 a3 a4 a5 a7 a8 a9 : Option sl_V} : sl_Go xs N 67 68 [a0, a1, a2, a3, a4, a5, none, a7, a8, a9] (.inl x :: st) σ Q ↔ sl_Go xs N 67 70 [a0, a1, a2, a3, a4, a5, none, some (.inl x), a8, a9] st σ Q := gk_istore rfl ⟨Nat.le_of_ble_eq_true rfl, rfl⟩ rfl
theorem g67_68i {x : Int32} {z : Int32} {a0 a1 a2 a3 a4 a5 a7 a8 a9 : Option sl_V} : sl_Go xs N 67 68 [a0, a1, a2, a3, a4, a5, some (.inl z), a7, a8, a9] (.inl x :: st) σ Q ↔ sl_Go xs N 67 70 [a0, a1, a2, a3, a4, a5, some (.inl z), some (.inl x), a8, a9] st σ Q := gk_istore rfl ⟨Nat.le_of_ble_eq_true rfl, rfl⟩ rfl
theorem g67_68r {x : Int32} {z : sl_R} {a0 a1 a2 a3 a4 a5 a7 a8 a9 : Option sl_V} : sl_Go xs N 67 68 [a0, a1, a2, a3, a4, a5, some (.inr (.inr z)), a7, a8, a9] (.inl x :: st) σ Q ↔ sl_Go xs N 67 70 [a0, a1, a2, a3, a4, a5, some (.inr (.inr z)), some (.inl x), a8, a9] st σ Q := gk_istore rfl ⟨Nat.le_of_ble_eq_true rfl, rfl⟩ rfl
theorem g67_70 {L : sl_L} : sl_Go xs N 67 70 L st σ Q ↔ sl_Go xs N 67 71 L (.inl 0 :: st) σ Q := gk_const rfl
theorem g67_71n {x : Int32} {a0 a1 a2 a3 a4 a5 a6 a8 a9 : Option sl_V} : sl_Go xs N 67 71 [a0, a1, a2, a3, a4, a5, a6, none, a8, a9] (.inl x :: st) σ Q ↔ sl_Go xs N 67 73 [a0, a1, a2, a3, a4, a5, a6, none, some (.inl x), a9] st σ Q := gk_istore rfl ⟨Nat.le_of_ble_eq_true rfl, rfl⟩ rfl
theorem g67_71i {x : Int32} {z : Int32} {a0 a1 a2 a3 a4 a5 a6 a8 a9 : Option sl_V} : sl_Go xs N 67 71 [a0, a1, a2, a3, a4, a5, a6, some (.inl z), a8, a9] (.inl x :: st) σ Q ↔ sl_Go xs N 67 73 [a0, a1, a2, a3, a4, a5, a6, some (.inl z), some (.inl x), a9] st σ Q := gk_istore rfl ⟨Nat.le_of_ble_eq_true rfl, rfl⟩ rfl
theorem g67_71r {x : Int32} {z : sl_R} {a0 a1 a2 a3 a4 a5 a6 a8 a9 : Option sl_V} : sl_Go xs N 67 71 [a0, a1, a2, a3, a4, a5, a6, some (.inr (.inr z)), a8, a9] (.inl x :: st) σ Q ↔ sl_Go xs N 67 73 [a0, a1, a2, a3, a4, a5, a6, some (.inr (.inr z)), some (.inl x), a9] st σ Q := gk_istore rfl ⟨Nat.le_of_ble_eq_true rfl, rfl⟩ rfl
theorem g67_73 {x : Int32} {a0 a1 a2 a3 a4 a5 a6 a7 a9 : Option sl_V} : sl_Go xs N 67 73 [a0, a1, a2, a3, a4, a5, a6, a7, some (.inl x), a9] st σ Q ↔ sl_Go xs N 67 75 [a0, a1, a2, a3, a4, a5, a6, a7, some (.inl x), a9] (.inl x :: st) σ Q := gk_iload rfl rfl
theorem g67_75 {L : sl_L} : sl_Go xs N 67 75 L st σ Q ↔ sl_Go xs N 67 77 L (.inl 24 :: st) σ Q := gk_const rfl
theorem g67_77 {L : sl_L} {x y : Int32} : sl_Go xs N 67 77 L (.inl y :: .inl x :: st) σ Q ↔ (y < x → sl_Go xs N 67 152 L st σ Q) ∧ (¬ y < x → sl_Go xs N 67 80 L st σ Q) := gk_igt rfl
theorem g67_80 {x : Int32} {a0 a1 a2 a3 a4 a5 a6 a7 a9 : Option sl_V} : sl_Go xs N 67 80 [a0, a1, a2, a3, a4, a5, a6, a7, some (.inl x), a9] st σ Q ↔ sl_Go xs N 67 82 [a0, a1, a2, a3, a4, a5, a6, a7, some (.inl x), a9] (.inl x :: st) σ Q := gk_iload rfl rfl
theorem g67_82 {x : Int32} {a0 a1 a2 a3 a4 a6 a7 a8 a9 : Option sl_V} : sl_Go xs N 67 82 [a0, a1, a2, a3, a4, some (.inl x), a6, a7, a8, a9] st σ Q ↔ sl_Go xs N 67 84 [a0, a1, a2, a3, a4, some (.inl x), a6, a7, a8, a9] (.inl x :: st) σ Q := gk_iload rfl rfl
theorem g67_84 {L : sl_L} {x y : Int32} : sl_Go xs N 67 84 L (.inl y :: .inl x :: st) σ Q ↔ sl_Go xs N 67 85 L (.inl (x * y) :: st) σ Q := gk_bin (b := 10) rfl
theorem g67_85 {x : Int32} {a0 a1 a2 a3 a5 a6 a7 a8 a9 : Option sl_V} : sl_Go xs N 67 85 [a0, a1, a2, a3, some (.inl x), a5, a6, a7, a8, a9] st σ Q ↔ sl_Go xs N 67 87 [a0, a1, a2, a3, some (.inl x), a5, a6, a7, a8, a9] (.inl x :: st) σ Q := gk_iload rfl rfl
theorem g67_87 {L : sl_L} {x y : Int32} : sl_Go xs N 67 87 L (.inl y :: .inl x :: st) σ Q ↔ (y < x → sl_Go xs N 67 152 L st σ Q) ∧ (¬ y < x → sl_Go xs N 67 90 L st σ Q) := gk_igt rfl
theorem g67_90 {x : Int32} {a0 a1 a2 a3 a4 a5 a6 a7 a9 : Option sl_V} : sl_Go xs N 67 90 [a0, a1, a2, a3, a4, a5, a6, a7, some (.inl x), a9] st σ Q ↔ sl_Go xs N 67 92 [a0, a1, a2, a3, a4, a5, a6, a7, some (.inl x), a9] (.inl x :: st) σ Q := gk_iload rfl rfl
theorem g67_92 {x : Int32} {a0 a1 a2 a3 a4 a6 a7 a8 a9 : Option sl_V} : sl_Go xs N 67 92 [a0, a1, a2, a3, a4, some (.inl x), a6, a7, a8, a9] st σ Q ↔ sl_Go xs N 67 94 [a0, a1, a2, a3, a4, some (.inl x), a6, a7, a8, a9] (.inl x :: st) σ Q := gk_iload rfl rfl
theorem g67_94 {L : sl_L} {x y : Int32} : sl_Go xs N 67 94 L (.inl y :: .inl x :: st) σ Q ↔ sl_Go xs N 67 95 L (.inl (x * y) :: st) σ Q := gk_bin (b := 10) rfl
theorem g67_95n {x : Int32} {a0 a1 a2 a3 a4 a5 a6 a7 a9 : Option sl_V} : sl_Go xs N 67 95 [a0, a1, a2, a3, a4, a5, a6, a7, none, a9] (.inl x :: st) σ Q ↔ sl_Go xs N 67 97 [a0, a1, a2, a3, a4, a5, a6, a7, none, some (.inl x)] st σ Q := gk_istore rfl ⟨Nat.le_of_ble_eq_true rfl, rfl⟩ rfl
theorem g67_95i {x : Int32} {z : Int32} {a0 a1 a2 a3 a4 a5 a6 a7 a9 : Option sl_V} : sl_Go xs N 67 95 [a0, a1, a2, a3, a4, a5, a6, a7, some (.inl z), a9] (.inl x :: st) σ Q ↔ sl_Go xs N 67 97 [a0, a1, a2, a3, a4, a5, a6, a7, some (.inl z), some (.inl x)] st σ Q := gk_istore rfl ⟨Nat.le_of_ble_eq_true rfl, rfl⟩ rfl
theorem g67_95r {x : Int32} {z : sl_R} {a0 a1 a2 a3 a4 a5 a6 a7 a9 : Option sl_V} : sl_Go xs N 67 95 [a0, a1, a2, a3, a4, a5, a6, a7, some (.inr (.inr z)), a9] (.inl x :: st) σ Q ↔ sl_Go xs N 67 97 [a0, a1, a2, a3, a4, a5, a6, a7, some (.inr (.inr z)), some (.inl x)] st σ Q := gk_istore rfl ⟨Nat.le_of_ble_eq_true rfl, rfl⟩ rfl
theorem g67_97 {x : sl_R} {a1 a2 a3 a4 a5 a6 a7 a8 a9 : Option sl_V} : sl_Go xs N 67 97 [some (.inr (.inr x)), a1, a2, a3, a4, a5, a6, a7, a8, a9] st σ Q ↔ sl_Go xs N 67 98 [some (.inr (.inr x)), a1, a2, a3, a4, a5, a6, a7, a8, a9] (.inr (.inr x) :: st) σ Q := gk_aload rfl rfl
theorem g67_98 {x : Int32} {a0 a1 a3 a4 a5 a6 a7 a8 a9 : Option sl_V} : sl_Go xs N 67 98 [a0, a1, some (.inl x), a3, a4, a5, a6, a7, a8, a9] st σ Q ↔ sl_Go xs N 67 99 [a0, a1, some (.inl x), a3, a4, a5, a6, a7, a8, a9] (.inl x :: st) σ Q := gk_iload rfl rfl
theorem g67_99 {L : sl_L} {x0 : Int32} {i t : Nat} : sl_Go xs N 67 99 L (.inl x0 :: .inr (.inr (0, i, t)) :: st) σ Q ↔ sl_cw st ≤ 8 ∧ sl_Go xs N 85 0 [some (.inr (.inr (0, i, t))), some (.inl x0)] [] σ (fun r τ => sl_Go xs N 67 102 L (r.toList ++ st) τ Q) := gk_call rfl (Nat.le_add_left 2 st.length) rfl rfl rfl rfl (Nat.le_of_ble_eq_true rfl)
theorem g67_102 {x : sl_R} {a1 a2 a3 a4 a5 a6 a7 a8 a9 : Option sl_V} : sl_Go xs N 67 102 [some (.inr (.inr x)), a1, a2, a3, a4, a5, a6, a7, a8, a9] st σ Q ↔ sl_Go xs N 67 103 [some (.inr (.inr x)), a1, a2, a3, a4, a5, a6, a7, a8, a9] (.inr (.inr x) :: st) σ Q := gk_aload rfl rfl
theorem g67_103 {L : sl_L} {i t : Nat} : sl_Go xs N 67 103 L (.inr (.inr (0, i, t)) :: st) σ Q ↔ sl_Go xs N 67 106 L (.inr (.inr (1, 2, 0)) :: st) σ Q := gk_get (g := .inr (1, 2, 0)) rfl rfl rfl
theorem g67_106 {x : Int32} {a0 a2 a3 a4 a5 a6 a7 a8 a9 : Option sl_V} : sl_Go xs N 67 106 [a0, some (.inl x), a2, a3, a4, a5, a6, a7, a8, a9] st σ Q ↔ sl_Go xs N 67 107 [a0, some (.inl x), a2, a3, a4, a5, a6, a7, a8, a9] (.inl x :: st) σ Q := gk_iload rfl rfl
theorem g67_107 {x : Int32} {a0 a1 a2 a3 a4 a5 a6 a7 a8 : Option sl_V} : sl_Go xs N 67 107 [a0, a1, a2, a3, a4, a5, a6, a7, a8, some (.inl x)] st σ Q ↔ sl_Go xs N 67 109 [a0, a1, a2, a3, a4, a5, a6, a7, a8, some (.inl x)] (.inl x :: st) σ Q := gk_iload rfl rfl
theorem g67_109 {L : sl_L} {x0 : Int32} {x1 : Int32} {i t : Nat} : sl_Go xs N 67 109 L (.inl x1 :: .inl x0 :: .inr (.inr (1, i, t)) :: st) σ Q ↔ sl_cw st ≤ 8 ∧ sl_Go xs N 12 0 [some (.inr (.inr (1, i, t))), some (.inl x0), some (.inl x1), none, none] [] σ (fun r τ => sl_Go xs N 67 112 L (r.toList ++ st) τ Q) := gk_call rfl (Nat.le_add_left 3 st.length) rfl rfl rfl rfl (Nat.le_of_ble_eq_true rfl)
theorem g67_112 {x : sl_R} {a1 a2 a3 a4 a5 a6 a7 a8 a9 : Option sl_V} : sl_Go xs N 67 112 [some (.inr (.inr x)), a1, a2, a3, a4, a5, a6, a7, a8, a9] st σ Q ↔ sl_Go xs N 67 113 [some (.inr (.inr x)), a1, a2, a3, a4, a5, a6, a7, a8, a9] (.inr (.inr x) :: st) σ Q := gk_aload rfl rfl
theorem g67_113 {L : sl_L} {i t : Nat} : sl_Go xs N 67 113 L (.inr (.inr (0, i, t)) :: st) σ Q ↔ sl_Go xs N 67 116 L (.inr (.inr (1, 2, 0)) :: st) σ Q := gk_get (g := .inr (1, 2, 0)) rfl rfl rfl
theorem g67_116 {L : sl_L} : sl_Go xs N 67 116 L st σ Q ↔ sl_Go xs N 67 118 L (.inl 60 :: st) σ Q := gk_const rfl
theorem g67_118 {L : sl_L} {x0 : Int32} {i t : Nat} : sl_Go xs N 67 118 L (.inl x0 :: .inr (.inr (1, i, t)) :: st) σ Q ↔ sl_cw st ≤ 8 ∧ sl_Go xs N 14 0 [some (.inr (.inr (1, i, t))), some (.inl x0), none] [] σ (fun r τ => sl_Go xs N 67 121 L (r.toList ++ st) τ Q) := gk_call rfl (Nat.le_add_left 2 st.length) rfl rfl rfl rfl (Nat.le_of_ble_eq_true rfl)
theorem g67_121 {x : sl_R} {a1 a2 a3 a4 a5 a6 a7 a8 a9 : Option sl_V} : sl_Go xs N 67 121 [some (.inr (.inr x)), a1, a2, a3, a4, a5, a6, a7, a8, a9] st σ Q ↔ sl_Go xs N 67 122 [some (.inr (.inr x)), a1, a2, a3, a4, a5, a6, a7, a8, a9] (.inr (.inr x) :: st) σ Q := gk_aload rfl rfl
theorem g67_122 {L : sl_L} {i t : Nat} : sl_Go xs N 67 122 L (.inr (.inr (0, i, t)) :: st) σ Q ↔ sl_Go xs N 67 125 L (.inr (.inr (1, 2, 0)) :: st) σ Q := gk_get (g := .inr (1, 2, 0)) rfl rfl rfl
theorem g67_125 {L : sl_L} {i t : Nat} : sl_Go xs N 67 125 L (.inr (.inr (1, i, t)) :: st) σ Q ↔ sl_Go xs N 67 128 L (.inl (σ i 8 2) :: st) σ Q := gk_get (g := .inl (i, 8, 2)) rfl rfl rfl
theorem g67_128 {x : Int32} {a0 a1 a2 a3 a4 a5 a6 a8 a9 : Option sl_V} : sl_Go xs N 67 128 [a0, a1, a2, a3, a4, a5, a6, some (.inl x), a8, a9] st σ Q ↔ sl_Go xs N 67 130 [a0, a1, a2, a3, a4, a5, a6, some (.inl x), a8, a9] (.inl x :: st) σ Q := gk_iload rfl rfl
theorem g67_130 {L : sl_L} {x y : Int32} : sl_Go xs N 67 130 L (.inl y :: .inl x :: st) σ Q ↔ (x ≤ y → sl_Go xs N 67 146 L st σ Q) ∧ (¬ x ≤ y → sl_Go xs N 67 133 L st σ Q) := gk_ile rfl
theorem g67_133 {x : sl_R} {a1 a2 a3 a4 a5 a6 a7 a8 a9 : Option sl_V} : sl_Go xs N 67 133 [some (.inr (.inr x)), a1, a2, a3, a4, a5, a6, a7, a8, a9] st σ Q ↔ sl_Go xs N 67 134 [some (.inr (.inr x)), a1, a2, a3, a4, a5, a6, a7, a8, a9] (.inr (.inr x) :: st) σ Q := gk_aload rfl rfl
theorem g67_134 {L : sl_L} {i t : Nat} : sl_Go xs N 67 134 L (.inr (.inr (0, i, t)) :: st) σ Q ↔ sl_Go xs N 67 137 L (.inr (.inr (1, 2, 0)) :: st) σ Q := gk_get (g := .inr (1, 2, 0)) rfl rfl rfl
theorem g67_137 {L : sl_L} {i t : Nat} : sl_Go xs N 67 137 L (.inr (.inr (1, i, t)) :: st) σ Q ↔ sl_Go xs N 67 140 L (.inl (σ i 8 2) :: st) σ Q := gk_get (g := .inl (i, 8, 2)) rfl rfl rfl
theorem g67_140n {x : Int32} {a0 a1 a2 a3 a4 a5 a7 a8 a9 : Option sl_V} : sl_Go xs N 67 140 [a0, a1, a2, a3, a4, a5, none, a7, a8, a9] (.inl x :: st) σ Q ↔ sl_Go xs N 67 142 [a0, a1, a2, a3, a4, a5, none, some (.inl x), a8, a9] st σ Q := gk_istore rfl ⟨Nat.le_of_ble_eq_true rfl, rfl⟩ rfl
theorem g67_140i {x : Int32} {z : Int32} {a0 a1 a2 a3 a4 a5 a7 a8 a9 : Option sl_V} : sl_Go xs N 67 140 [a0, a1, a2, a3, a4, a5, some (.inl z), a7, a8, a9] (.inl x :: st) σ Q ↔ sl_Go xs N 67 142 [a0, a1, a2, a3, a4, a5, some (.inl z), some (.inl x), a8, a9] st σ Q := gk_istore rfl ⟨Nat.le_of_ble_eq_true rfl, rfl⟩ rfl
theorem g67_140r {x : Int32} {z : sl_R} {a0 a1 a2 a3 a4 a5 a7 a8 a9 : Option sl_V} : sl_Go xs N 67 140 [a0, a1, a2, a3, a4, a5, some (.inr (.inr z)), a7, a8, a9] (.inl x :: st) σ Q ↔ sl_Go xs N 67 142 [a0, a1, a2, a3, a4, a5, some (.inr (.inr z)), some (.inl x), a8, a9] st σ Q := gk_istore rfl ⟨Nat.le_of_ble_eq_true rfl, rfl⟩ rfl
theorem g67_142 {x : Int32} {a0 a1 a2 a3 a4 a5 a6 a7 a8 : Option sl_V} : sl_Go xs N 67 142 [a0, a1, a2, a3, a4, a5, a6, a7, a8, some (.inl x)] st σ Q ↔ sl_Go xs N 67 144 [a0, a1, a2, a3, a4, a5, a6, a7, a8, some (.inl x)] (.inl x :: st) σ Q := gk_iload rfl rfl
theorem g67_144n {x : Int32} {a0 a1 a2 a3 a4 a6 a7 a8 a9 : Option sl_V} : sl_Go xs N 67 144 [a0, a1, a2, a3, a4, none, a6, a7, a8, a9] (.inl x :: st) σ Q ↔ sl_Go xs N 67 146 [a0, a1, a2, a3, a4, none, some (.inl x), a7, a8, a9] st σ Q := gk_istore rfl ⟨Nat.le_of_ble_eq_true rfl, rfl⟩ rfl
theorem g67_144i {x : Int32} {z : Int32} {a0 a1 a2 a3 a4 a6 a7 a8 a9 : Option sl_V} : sl_Go xs N 67 144 [a0, a1, a2, a3, a4, some (.inl z), a6, a7, a8, a9] (.inl x :: st) σ Q ↔ sl_Go xs N 67 146 [a0, a1, a2, a3, a4, some (.inl z), some (.inl x), a7, a8, a9] st σ Q := gk_istore rfl ⟨Nat.le_of_ble_eq_true rfl, rfl⟩ rfl
theorem g67_144r {x : Int32} {z : sl_R} {a0 a1 a2 a3 a4 a6 a7 a8 a9 : Option sl_V} : sl_Go xs N 67 144 [a0, a1, a2, a3, a4, some (.inr (.inr z)), a6, a7, a8, a9] (.inl x :: st) σ Q ↔ sl_Go xs N 67 146 [a0, a1, a2, a3, a4, some (.inr (.inr z)), some (.inl x), a7, a8, a9] st σ Q := gk_istore rfl ⟨Nat.le_of_ble_eq_true rfl, rfl⟩ rfl
theorem g67_146n {x : Int32} {a0 a1 a2 a3 a4 a5 a6 a9 : Option sl_V} : sl_Go xs N 67 146 [a0, a1, a2, a3, a4, a5, a6, none, some (.inl x), a9] st σ Q ↔ sl_Go xs N 67 149 [a0, a1, a2, a3, a4, a5, a6, none, some (.inl (x + 1)), a9] st σ Q := gk_iinc rfl rfl rfl rfl
theorem g67_146i {x : Int32} {z : Int32} {a0 a1 a2 a3 a4 a5 a6 a9 : Option sl_V} : sl_Go xs N 67 146 [a0, a1, a2, a3, a4, a5, a6, some (.inl z), some (.inl x), a9] st σ Q ↔ sl_Go xs N 67 149 [a0, a1, a2, a3, a4, a5, a6, some (.inl z), some (.inl (x + 1)), a9] st σ Q := gk_iinc rfl rfl rfl rfl
theorem g67_146r {x : Int32} {z : sl_R} {a0 a1 a2 a3 a4 a5 a6 a9 : Option sl_V} : sl_Go xs N 67 146 [a0, a1, a2, a3, a4, a5, a6, some (.inr (.inr z)), some (.inl x), a9] st σ Q ↔ sl_Go xs N 67 149 [a0, a1, a2, a3, a4, a5, a6, some (.inr (.inr z)), some (.inl (x + 1)), a9] st σ Q := gk_iinc rfl rfl rfl rfl
theorem g67_149 {L : sl_L} : sl_Go xs N 67 149 L st σ Q ↔ sl_Go xs N 67 73 L st σ Q := gk_goto rfl
theorem g67_152 {x : Int32} {a0 a1 a2 a3 a4 a5 a7 a8 a9 : Option sl_V} : sl_Go xs N 67 152 [a0, a1, a2, a3, a4, a5, some (.inl x), a7, a8, a9] st σ Q ↔ sl_Go xs N 67 154 [a0, a1, a2, a3, a4, a5, some (.inl x), a7, a8, a9] (.inl x :: st) σ Q := gk_iload rfl rfl
theorem g67_154 {L : sl_L} {x : Int32} : sl_Go xs N 67 154 L [.inl x] σ Q ↔ Q (some (.inl x)) σ := gk_iret rfl
theorem g68_0 {x : sl_R} {a1 a2 a3 a4 a5 : Option sl_V} : sl_Go xs N 68 0 [some (.inr (.inr x)), a1, a2, a3, a4, a5] st σ Q ↔ sl_Go xs N 68 1 [some (.inr (.inr x)), a1, a2, a3, a4, a5] (.inr (.inr x) :: st) σ Q := gk_aload rfl rfl
theorem g68_1 {L : sl_L} {i t : Nat} : sl_Go xs N 68 1 L (.inr (.inr (0, i, t)) :: st) σ Q ↔ sl_Go xs N 68 4 L (.inr (.inr (11, 0, 0)) :: st) σ Q := gk_get (g := .inr (11, 0, 0)) rfl rfl rfl
theorem g68_4 {x : Int32} {a0 a2 a3 a4 a5 : Option sl_V} : sl_Go xs N 68 4 [a0, some (.inl x), a2, a3, a4, a5] st σ Q ↔ sl_Go xs N 68 5 [a0, some (.inl x), a2, a3, a4, a5] (.inl x :: st) σ Q := gk_iload rfl rfl
theorem g68_5 {L : sl_L} {x0 : Int32} {i t : Nat} : sl_Go xs N 68 5 L (.inl x0 :: .inr (.inr (11, i, t)) :: st) σ Q ↔ sl_cw st ≤ 8 ∧ sl_Go xs N 23 0 [some (.inr (.inr (11, i, t))), some (.inl x0)] [] σ (fun r τ => sl_Go xs N 68 8 L (r.toList ++ st) τ Q) := gk_call rfl (Nat.le_add_left 2 st.length) rfl rfl rfl rfl (Nat.le_of_ble_eq_true rfl)
theorem g68_8 {L : sl_L} {x : Int32} : sl_Go xs N 68 8 L (.inl x :: st) σ Q ↔ (x = 0 → sl_Go xs N 68 26 L st σ Q) ∧ (¬ x = 0 → sl_Go xs N 68 11 L st σ Q) := gk_zeq rfl
theorem g68_11 {x : Int32} {a0 a1 a3 a4 a5 : Option sl_V} : sl_Go xs N 68 11 [a0, a1, some (.inl x), a3, a4, a5] st σ Q ↔ sl_Go xs N 68 12 [a0, a1, some (.inl x), a3, a4, a5] (.inl x :: st) σ Q := gk_iload rfl rfl
theorem g68_12 {L : sl_L} {x0 : Int32} : sl_Go xs N 68 12 L (.inl x0 :: st) σ Q ↔ sl_cw st ≤ 8 ∧ sl_Go xs N 83 0 [some (.inl x0)] [] σ (fun r τ => sl_Go xs N 68 15 L (r.toList ++ st) τ Q) := gk_call rfl (Nat.le_add_left 1 st.length) rfl rfl rfl rfl (Nat.le_of_ble_eq_true rfl)
theorem g68_15 {L : sl_L} {x : Int32} : sl_Go xs N 68 15 L (.inl x :: st) σ Q ↔ (x = 0 → sl_Go xs N 68 26 L st σ Q) ∧ (¬ x = 0 → sl_Go xs N 68 18 L st σ Q) := gk_zeq rfl
theorem g68_18 {x : sl_R} {a1 a2 a3 a4 a5 : Option sl_V} : sl_Go xs N 68 18 [some (.inr (.inr x)), a1, a2, a3, a4, a5] st σ Q ↔ sl_Go xs N 68 19 [some (.inr (.inr x)), a1, a2, a3, a4, a5] (.inr (.inr x) :: st) σ Q := gk_aload rfl rfl
theorem g68_19 {x : Int32} {a0 a1 a2 a4 a5 : Option sl_V} : sl_Go xs N 68 19 [a0, a1, a2, some (.inl x), a4, a5] st σ Q ↔ sl_Go xs N 68 20 [a0, a1, a2, some (.inl x), a4, a5] (.inl x :: st) σ Q := gk_iload rfl rfl
theorem g68_20 {L : sl_L} {x0 : Int32} {i t : Nat} : sl_Go xs N 68 20 L (.inl x0 :: .inr (.inr (0, i, t)) :: st) σ Q ↔ sl_cw st ≤ 8 ∧ sl_Go xs N 84 0 [some (.inr (.inr (0, i, t))), some (.inl x0)] [] σ (fun r τ => sl_Go xs N 68 23 L (r.toList ++ st) τ Q) := gk_call rfl (Nat.le_add_left 2 st.length) rfl rfl rfl rfl (Nat.le_of_ble_eq_true rfl)
theorem g68_23 {L : sl_L} {x : Int32} : sl_Go xs N 68 23 L (.inl x :: st) σ Q ↔ (¬ x = 0 → sl_Go xs N 68 28 L st σ Q) ∧ (x = 0 → sl_Go xs N 68 26 L st σ Q) := gk_zne rfl
theorem g68_26 {L : sl_L} : sl_Go xs N 68 26 L st σ Q ↔ sl_Go xs N 68 27 L (.inl (-1) :: st) σ Q := gk_const rfl
theorem g68_27 {L : sl_L} {x : Int32} : sl_Go xs N 68 27 L [.inl x] σ Q ↔ Q (some (.inl x)) σ := gk_iret rfl
theorem g68_28 {x : sl_R} {a1 a2 a3 a4 a5 : Option sl_V} : sl_Go xs N 68 28 [some (.inr (.inr x)), a1, a2, a3, a4, a5] st σ Q ↔ sl_Go xs N 68 29 [some (.inr (.inr x)), a1, a2, a3, a4, a5] (.inr (.inr x) :: st) σ Q := gk_aload rfl rfl
theorem g68_29 {L : sl_L} {i t : Nat} : sl_Go xs N 68 29 L (.inr (.inr (0, i, t)) :: st) σ Q ↔ sl_Go xs N 68 32 L (.inr (.inr (29, 0, 0)) :: st) σ Q := gk_get (g := .inr (29, 0, 0)) rfl rfl rfl
theorem g68_32 {x : Int32} {a0 a1 a3 a4 a5 : Option sl_V} : sl_Go xs N 68 32 [a0, a1, some (.inl x), a3, a4, a5] st σ Q ↔ sl_Go xs N 68 33 [a0, a1, some (.inl x), a3, a4, a5] (.inl x :: st) σ Q := gk_iload rfl rfl
theorem g68_33 {L : sl_L} {j : Int32} {r : sl_R} : sl_Go xs N 68 33 L (.inl j :: .inr (.inr r) :: st) σ Q ↔ (0 ≤ j.toInt ∧ j.toInt < sl_rlen r) ∧ sl_Go xs N 68 34 L (.inr (.inr (sl_rg r j.toNatClampNeg)) :: st) σ Q := gk_aald rfl
theorem g68_34n {x : sl_R} {a0 a1 a2 a3 a5 : Option sl_V} : sl_Go xs N 68 34 [a0, a1, a2, a3, none, a5] (.inr (.inr x) :: st) σ Q ↔ sl_Go xs N 68 36 [a0, a1, a2, a3, none, some (.inr (.inr x))] st σ Q := gk_astore rfl ⟨Nat.le_of_ble_eq_true rfl, rfl⟩ rfl
theorem g68_34i {x : sl_R} {z : Int32} {a0 a1 a2 a3 a5 : Option sl_V} : sl_Go xs N 68 34 [a0, a1, a2, a3, some (.inl z), a5] (.inr (.inr x) :: st) σ Q ↔ sl_Go xs N 68 36 [a0, a1, a2, a3, some (.inl z), some (.inr (.inr x))] st σ Q := gk_astore rfl ⟨Nat.le_of_ble_eq_true rfl, rfl⟩ rfl
theorem g68_34r {x : sl_R} {z : sl_R} {a0 a1 a2 a3 a5 : Option sl_V} : sl_Go xs N 68 34 [a0, a1, a2, a3, some (.inr (.inr z)), a5] (.inr (.inr x) :: st) σ Q ↔ sl_Go xs N 68 36 [a0, a1, a2, a3, some (.inr (.inr z)), some (.inr (.inr x))] st σ Q := gk_astore rfl ⟨Nat.le_of_ble_eq_true rfl, rfl⟩ rfl
theorem g68_36 {x : sl_R} {a0 a1 a2 a3 a4 : Option sl_V} : sl_Go xs N 68 36 [a0, a1, a2, a3, a4, some (.inr (.inr x))] st σ Q ↔ sl_Go xs N 68 38 [a0, a1, a2, a3, a4, some (.inr (.inr x))] (.inr (.inr x) :: st) σ Q := gk_aload rfl rfl
theorem g68_38 {L : sl_L} {i t : Nat} : sl_Go xs N 68 38 L (.inr (.inr (30, i, t)) :: st) σ Q ↔ sl_cw st ≤ 8 ∧ sl_Go xs N 28 0 [some (.inr (.inr (30, i, t)))] [] σ (fun r τ => sl_Go xs N 68 41 L (r.toList ++ st) τ Q) := gk_call rfl (Nat.le_add_left 1 st.length) rfl rfl rfl rfl (Nat.le_of_ble_eq_true rfl)
theorem g68_41 {L : sl_L} {x : Int32} : sl_Go xs N 68 41 L (.inl x :: st) σ Q ↔ (x = 0 → sl_Go xs N 68 47 L st σ Q) ∧ (¬ x = 0 → sl_Go xs N 68 44 L st σ Q) := gk_zeq rfl
theorem g68_44 {L : sl_L} : sl_Go xs N 68 44 L st σ Q ↔ sl_Go xs N 68 46 L (.inl (-11) :: st) σ Q := gk_const rfl
theorem g68_46 {L : sl_L} {x : Int32} : sl_Go xs N 68 46 L [.inl x] σ Q ↔ Q (some (.inl x)) σ := gk_iret rfl
theorem g68_47 {x : sl_R} {a0 a1 a2 a3 a4 : Option sl_V} : sl_Go xs N 68 47 [a0, a1, a2, a3, a4, some (.inr (.inr x))] st σ Q ↔ sl_Go xs N 68 49 [a0, a1, a2, a3, a4, some (.inr (.inr x))] (.inr (.inr x) :: st) σ Q := gk_aload rfl rfl
theorem g68_49 {L : sl_L} {i t : Nat} : sl_Go xs N 68 49 L (.inr (.inr (30, i, t)) :: st) σ Q ↔ sl_Go xs N 68 52 L (.inl (σ 7 12 t) :: st) σ Q := gk_get (g := .inl (7, 12, t)) rfl rfl rfl
theorem g68_52 {L : sl_L} : sl_Go xs N 68 52 L st σ Q ↔ sl_Go xs N 68 54 L (.inl 6 :: st) σ Q := gk_const rfl
theorem g68_54 {L : sl_L} {x y : Int32} : sl_Go xs N 68 54 L (.inl y :: .inl x :: st) σ Q ↔ (y < x → sl_Go xs N 68 85 L st σ Q) ∧ (¬ y < x → sl_Go xs N 68 57 L st σ Q) := gk_igt rfl
theorem g68_57 {x : Int32} {a0 a1 a2 a3 a5 : Option sl_V} : sl_Go xs N 68 57 [a0, a1, a2, a3, some (.inl x), a5] st σ Q ↔ sl_Go xs N 68 59 [a0, a1, a2, a3, some (.inl x), a5] (.inl x :: st) σ Q := gk_iload rfl rfl
theorem g68_59 {L : sl_L} : sl_Go xs N 68 59 L st σ Q ↔ sl_Go xs N 68 60 L (.inl 0 :: st) σ Q := gk_const rfl
theorem g68_60 {L : sl_L} : sl_Go xs N 68 60 L st σ Q ↔ sl_Go xs N 68 62 L (.inl 6 :: st) σ Q := gk_const rfl
theorem g68_62 {L : sl_L} {x0 : Int32} {x1 : Int32} {x2 : Int32} : sl_Go xs N 68 62 L (.inl x2 :: .inl x1 :: .inl x0 :: st) σ Q ↔ sl_cw st ≤ 8 ∧ sl_Go xs N 81 0 [some (.inl x0), some (.inl x1), some (.inl x2)] [] σ (fun r τ => sl_Go xs N 68 65 L (r.toList ++ st) τ Q) := gk_call rfl (Nat.le_add_left 3 st.length) rfl rfl rfl rfl (Nat.le_of_ble_eq_true rfl)
theorem g68_65 {L : sl_L} {x : Int32} : sl_Go xs N 68 65 L (.inl x :: st) σ Q ↔ (x = 0 → sl_Go xs N 68 85 L st σ Q) ∧ (¬ x = 0 → sl_Go xs N 68 68 L st σ Q) := gk_zeq rfl
theorem g68_68 {x : sl_R} {a0 a1 a2 a3 a4 : Option sl_V} : sl_Go xs N 68 68 [a0, a1, a2, a3, a4, some (.inr (.inr x))] st σ Q ↔ sl_Go xs N 68 70 [a0, a1, a2, a3, a4, some (.inr (.inr x))] (.inr (.inr x) :: st) σ Q := gk_aload rfl rfl
theorem g68_70 {x : sl_R} {a1 a2 a3 a4 a5 : Option sl_V} : sl_Go xs N 68 70 [some (.inr (.inr x)), a1, a2, a3, a4, a5] st σ Q ↔ sl_Go xs N 68 71 [some (.inr (.inr x)), a1, a2, a3, a4, a5] (.inr (.inr x) :: st) σ Q := gk_aload rfl rfl
theorem g68_71 {L : sl_L} {i t : Nat} : sl_Go xs N 68 71 L (.inr (.inr (0, i, t)) :: st) σ Q ↔ sl_Go xs N 68 74 L (.inr (.inr (11, 0, 0)) :: st) σ Q := gk_get (g := .inr (11, 0, 0)) rfl rfl rfl
theorem g68_74 {L : sl_L} {i t : Nat} : sl_Go xs N 68 74 L (.inr (.inr (11, i, t)) :: st) σ Q ↔ sl_Go xs N 68 77 L (.inr (.inr (12, 0, 0)) :: st) σ Q := gk_get (g := .inr (12, 0, 0)) rfl rfl rfl
theorem g68_77 {x : Int32} {a0 a2 a3 a4 a5 : Option sl_V} : sl_Go xs N 68 77 [a0, some (.inl x), a2, a3, a4, a5] st σ Q ↔ sl_Go xs N 68 78 [a0, some (.inl x), a2, a3, a4, a5] (.inl x :: st) σ Q := gk_iload rfl rfl
theorem g68_78 {L : sl_L} {j : Int32} {r : sl_R} : sl_Go xs N 68 78 L (.inl j :: .inr (.inr r) :: st) σ Q ↔ (0 ≤ j.toInt ∧ j.toInt < sl_rlen r) ∧ sl_Go xs N 68 79 L (.inr (.inr (sl_rg r j.toNatClampNeg)) :: st) σ Q := gk_aald rfl
theorem g68_79 {L : sl_L} {x0 : sl_R} {x1 : sl_R} : sl_Go xs N 68 79 L (.inr (.inr x1) :: .inr (.inr x0) :: st) σ Q ↔ sl_cw st ≤ 8 ∧ sl_Go xs N 86 0 [some (.inr (.inr x0)), some (.inr (.inr x1)), none] [] σ (fun r τ => sl_Go xs N 68 82 L (r.toList ++ st) τ Q) := gk_call rfl (Nat.le_add_left 2 st.length) rfl rfl rfl rfl (Nat.le_of_ble_eq_true rfl)
theorem g68_82 {L : sl_L} {x : Int32} : sl_Go xs N 68 82 L (.inl x :: st) σ Q ↔ (¬ x = 0 → sl_Go xs N 68 88 L st σ Q) ∧ (x = 0 → sl_Go xs N 68 85 L st σ Q) := gk_zne rfl
theorem g68_85 {L : sl_L} : sl_Go xs N 68 85 L st σ Q ↔ sl_Go xs N 68 87 L (.inl (-2) :: st) σ Q := gk_const rfl
theorem g68_87 {L : sl_L} {x : Int32} : sl_Go xs N 68 87 L [.inl x] σ Q ↔ Q (some (.inl x)) σ := gk_iret rfl
theorem g68_88 {x : sl_R} {a1 a2 a3 a4 a5 : Option sl_V} : sl_Go xs N 68 88 [some (.inr (.inr x)), a1, a2, a3, a4, a5] st σ Q ↔ sl_Go xs N 68 89 [some (.inr (.inr x)), a1, a2, a3, a4, a5] (.inr (.inr x) :: st) σ Q := gk_aload rfl rfl
theorem g68_89 {x : sl_R} {a1 a2 a3 a4 a5 : Option sl_V} : sl_Go xs N 68 89 [some (.inr (.inr x)), a1, a2, a3, a4, a5] st σ Q ↔ sl_Go xs N 68 90 [some (.inr (.inr x)), a1, a2, a3, a4, a5] (.inr (.inr x) :: st) σ Q := gk_aload rfl rfl
theorem g68_90 {L : sl_L} {i t : Nat} : sl_Go xs N 68 90 L (.inr (.inr (0, i, t)) :: st) σ Q ↔ sl_Go xs N 68 93 L (.inr (.inr (11, 0, 0)) :: st) σ Q := gk_get (g := .inr (11, 0, 0)) rfl rfl rfl
theorem g68_93 {L : sl_L} {i t : Nat} : sl_Go xs N 68 93 L (.inr (.inr (11, i, t)) :: st) σ Q ↔ sl_Go xs N 68 96 L (.inr (.inr (12, 0, 0)) :: st) σ Q := gk_get (g := .inr (12, 0, 0)) rfl rfl rfl
theorem g68_96 {x : Int32} {a0 a2 a3 a4 a5 : Option sl_V} : sl_Go xs N 68 96 [a0, some (.inl x), a2, a3, a4, a5] st σ Q ↔ sl_Go xs N 68 97 [a0, some (.inl x), a2, a3, a4, a5] (.inl x :: st) σ Q := gk_iload rfl rfl
theorem g68_97 {L : sl_L} {j : Int32} {r : sl_R} : sl_Go xs N 68 97 L (.inl j :: .inr (.inr r) :: st) σ Q ↔ (0 ≤ j.toInt ∧ j.toInt < sl_rlen r) ∧ sl_Go xs N 68 98 L (.inr (.inr (sl_rg r j.toNatClampNeg)) :: st) σ Q := gk_aald rfl
theorem g68_98 {x : sl_R} {a0 a1 a2 a3 a4 : Option sl_V} : sl_Go xs N 68 98 [a0, a1, a2, a3, a4, some (.inr (.inr x))] st σ Q ↔ sl_Go xs N 68 100 [a0, a1, a2, a3, a4, some (.inr (.inr x))] (.inr (.inr x) :: st) σ Q := gk_aload rfl rfl
theorem g68_100 {x : Int32} {a0 a1 a2 a4 a5 : Option sl_V} : sl_Go xs N 68 100 [a0, a1, a2, some (.inl x), a4, a5] st σ Q ↔ sl_Go xs N 68 101 [a0, a1, a2, some (.inl x), a4, a5] (.inl x :: st) σ Q := gk_iload rfl rfl
theorem g68_101 {x : Int32} {a0 a1 a2 a3 a5 : Option sl_V} : sl_Go xs N 68 101 [a0, a1, a2, a3, some (.inl x), a5] st σ Q ↔ sl_Go xs N 68 103 [a0, a1, a2, a3, some (.inl x), a5] (.inl x :: st) σ Q := gk_iload rfl rfl
theorem g68_103 {L : sl_L} {x0 : sl_R} {x1 : sl_R} {x2 : Int32} {x3 : Int32} {i t : Nat} : sl_Go xs N 68 103 L (.inl x3 :: .inl x2 :: .inr (.inr x1) :: .inr (.inr x0) :: .inr (.inr (0, i, t)) :: st) σ Q ↔ sl_cw st ≤ 8 ∧ sl_Go xs N 87 0 [some (.inr (.inr (0, i, t))), some (.inr (.inr x0)), some (.inr (.inr x1)), some (.inl x2), some (.inl x3), none, none, none, none] [] σ (fun r τ => sl_Go xs N 68 106 L (r.toList ++ st) τ Q) := gk_call rfl (Nat.le_add_left 5 st.length) rfl rfl rfl rfl (Nat.le_of_ble_eq_true rfl)
theorem g68_106 {L : sl_L} {x : Int32} : sl_Go xs N 68 106 L [.inl x] σ Q ↔ Q (some (.inl x)) σ := gk_iret rfl
theorem g69_0 {x : sl_R} : sl_Go xs N 69 0 [some (.inr (.inr x))] st σ Q ↔ sl_Go xs N 69 1 [some (.inr (.inr x))] (.inr (.inr x) :: st) σ Q := gk_aload rfl rfl
theorem g69_1 {L : sl_L} {i t : Nat} : sl_Go xs N 69 1 L (.inr (.inr (0, i, t)) :: st) σ Q ↔ sl_Go xs N 69 4 L (.inl (σ 7 0 2) :: st) σ Q := gk_get (g := .inl (7, 0, 2)) rfl rfl rfl
theorem g69_4 {L : sl_L} {x : Int32} : sl_Go xs N 69 4 L [.inl x] σ Q ↔ Q (some (.inl x)) σ := gk_iret rfl
theorem g70_0 {x : Int32} {a0 a2 : Option sl_V} : sl_Go xs N 70 0 [a0, some (.inl x), a2] st σ Q ↔ sl_Go xs N 70 1 [a0, some (.inl x), a2] (.inl x :: st) σ Q := gk_iload rfl rfl
theorem g70_1 {L : sl_L} : sl_Go xs N 70 1 L st σ Q ↔ sl_Go xs N 70 2 L (.inl (-1) :: st) σ Q := gk_const rfl
theorem g70_2 {x : sl_R} {a1 a2 : Option sl_V} : sl_Go xs N 70 2 [some (.inr (.inr x)), a1, a2] st σ Q ↔ sl_Go xs N 70 3 [some (.inr (.inr x)), a1, a2] (.inr (.inr x) :: st) σ Q := gk_aload rfl rfl
theorem g70_3 {L : sl_L} {i t : Nat} : sl_Go xs N 70 3 L (.inr (.inr (0, i, t)) :: st) σ Q ↔ sl_Go xs N 70 6 L (.inr (.inr (11, 0, 0)) :: st) σ Q := gk_get (g := .inr (11, 0, 0)) rfl rfl rfl
theorem g70_6 {L : sl_L} {i t : Nat} : sl_Go xs N 70 6 L (.inr (.inr (11, i, t)) :: st) σ Q ↔ sl_Go xs N 70 9 L (.inl (σ 5 0 0) :: st) σ Q := gk_get (g := .inl (5, 0, 0)) rfl rfl rfl
theorem g70_9 {L : sl_L} : sl_Go xs N 70 9 L st σ Q ↔ sl_Go xs N 70 10 L (.inl 1 :: st) σ Q := gk_const rfl
theorem g70_10 {L : sl_L} {x y : Int32} : sl_Go xs N 70 10 L (.inl y :: .inl x :: st) σ Q ↔ sl_Go xs N 70 11 L (.inl (x - y) :: st) σ Q := gk_bin (b := 9) rfl
theorem g70_11 {L : sl_L} {x0 : Int32} {x1 : Int32} {x2 : Int32} : sl_Go xs N 70 11 L (.inl x2 :: .inl x1 :: .inl x0 :: st) σ Q ↔ sl_cw st ≤ 8 ∧ sl_Go xs N 81 0 [some (.inl x0), some (.inl x1), some (.inl x2)] [] σ (fun r τ => sl_Go xs N 70 14 L (r.toList ++ st) τ Q) := gk_call rfl (Nat.le_add_left 3 st.length) rfl rfl rfl rfl (Nat.le_of_ble_eq_true rfl)
theorem g70_14 {L : sl_L} {x : Int32} : sl_Go xs N 70 14 L (.inl x :: st) σ Q ↔ (¬ x = 0 → sl_Go xs N 70 19 L st σ Q) ∧ (x = 0 → sl_Go xs N 70 17 L st σ Q) := gk_zne rfl
theorem g70_17 {L : sl_L} : sl_Go xs N 70 17 L st σ Q ↔ sl_Go xs N 70 18 L (.inl (-1) :: st) σ Q := gk_const rfl
theorem g70_18 {L : sl_L} {x : Int32} : sl_Go xs N 70 18 L [.inl x] σ Q ↔ Q (some (.inl x)) σ := gk_iret rfl
theorem g70_19 {L : sl_L} : sl_Go xs N 70 19 L st σ Q ↔ sl_Go xs N 70 20 L (.inl 0 :: st) σ Q := gk_const rfl
theorem g70_20n {x : Int32} {a0 a2 : Option sl_V} : sl_Go xs N 70 20 [a0, none, a2] (.inl x :: st) σ Q ↔ sl_Go xs N 70 21 [a0, none, some (.inl x)] st σ Q := gk_istore rfl ⟨Nat.le_of_ble_eq_true rfl, rfl⟩ rfl
theorem g70_20i {x : Int32} {z : Int32} {a0 a2 : Option sl_V} : sl_Go xs N 70 20 [a0, some (.inl z), a2] (.inl x :: st) σ Q ↔ sl_Go xs N 70 21 [a0, some (.inl z), some (.inl x)] st σ Q := gk_istore rfl ⟨Nat.le_of_ble_eq_true rfl, rfl⟩ rfl
theorem g70_20r {x : Int32} {z : sl_R} {a0 a2 : Option sl_V} : sl_Go xs N 70 20 [a0, some (.inr (.inr z)), a2] (.inl x :: st) σ Q ↔ sl_Go xs N 70 21 [a0, some (.inr (.inr z)), some (.inl x)] st σ Q := gk_istore rfl ⟨Nat.le_of_ble_eq_true rfl, rfl⟩ rfl
theorem g70_21 {x : Int32} {a0 a1 : Option sl_V} : sl_Go xs N 70 21 [a0, a1, some (.inl x)] st σ Q ↔ sl_Go xs N 70 22 [a0, a1, some (.inl x)] (.inl x :: st) σ Q := gk_iload rfl rfl
theorem g70_22 {x : sl_R} {a1 a2 : Option sl_V} : sl_Go xs N 70 22 [some (.inr (.inr x)), a1, a2] st σ Q ↔ sl_Go xs N 70 23 [some (.inr (.inr x)), a1, a2] (.inr (.inr x) :: st) σ Q := gk_aload rfl rfl
theorem g70_23 {L : sl_L} {i t : Nat} : sl_Go xs N 70 23 L (.inr (.inr (0, i, t)) :: st) σ Q ↔ sl_Go xs N 70 26 L (.inr (.inr (11, 0, 0)) :: st) σ Q := gk_get (g := .inr (11, 0, 0)) rfl rfl rfl
theorem g70_26 {L : sl_L} {i t : Nat} : sl_Go xs N 70 26 L (.inr (.inr (11, i, t)) :: st) σ Q ↔ sl_Go xs N 70 29 L (.inl (σ 5 0 0) :: st) σ Q := gk_get (g := .inl (5, 0, 0)) rfl rfl rfl
theorem g70_29 {L : sl_L} {x y : Int32} : sl_Go xs N 70 29 L (.inl y :: .inl x :: st) σ Q ↔ (y ≤ x → sl_Go xs N 70 68 L st σ Q) ∧ (¬ y ≤ x → sl_Go xs N 70 32 L st σ Q) := gk_ige rfl
theorem g70_32 {x : sl_R} {a1 a2 : Option sl_V} : sl_Go xs N 70 32 [some (.inr (.inr x)), a1, a2] st σ Q ↔ sl_Go xs N 70 33 [some (.inr (.inr x)), a1, a2] (.inr (.inr x) :: st) σ Q := gk_aload rfl rfl
theorem g70_33 {L : sl_L} {i t : Nat} : sl_Go xs N 70 33 L (.inr (.inr (0, i, t)) :: st) σ Q ↔ sl_Go xs N 70 36 L (.inr (.inr (22, 0, 0)) :: st) σ Q := gk_get (g := .inr (22, 0, 0)) rfl rfl rfl
theorem g70_36 {L : sl_L} {i t : Nat} : sl_Go xs N 70 36 L (.inr (.inr (22, i, t)) :: st) σ Q ↔ sl_Go xs N 70 39 L (.inr (.inr (23, 0, 0)) :: st) σ Q := gk_get (g := .inr (23, 0, 0)) rfl rfl rfl
theorem g70_39 {x : Int32} {a0 a1 : Option sl_V} : sl_Go xs N 70 39 [a0, a1, some (.inl x)] st σ Q ↔ sl_Go xs N 70 40 [a0, a1, some (.inl x)] (.inl x :: st) σ Q := gk_iload rfl rfl
theorem g70_40 {x : sl_R} {a1 a2 : Option sl_V} : sl_Go xs N 70 40 [some (.inr (.inr x)), a1, a2] st σ Q ↔ sl_Go xs N 70 41 [some (.inr (.inr x)), a1, a2] (.inr (.inr x) :: st) σ Q := gk_aload rfl rfl
theorem g70_41 {L : sl_L} {i t : Nat} : sl_Go xs N 70 41 L (.inr (.inr (0, i, t)) :: st) σ Q ↔ sl_Go xs N 70 44 L (.inr (.inr (1, 1, 0)) :: st) σ Q := gk_get (g := .inr (1, 1, 0)) rfl rfl rfl
theorem g70_44 {x : Int32} {a0 a1 : Option sl_V} : sl_Go xs N 70 44 [a0, a1, some (.inl x)] st σ Q ↔ sl_Go xs N 70 45 [a0, a1, some (.inl x)] (.inl x :: st) σ Q := gk_iload rfl rfl
theorem g70_45 {L : sl_L} {x0 : Int32} {i t : Nat} : sl_Go xs N 70 45 L (.inl x0 :: .inr (.inr (1, i, t)) :: st) σ Q ↔ sl_cw st ≤ 8 ∧ sl_Go xs N 11 0 [some (.inr (.inr (1, i, t))), some (.inl x0), none, none] [] σ (fun r τ => sl_Go xs N 70 48 L (r.toList ++ st) τ Q) := gk_call rfl (Nat.le_add_left 2 st.length) rfl rfl rfl rfl (Nat.le_of_ble_eq_true rfl)
theorem g70_48 {x : sl_R} {a1 a2 : Option sl_V} : sl_Go xs N 70 48 [some (.inr (.inr x)), a1, a2] st σ Q ↔ sl_Go xs N 70 49 [some (.inr (.inr x)), a1, a2] (.inr (.inr x) :: st) σ Q := gk_aload rfl rfl
theorem g70_49 {L : sl_L} {i t : Nat} : sl_Go xs N 70 49 L (.inr (.inr (0, i, t)) :: st) σ Q ↔ sl_Go xs N 70 52 L (.inr (.inr (11, 0, 0)) :: st) σ Q := gk_get (g := .inr (11, 0, 0)) rfl rfl rfl
theorem g70_52 {L : sl_L} {i t : Nat} : sl_Go xs N 70 52 L (.inr (.inr (11, i, t)) :: st) σ Q ↔ sl_Go xs N 70 55 L (.inr (.inr (12, 0, 0)) :: st) σ Q := gk_get (g := .inr (12, 0, 0)) rfl rfl rfl
theorem g70_55 {x : Int32} {a0 a1 : Option sl_V} : sl_Go xs N 70 55 [a0, a1, some (.inl x)] st σ Q ↔ sl_Go xs N 70 56 [a0, a1, some (.inl x)] (.inl x :: st) σ Q := gk_iload rfl rfl
theorem g70_56 {L : sl_L} {j : Int32} {r : sl_R} : sl_Go xs N 70 56 L (.inl j :: .inr (.inr r) :: st) σ Q ↔ (0 ≤ j.toInt ∧ j.toInt < sl_rlen r) ∧ sl_Go xs N 70 57 L (.inr (.inr (sl_rg r j.toNatClampNeg)) :: st) σ Q := gk_aald rfl
theorem g70_57 {L : sl_L} {i t : Nat} : sl_Go xs N 70 57 L (.inr (.inr (13, i, t)) :: st) σ Q ↔ sl_Go xs N 70 60 L (.inl (σ 5 4 t) :: st) σ Q := gk_get (g := .inl (5, 4, t)) rfl rfl rfl
theorem g70_60 {L : sl_L} {x y : Int32} : sl_Go xs N 70 60 L (.inl y :: .inl x :: st) σ Q ↔ sl_Go xs N 70 61 L (.inl (x * y) :: st) σ Q := gk_bin (b := 10) rfl
theorem g70_61 {L : sl_L} {j x : Int32} {r : sl_R} : sl_Go xs N 70 61 L (.inl x :: .inl j :: .inr (.inr r) :: st) σ Q ↔ (0 ≤ j.toInt ∧ j.toInt < sl_wlen r 0) ∧ sl_Go xs N 70 62 L st (sl_wr σ r j.toNatClampNeg x) Q := gk_iast rfl
theorem g70_62n {x : Int32} {a0 : Option sl_V} : sl_Go xs N 70 62 [a0, none, some (.inl x)] st σ Q ↔ sl_Go xs N 70 65 [a0, none, some (.inl (x + 1))] st σ Q := gk_iinc rfl rfl rfl rfl
theorem g70_62i {x : Int32} {z : Int32} {a0 : Option sl_V} : sl_Go xs N 70 62 [a0, some (.inl z), some (.inl x)] st σ Q ↔ sl_Go xs N 70 65 [a0, some (.inl z), some (.inl (x + 1))] st σ Q := gk_iinc rfl rfl rfl rfl
theorem g70_62r {x : Int32} {z : sl_R} {a0 : Option sl_V} : sl_Go xs N 70 62 [a0, some (.inr (.inr z)), some (.inl x)] st σ Q ↔ sl_Go xs N 70 65 [a0, some (.inr (.inr z)), some (.inl (x + 1))] st σ Q := gk_iinc rfl rfl rfl rfl
theorem g70_65 {L : sl_L} : sl_Go xs N 70 65 L st σ Q ↔ sl_Go xs N 70 21 L st σ Q := gk_goto rfl
theorem g70_68 {x : sl_R} {a1 a2 : Option sl_V} : sl_Go xs N 70 68 [some (.inr (.inr x)), a1, a2] st σ Q ↔ sl_Go xs N 70 69 [some (.inr (.inr x)), a1, a2] (.inr (.inr x) :: st) σ Q := gk_aload rfl rfl
theorem g70_69 {L : sl_L} {i t : Nat} : sl_Go xs N 70 69 L (.inr (.inr (0, i, t)) :: st) σ Q ↔ sl_Go xs N 70 72 L (.inr (.inr (22, 0, 0)) :: st) σ Q := gk_get (g := .inr (22, 0, 0)) rfl rfl rfl
theorem g70_72 {x : sl_R} {a1 a2 : Option sl_V} : sl_Go xs N 70 72 [some (.inr (.inr x)), a1, a2] st σ Q ↔ sl_Go xs N 70 73 [some (.inr (.inr x)), a1, a2] (.inr (.inr x) :: st) σ Q := gk_aload rfl rfl
theorem g70_73 {L : sl_L} {i t : Nat} : sl_Go xs N 70 73 L (.inr (.inr (0, i, t)) :: st) σ Q ↔ sl_Go xs N 70 76 L (.inr (.inr (11, 0, 0)) :: st) σ Q := gk_get (g := .inr (11, 0, 0)) rfl rfl rfl
theorem g70_76 {L : sl_L} {i t : Nat} : sl_Go xs N 70 76 L (.inr (.inr (11, i, t)) :: st) σ Q ↔ sl_Go xs N 70 79 L (.inl (σ 5 0 0) :: st) σ Q := gk_get (g := .inl (5, 0, 0)) rfl rfl rfl
theorem g70_79 {L : sl_L} {x0 : Int32} {i t : Nat} : sl_Go xs N 70 79 L (.inl x0 :: .inr (.inr (22, i, t)) :: st) σ Q ↔ sl_cw st ≤ 8 ∧ sl_Go xs N 0 0 [some (.inr (.inr (22, i, t))), some (.inl x0), none, none, none] [] σ (fun r τ => sl_Go xs N 70 82 L (r.toList ++ st) τ Q) := gk_call rfl (Nat.le_add_left 2 st.length) rfl rfl rfl rfl (Nat.le_of_ble_eq_true rfl)
theorem g70_82n {x : Int32} {a0 a2 : Option sl_V} : sl_Go xs N 70 82 [a0, none, a2] (.inl x :: st) σ Q ↔ sl_Go xs N 70 83 [a0, none, some (.inl x)] st σ Q := gk_istore rfl ⟨Nat.le_of_ble_eq_true rfl, rfl⟩ rfl
theorem g70_82i {x : Int32} {z : Int32} {a0 a2 : Option sl_V} : sl_Go xs N 70 82 [a0, some (.inl z), a2] (.inl x :: st) σ Q ↔ sl_Go xs N 70 83 [a0, some (.inl z), some (.inl x)] st σ Q := gk_istore rfl ⟨Nat.le_of_ble_eq_true rfl, rfl⟩ rfl
theorem g70_82r {x : Int32} {z : sl_R} {a0 a2 : Option sl_V} : sl_Go xs N 70 82 [a0, some (.inr (.inr z)), a2] (.inl x :: st) σ Q ↔ sl_Go xs N 70 83 [a0, some (.inr (.inr z)), some (.inl x)] st σ Q := gk_istore rfl ⟨Nat.le_of_ble_eq_true rfl, rfl⟩ rfl
theorem g70_83 {x : Int32} {a0 a2 : Option sl_V} : sl_Go xs N 70 83 [a0, some (.inl x), a2] st σ Q ↔ sl_Go xs N 70 84 [a0, some (.inl x), a2] (.inl x :: st) σ Q := gk_iload rfl rfl
theorem g70_84 {L : sl_L} {x : Int32} : sl_Go xs N 70 84 L (.inl x :: st) σ Q ↔ (0 ≤ x → sl_Go xs N 70 91 L st σ Q) ∧ (¬ 0 ≤ x → sl_Go xs N 70 87 L st σ Q) := gk_zge rfl
theorem g70_87 {x : Int32} {a0 a1 : Option sl_V} : sl_Go xs N 70 87 [a0, a1, some (.inl x)] st σ Q ↔ sl_Go xs N 70 88 [a0, a1, some (.inl x)] (.inl x :: st) σ Q := gk_iload rfl rfl
theorem g70_88 {L : sl_L} : sl_Go xs N 70 88 L st σ Q ↔ sl_Go xs N 70 100 L st σ Q := gk_goto rfl
theorem g70_91 {x : sl_R} {a1 a2 : Option sl_V} : sl_Go xs N 70 91 [some (.inr (.inr x)), a1, a2] st σ Q ↔ sl_Go xs N 70 92 [some (.inr (.inr x)), a1, a2] (.inr (.inr x) :: st) σ Q := gk_aload rfl rfl
theorem g70_92 {L : sl_L} {i t : Nat} : sl_Go xs N 70 92 L (.inr (.inr (0, i, t)) :: st) σ Q ↔ sl_Go xs N 70 95 L (.inr (.inr (22, 0, 0)) :: st) σ Q := gk_get (g := .inr (22, 0, 0)) rfl rfl rfl
theorem g70_95 {L : sl_L} {i t : Nat} : sl_Go xs N 70 95 L (.inr (.inr (22, i, t)) :: st) σ Q ↔ sl_Go xs N 70 98 L (.inr (.inr (24, 0, 0)) :: st) σ Q := gk_get (g := .inr (24, 0, 0)) rfl rfl rfl
theorem g70_98 {x : Int32} {a0 a2 : Option sl_V} : sl_Go xs N 70 98 [a0, some (.inl x), a2] st σ Q ↔ sl_Go xs N 70 99 [a0, some (.inl x), a2] (.inl x :: st) σ Q := gk_iload rfl rfl
theorem g70_99 {L : sl_L} {j : Int32} {r : sl_R} : sl_Go xs N 70 99 L (.inl j :: .inr (.inr r) :: st) σ Q ↔ (0 ≤ j.toInt ∧ j.toInt < sl_ilen N r) ∧ sl_Go xs N 70 100 L (.inl (sl_rd xs σ r j.toNatClampNeg) :: st) σ Q := gk_iald rfl
theorem g70_100 {L : sl_L} {x : Int32} : sl_Go xs N 70 100 L [.inl x] σ Q ↔ Q (some (.inl x)) σ := gk_iret rfl
theorem g71_0 {x : sl_R} {a1 a2 a3 a4 a5 : Option sl_V} : sl_Go xs N 71 0 [some (.inr (.inr x)), a1, a2, a3, a4, a5] st σ Q ↔ sl_Go xs N 71 1 [some (.inr (.inr x)), a1, a2, a3, a4, a5] (.inr (.inr x) :: st) σ Q := gk_aload rfl rfl
theorem g71_1 {L : sl_L} {i t : Nat} : sl_Go xs N 71 1 L (.inr (.inr (0, i, t)) :: st) σ Q ↔ sl_Go xs N 71 4 L (.inr (.inr (11, 0, 0)) :: st) σ Q := gk_get (g := .inr (11, 0, 0)) rfl rfl rfl
theorem g71_4 {x : Int32} {a0 a2 a3 a4 a5 : Option sl_V} : sl_Go xs N 71 4 [a0, some (.inl x), a2, a3, a4, a5] st σ Q ↔ sl_Go xs N 71 5 [a0, some (.inl x), a2, a3, a4, a5] (.inl x :: st) σ Q := gk_iload rfl rfl
theorem g71_5 {L : sl_L} {x0 : Int32} {i t : Nat} : sl_Go xs N 71 5 L (.inl x0 :: .inr (.inr (11, i, t)) :: st) σ Q ↔ sl_cw st ≤ 8 ∧ sl_Go xs N 23 0 [some (.inr (.inr (11, i, t))), some (.inl x0)] [] σ (fun r τ => sl_Go xs N 71 8 L (r.toList ++ st) τ Q) := gk_call rfl (Nat.le_add_left 2 st.length) rfl rfl rfl rfl (Nat.le_of_ble_eq_true rfl)
theorem g71_8 {L : sl_L} {x : Int32} : sl_Go xs N 71 8 L (.inl x :: st) σ Q ↔ (x = 0 → sl_Go xs N 71 27 L st σ Q) ∧ (¬ x = 0 → sl_Go xs N 71 11 L st σ Q) := gk_zeq rfl
theorem g71_11 {x : sl_R} {a1 a2 a3 a4 a5 : Option sl_V} : sl_Go xs N 71 11 [some (.inr (.inr x)), a1, a2, a3, a4, a5] st σ Q ↔ sl_Go xs N 71 12 [some (.inr (.inr x)), a1, a2, a3, a4, a5] (.inr (.inr x) :: st) σ Q := gk_aload rfl rfl
theorem g71_12 {x : Int32} {a0 a1 a2 a4 a5 : Option sl_V} : sl_Go xs N 71 12 [a0, a1, a2, some (.inl x), a4, a5] st σ Q ↔ sl_Go xs N 71 13 [a0, a1, a2, some (.inl x), a4, a5] (.inl x :: st) σ Q := gk_iload rfl rfl
theorem g71_13 {L : sl_L} {x0 : Int32} {i t : Nat} : sl_Go xs N 71 13 L (.inl x0 :: .inr (.inr (0, i, t)) :: st) σ Q ↔ sl_cw st ≤ 8 ∧ sl_Go xs N 84 0 [some (.inr (.inr (0, i, t))), some (.inl x0)] [] σ (fun r τ => sl_Go xs N 71 16 L (r.toList ++ st) τ Q) := gk_call rfl (Nat.le_add_left 2 st.length) rfl rfl rfl rfl (Nat.le_of_ble_eq_true rfl)
theorem g71_16 {L : sl_L} {x : Int32} : sl_Go xs N 71 16 L (.inl x :: st) σ Q ↔ (x = 0 → sl_Go xs N 71 27 L st σ Q) ∧ (¬ x = 0 → sl_Go xs N 71 19 L st σ Q) := gk_zeq rfl
theorem g71_19 {x : Int32} {a0 a1 a2 a3 a5 : Option sl_V} : sl_Go xs N 71 19 [a0, a1, a2, a3, some (.inl x), a5] st σ Q ↔ sl_Go xs N 71 21 [a0, a1, a2, a3, some (.inl x), a5] (.inl x :: st) σ Q := gk_iload rfl rfl
theorem g71_21 {L : sl_L} {x0 : Int32} : sl_Go xs N 71 21 L (.inl x0 :: st) σ Q ↔ sl_cw st ≤ 8 ∧ sl_Go xs N 83 0 [some (.inl x0)] [] σ (fun r τ => sl_Go xs N 71 24 L (r.toList ++ st) τ Q) := gk_call rfl (Nat.le_add_left 1 st.length) rfl rfl rfl rfl (Nat.le_of_ble_eq_true rfl)
theorem g71_24 {L : sl_L} {x : Int32} : sl_Go xs N 71 24 L (.inl x :: st) σ Q ↔ (¬ x = 0 → sl_Go xs N 71 29 L st σ Q) ∧ (x = 0 → sl_Go xs N 71 27 L st σ Q) := gk_zne rfl
theorem g71_27 {L : sl_L} : sl_Go xs N 71 27 L st σ Q ↔ sl_Go xs N 71 28 L (.inl (-1) :: st) σ Q := gk_const rfl
theorem g71_28 {L : sl_L} {x : Int32} : sl_Go xs N 71 28 L [.inl x] σ Q ↔ Q (some (.inl x)) σ := gk_iret rfl
theorem g71_29 {x : sl_R} {a1 a2 a3 a4 a5 : Option sl_V} : sl_Go xs N 71 29 [some (.inr (.inr x)), a1, a2, a3, a4, a5] st σ Q ↔ sl_Go xs N 71 30 [some (.inr (.inr x)), a1, a2, a3, a4, a5] (.inr (.inr x) :: st) σ Q := gk_aload rfl rfl
theorem g71_30 {L : sl_L} {i t : Nat} : sl_Go xs N 71 30 L (.inr (.inr (0, i, t)) :: st) σ Q ↔ sl_Go xs N 71 33 L (.inr (.inr (11, 0, 0)) :: st) σ Q := gk_get (g := .inr (11, 0, 0)) rfl rfl rfl
theorem g71_33 {L : sl_L} {i t : Nat} : sl_Go xs N 71 33 L (.inr (.inr (11, i, t)) :: st) σ Q ↔ sl_Go xs N 71 36 L (.inr (.inr (12, 0, 0)) :: st) σ Q := gk_get (g := .inr (12, 0, 0)) rfl rfl rfl
theorem g71_36 {x : Int32} {a0 a2 a3 a4 a5 : Option sl_V} : sl_Go xs N 71 36 [a0, some (.inl x), a2, a3, a4, a5] st σ Q ↔ sl_Go xs N 71 37 [a0, some (.inl x), a2, a3, a4, a5] (.inl x :: st) σ Q := gk_iload rfl rfl
theorem g71_37 {L : sl_L} {j : Int32} {r : sl_R} : sl_Go xs N 71 37 L (.inl j :: .inr (.inr r) :: st) σ Q ↔ (0 ≤ j.toInt ∧ j.toInt < sl_rlen r) ∧ sl_Go xs N 71 38 L (.inr (.inr (sl_rg r j.toNatClampNeg)) :: st) σ Q := gk_aald rfl
theorem g71_38 {x : Int32} {a0 a1 a3 a4 a5 : Option sl_V} : sl_Go xs N 71 38 [a0, a1, some (.inl x), a3, a4, a5] st σ Q ↔ sl_Go xs N 71 39 [a0, a1, some (.inl x), a3, a4, a5] (.inl x :: st) σ Q := gk_iload rfl rfl
theorem g71_39 {L : sl_L} {x0 : Int32} {i t : Nat} : sl_Go xs N 71 39 L (.inl x0 :: .inr (.inr (13, i, t)) :: st) σ Q ↔ sl_cw st ≤ 8 ∧ sl_Go xs N 33 0 [some (.inr (.inr (13, i, t))), some (.inl x0)] [] σ (fun r τ => sl_Go xs N 71 42 L (r.toList ++ st) τ Q) := gk_call rfl (Nat.le_add_left 2 st.length) rfl rfl rfl rfl (Nat.le_of_ble_eq_true rfl)
theorem g71_42 {L : sl_L} {x : Int32} : sl_Go xs N 71 42 L (.inl x :: st) σ Q ↔ (¬ x = 0 → sl_Go xs N 71 48 L st σ Q) ∧ (x = 0 → sl_Go xs N 71 45 L st σ Q) := gk_zne rfl
theorem g71_45 {L : sl_L} : sl_Go xs N 71 45 L st σ Q ↔ sl_Go xs N 71 47 L (.inl (-2) :: st) σ Q := gk_const rfl
theorem g71_47 {L : sl_L} {x : Int32} : sl_Go xs N 71 47 L [.inl x] σ Q ↔ Q (some (.inl x)) σ := gk_iret rfl
theorem g71_48 {x : sl_R} {a1 a2 a3 a4 a5 : Option sl_V} : sl_Go xs N 71 48 [some (.inr (.inr x)), a1, a2, a3, a4, a5] st σ Q ↔ sl_Go xs N 71 49 [some (.inr (.inr x)), a1, a2, a3, a4, a5] (.inr (.inr x) :: st) σ Q := gk_aload rfl rfl
theorem g71_49 {L : sl_L} {i t : Nat} : sl_Go xs N 71 49 L (.inr (.inr (0, i, t)) :: st) σ Q ↔ sl_Go xs N 71 52 L (.inr (.inr (29, 0, 0)) :: st) σ Q := gk_get (g := .inr (29, 0, 0)) rfl rfl rfl
theorem g71_52 {x : Int32} {a0 a1 a2 a3 a5 : Option sl_V} : sl_Go xs N 71 52 [a0, a1, a2, a3, some (.inl x), a5] st σ Q ↔ sl_Go xs N 71 54 [a0, a1, a2, a3, some (.inl x), a5] (.inl x :: st) σ Q := gk_iload rfl rfl
theorem g71_54 {L : sl_L} {j : Int32} {r : sl_R} : sl_Go xs N 71 54 L (.inl j :: .inr (.inr r) :: st) σ Q ↔ (0 ≤ j.toInt ∧ j.toInt < sl_rlen r) ∧ sl_Go xs N 71 55 L (.inr (.inr (sl_rg r j.toNatClampNeg)) :: st) σ Q := gk_aald rfl
theorem g71_55n {x : sl_R} {a0 a1 a2 a3 a5 : Option sl_V} : sl_Go xs N 71 55 [a0, a1, a2, a3, none, a5] (.inr (.inr x) :: st) σ Q ↔ sl_Go xs N 71 57 [a0, a1, a2, a3, none, some (.inr (.inr x))] st σ Q := gk_astore rfl ⟨Nat.le_of_ble_eq_true rfl, rfl⟩ rfl
theorem g71_55i {x : sl_R} {z : Int32} {a0 a1 a2 a3 a5 : Option sl_V} : sl_Go xs N 71 55 [a0, a1, a2, a3, some (.inl z), a5] (.inr (.inr x) :: st) σ Q ↔ sl_Go xs N 71 57 [a0, a1, a2, a3, some (.inl z), some (.inr (.inr x))] st σ Q := gk_astore rfl ⟨Nat.le_of_ble_eq_true rfl, rfl⟩ rfl
theorem g71_55r {x : sl_R} {z : sl_R} {a0 a1 a2 a3 a5 : Option sl_V} : sl_Go xs N 71 55 [a0, a1, a2, a3, some (.inr (.inr z)), a5] (.inr (.inr x) :: st) σ Q ↔ sl_Go xs N 71 57 [a0, a1, a2, a3, some (.inr (.inr z)), some (.inr (.inr x))] st σ Q := gk_astore rfl ⟨Nat.le_of_ble_eq_true rfl, rfl⟩ rfl
theorem g71_57 {x : sl_R} {a0 a1 a2 a3 a4 : Option sl_V} : sl_Go xs N 71 57 [a0, a1, a2, a3, a4, some (.inr (.inr x))] st σ Q ↔ sl_Go xs N 71 59 [a0, a1, a2, a3, a4, some (.inr (.inr x))] (.inr (.inr x) :: st) σ Q := gk_aload rfl rfl
theorem g71_59 {L : sl_L} {i t : Nat} : sl_Go xs N 71 59 L (.inr (.inr (30, i, t)) :: st) σ Q ↔ sl_cw st ≤ 8 ∧ sl_Go xs N 28 0 [some (.inr (.inr (30, i, t)))] [] σ (fun r τ => sl_Go xs N 71 62 L (r.toList ++ st) τ Q) := gk_call rfl (Nat.le_add_left 1 st.length) rfl rfl rfl rfl (Nat.le_of_ble_eq_true rfl)
theorem g71_62 {L : sl_L} {x : Int32} : sl_Go xs N 71 62 L (.inl x :: st) σ Q ↔ (x = 0 → sl_Go xs N 71 68 L st σ Q) ∧ (¬ x = 0 → sl_Go xs N 71 65 L st σ Q) := gk_zeq rfl
theorem g71_65 {L : sl_L} : sl_Go xs N 71 65 L st σ Q ↔ sl_Go xs N 71 67 L (.inl (-11) :: st) σ Q := gk_const rfl
theorem g71_67 {L : sl_L} {x : Int32} : sl_Go xs N 71 67 L [.inl x] σ Q ↔ Q (some (.inl x)) σ := gk_iret rfl
theorem g71_68 {x : sl_R} {a0 a1 a2 a3 a4 : Option sl_V} : sl_Go xs N 71 68 [a0, a1, a2, a3, a4, some (.inr (.inr x))] st σ Q ↔ sl_Go xs N 71 70 [a0, a1, a2, a3, a4, some (.inr (.inr x))] (.inr (.inr x) :: st) σ Q := gk_aload rfl rfl
theorem g71_70 {L : sl_L} {i t : Nat} : sl_Go xs N 71 70 L (.inr (.inr (30, i, t)) :: st) σ Q ↔ sl_Go xs N 71 73 L (.inl (σ 7 12 t) :: st) σ Q := gk_get (g := .inl (7, 12, t)) rfl rfl rfl
theorem g71_73 {L : sl_L} : sl_Go xs N 71 73 L st σ Q ↔ sl_Go xs N 71 74 L (.inl 1 :: st) σ Q := gk_const rfl
theorem g71_74 {L : sl_L} : sl_Go xs N 71 74 L st σ Q ↔ sl_Go xs N 71 76 L (.inl 24 :: st) σ Q := gk_const rfl
theorem g71_76 {L : sl_L} {x0 : Int32} {x1 : Int32} {x2 : Int32} : sl_Go xs N 71 76 L (.inl x2 :: .inl x1 :: .inl x0 :: st) σ Q ↔ sl_cw st ≤ 8 ∧ sl_Go xs N 81 0 [some (.inl x0), some (.inl x1), some (.inl x2)] [] σ (fun r τ => sl_Go xs N 71 79 L (r.toList ++ st) τ Q) := gk_call rfl (Nat.le_add_left 3 st.length) rfl rfl rfl rfl (Nat.le_of_ble_eq_true rfl)
theorem g71_79 {L : sl_L} {x : Int32} : sl_Go xs N 71 79 L (.inl x :: st) σ Q ↔ (¬ x = 0 → sl_Go xs N 71 85 L st σ Q) ∧ (x = 0 → sl_Go xs N 71 82 L st σ Q) := gk_zne rfl
theorem g71_82 {L : sl_L} : sl_Go xs N 71 82 L st σ Q ↔ sl_Go xs N 71 84 L (.inl (-2) :: st) σ Q := gk_const rfl
theorem g71_84 {L : sl_L} {x : Int32} : sl_Go xs N 71 84 L [.inl x] σ Q ↔ Q (some (.inl x)) σ := gk_iret rfl
theorem g71_85 {x : sl_R} {a1 a2 a3 a4 a5 : Option sl_V} : sl_Go xs N 71 85 [some (.inr (.inr x)), a1, a2, a3, a4, a5] st σ Q ↔ sl_Go xs N 71 86 [some (.inr (.inr x)), a1, a2, a3, a4, a5] (.inr (.inr x) :: st) σ Q := gk_aload rfl rfl
theorem g71_86 {L : sl_L} {i t : Nat} : sl_Go xs N 71 86 L (.inr (.inr (0, i, t)) :: st) σ Q ↔ sl_Go xs N 71 89 L (.inl (σ 7 0 1) :: st) σ Q := gk_get (g := .inl (7, 0, 1)) rfl rfl rfl
theorem g71_89 {L : sl_L} : sl_Go xs N 71 89 L st σ Q ↔ sl_Go xs N 71 91 L (.inl 8 :: st) σ Q := gk_const rfl
theorem g71_91 {L : sl_L} {x y : Int32} : sl_Go xs N 71 91 L (.inl y :: .inl x :: st) σ Q ↔ (¬ x = y → sl_Go xs N 71 97 L st σ Q) ∧ (x = y → sl_Go xs N 71 94 L st σ Q) := gk_ine rfl
theorem g71_94 {L : sl_L} : sl_Go xs N 71 94 L st σ Q ↔ sl_Go xs N 71 96 L (.inl (-4) :: st) σ Q := gk_const rfl
theorem g71_96 {L : sl_L} {x : Int32} : sl_Go xs N 71 96 L [.inl x] σ Q ↔ Q (some (.inl x)) σ := gk_iret rfl
theorem g71_97 {x : sl_R} {a1 a2 a3 a4 a5 : Option sl_V} : sl_Go xs N 71 97 [some (.inr (.inr x)), a1, a2, a3, a4, a5] st σ Q ↔ sl_Go xs N 71 98 [some (.inr (.inr x)), a1, a2, a3, a4, a5] (.inr (.inr x) :: st) σ Q := gk_aload rfl rfl
theorem g71_98 {L : sl_L} {i t : Nat} : sl_Go xs N 71 98 L (.inr (.inr (0, i, t)) :: st) σ Q ↔ sl_Go xs N 71 101 L (.inr (.inr (26, 0, 0)) :: st) σ Q := gk_get (g := .inr (26, 0, 0)) rfl rfl rfl
theorem g71_101 {x : sl_R} {a1 a2 a3 a4 a5 : Option sl_V} : sl_Go xs N 71 101 [some (.inr (.inr x)), a1, a2, a3, a4, a5] st σ Q ↔ sl_Go xs N 71 102 [some (.inr (.inr x)), a1, a2, a3, a4, a5] (.inr (.inr x) :: st) σ Q := gk_aload rfl rfl
theorem g71_102 {L : sl_L} {i t : Nat} : sl_Go xs N 71 102 L (.inr (.inr (0, i, t)) :: st) σ Q ↔ sl_Go xs N 71 105 L (.inl (σ 7 0 1) :: st) σ Q := gk_get (g := .inl (7, 0, 1)) rfl rfl rfl
theorem g71_105 {L : sl_L} {j : Int32} {r : sl_R} : sl_Go xs N 71 105 L (.inl j :: .inr (.inr r) :: st) σ Q ↔ (0 ≤ j.toInt ∧ j.toInt < sl_rlen r) ∧ sl_Go xs N 71 106 L (.inr (.inr (sl_rg r j.toNatClampNeg)) :: st) σ Q := gk_aald rfl
theorem g71_106 {x : Int32} {a0 a2 a3 a4 a5 : Option sl_V} : sl_Go xs N 71 106 [a0, some (.inl x), a2, a3, a4, a5] st σ Q ↔ sl_Go xs N 71 107 [a0, some (.inl x), a2, a3, a4, a5] (.inl x :: st) σ Q := gk_iload rfl rfl
theorem g71_107 {x : Int32} {a0 a1 a3 a4 a5 : Option sl_V} : sl_Go xs N 71 107 [a0, a1, some (.inl x), a3, a4, a5] st σ Q ↔ sl_Go xs N 71 108 [a0, a1, some (.inl x), a3, a4, a5] (.inl x :: st) σ Q := gk_iload rfl rfl
theorem g71_108 {x : Int32} {a0 a1 a2 a4 a5 : Option sl_V} : sl_Go xs N 71 108 [a0, a1, a2, some (.inl x), a4, a5] st σ Q ↔ sl_Go xs N 71 109 [a0, a1, a2, some (.inl x), a4, a5] (.inl x :: st) σ Q := gk_iload rfl rfl
theorem g71_109 {x : sl_R} {a0 a1 a2 a3 a4 : Option sl_V} : sl_Go xs N 71 109 [a0, a1, a2, a3, a4, some (.inr (.inr x))] st σ Q ↔ sl_Go xs N 71 111 [a0, a1, a2, a3, a4, some (.inr (.inr x))] (.inr (.inr x) :: st) σ Q := gk_aload rfl rfl
theorem g71_111 {L : sl_L} {x0 : Int32} {x1 : Int32} {x2 : Int32} {x3 : sl_R} {i t : Nat} : sl_Go xs N 71 111 L (.inr (.inr x3) :: .inl x2 :: .inl x1 :: .inl x0 :: .inr (.inr (27, i, t)) :: st) σ Q ↔ sl_cw st ≤ 8 ∧ sl_Go xs N 22 0 [some (.inr (.inr (27, i, t))), some (.inl x0), some (.inl x1), some (.inl x2), some (.inr (.inr x3))] [] σ (fun r τ => sl_Go xs N 71 114 L (r.toList ++ st) τ Q) := gk_call rfl (Nat.le_add_left 5 st.length) rfl rfl rfl rfl (Nat.le_of_ble_eq_true rfl)
theorem g71_114 {x : sl_R} {a1 a2 a3 a4 a5 : Option sl_V} : sl_Go xs N 71 114 [some (.inr (.inr x)), a1, a2, a3, a4, a5] st σ Q ↔ sl_Go xs N 71 115 [some (.inr (.inr x)), a1, a2, a3, a4, a5] (.inr (.inr x) :: st) σ Q := gk_aload rfl rfl
theorem g71_115i {L : sl_L} {x : Int32} : sl_Go xs N 71 115 L (.inl x :: st) σ Q ↔ sl_Go xs N 71 116 L (.inl x :: .inl x :: st) σ Q := gk_dupi rfl
theorem g71_115r {L : sl_L} {x : sl_R} : sl_Go xs N 71 115 L (.inr (.inr x) :: st) σ Q ↔ sl_Go xs N 71 116 L (.inr (.inr x) :: .inr (.inr x) :: st) σ Q := gk_dupr rfl
theorem g71_116 {L : sl_L} {i t : Nat} : sl_Go xs N 71 116 L (.inr (.inr (0, i, t)) :: st) σ Q ↔ sl_Go xs N 71 119 L (.inl (σ 7 0 1) :: st) σ Q := gk_get (g := .inl (7, 0, 1)) rfl rfl rfl
theorem g71_119 {L : sl_L} : sl_Go xs N 71 119 L st σ Q ↔ sl_Go xs N 71 120 L (.inl 1 :: st) σ Q := gk_const rfl
theorem g71_120 {L : sl_L} {x y : Int32} : sl_Go xs N 71 120 L (.inl y :: .inl x :: st) σ Q ↔ sl_Go xs N 71 121 L (.inl (x + y) :: st) σ Q := gk_bin (b := 8) rfl
theorem g71_121 {L : sl_L} {x : Int32} {i t : Nat} : sl_Go xs N 71 121 L (.inl x :: .inr (.inr (0, i, t)) :: st) σ Q ↔ sl_Go xs N 71 124 L st (sl_up σ 7 0 1 x) Q := gk_put0 (q := (7, 0, 1)) rfl rfl rfl
theorem g71_124 {x : sl_R} {a1 a2 a3 a4 a5 : Option sl_V} : sl_Go xs N 71 124 [some (.inr (.inr x)), a1, a2, a3, a4, a5] st σ Q ↔ sl_Go xs N 71 125 [some (.inr (.inr x)), a1, a2, a3, a4, a5] (.inr (.inr x) :: st) σ Q := gk_aload rfl rfl
theorem g71_125 {L : sl_L} {i t : Nat} : sl_Go xs N 71 125 L (.inr (.inr (0, i, t)) :: st) σ Q ↔ sl_Go xs N 71 128 L (.inl (σ 7 0 1) :: st) σ Q := gk_get (g := .inl (7, 0, 1)) rfl rfl rfl
theorem g71_128 {L : sl_L} : sl_Go xs N 71 128 L st σ Q ↔ sl_Go xs N 71 129 L (.inl 1 :: st) σ Q := gk_const rfl
theorem g71_129 {L : sl_L} {x y : Int32} : sl_Go xs N 71 129 L (.inl y :: .inl x :: st) σ Q ↔ sl_Go xs N 71 130 L (.inl (x - y) :: st) σ Q := gk_bin (b := 9) rfl
theorem g71_130 {L : sl_L} {x : Int32} : sl_Go xs N 71 130 L [.inl x] σ Q ↔ Q (some (.inl x)) σ := gk_iret rfl
theorem g72_0 {x : Int32} {a0 a2 a3 : Option sl_V} : sl_Go xs N 72 0 [a0, some (.inl x), a2, a3] st σ Q ↔ sl_Go xs N 72 1 [a0, some (.inl x), a2, a3] (.inl x :: st) σ Q := gk_iload rfl rfl
theorem g72_1 {L : sl_L} : sl_Go xs N 72 1 L st σ Q ↔ sl_Go xs N 72 2 L (.inl 0 :: st) σ Q := gk_const rfl
theorem g72_2 {x : sl_R} {a1 a2 a3 : Option sl_V} : sl_Go xs N 72 2 [some (.inr (.inr x)), a1, a2, a3] st σ Q ↔ sl_Go xs N 72 3 [some (.inr (.inr x)), a1, a2, a3] (.inr (.inr x) :: st) σ Q := gk_aload rfl rfl
theorem g72_3 {L : sl_L} {i t : Nat} : sl_Go xs N 72 3 L (.inr (.inr (0, i, t)) :: st) σ Q ↔ sl_Go xs N 72 6 L (.inl (σ 7 0 1) :: st) σ Q := gk_get (g := .inl (7, 0, 1)) rfl rfl rfl
theorem g72_6 {L : sl_L} : sl_Go xs N 72 6 L st σ Q ↔ sl_Go xs N 72 7 L (.inl 1 :: st) σ Q := gk_const rfl
theorem g72_7 {L : sl_L} {x y : Int32} : sl_Go xs N 72 7 L (.inl y :: .inl x :: st) σ Q ↔ sl_Go xs N 72 8 L (.inl (x - y) :: st) σ Q := gk_bin (b := 9) rfl
theorem g72_8 {L : sl_L} {x0 : Int32} {x1 : Int32} {x2 : Int32} : sl_Go xs N 72 8 L (.inl x2 :: .inl x1 :: .inl x0 :: st) σ Q ↔ sl_cw st ≤ 8 ∧ sl_Go xs N 81 0 [some (.inl x0), some (.inl x1), some (.inl x2)] [] σ (fun r τ => sl_Go xs N 72 11 L (r.toList ++ st) τ Q) := gk_call rfl (Nat.le_add_left 3 st.length) rfl rfl rfl rfl (Nat.le_of_ble_eq_true rfl)
theorem g72_11 {L : sl_L} {x : Int32} : sl_Go xs N 72 11 L (.inl x :: st) σ Q ↔ (¬ x = 0 → sl_Go xs N 72 16 L st σ Q) ∧ (x = 0 → sl_Go xs N 72 14 L st σ Q) := gk_zne rfl
theorem g72_14 {L : sl_L} : sl_Go xs N 72 14 L st σ Q ↔ sl_Go xs N 72 15 L (.inl (-1) :: st) σ Q := gk_const rfl
theorem g72_15 {L : sl_L} {x : Int32} : sl_Go xs N 72 15 L [.inl x] σ Q ↔ Q (some (.inl x)) σ := gk_iret rfl
theorem g72_16 {x : Int32} {a0 a1 a3 : Option sl_V} : sl_Go xs N 72 16 [a0, a1, some (.inl x), a3] st σ Q ↔ sl_Go xs N 72 17 [a0, a1, some (.inl x), a3] (.inl x :: st) σ Q := gk_iload rfl rfl
theorem g72_17 {L : sl_L} {x0 : Int32} : sl_Go xs N 72 17 L (.inl x0 :: st) σ Q ↔ sl_cw st ≤ 8 ∧ sl_Go xs N 82 0 [some (.inl x0)] [] σ (fun r τ => sl_Go xs N 72 20 L (r.toList ++ st) τ Q) := gk_call rfl (Nat.le_add_left 1 st.length) rfl rfl rfl rfl (Nat.le_of_ble_eq_true rfl)
theorem g72_20 {L : sl_L} {x : Int32} : sl_Go xs N 72 20 L (.inl x :: st) σ Q ↔ (¬ x = 0 → sl_Go xs N 72 26 L st σ Q) ∧ (x = 0 → sl_Go xs N 72 23 L st σ Q) := gk_zne rfl
theorem g72_23 {L : sl_L} : sl_Go xs N 72 23 L st σ Q ↔ sl_Go xs N 72 25 L (.inl (-2) :: st) σ Q := gk_const rfl
theorem g72_25 {L : sl_L} {x : Int32} : sl_Go xs N 72 25 L [.inl x] σ Q ↔ Q (some (.inl x)) σ := gk_iret rfl
theorem g72_26 {x : sl_R} {a1 a2 a3 : Option sl_V} : sl_Go xs N 72 26 [some (.inr (.inr x)), a1, a2, a3] st σ Q ↔ sl_Go xs N 72 27 [some (.inr (.inr x)), a1, a2, a3] (.inr (.inr x) :: st) σ Q := gk_aload rfl rfl
theorem g72_27 {L : sl_L} {i t : Nat} : sl_Go xs N 72 27 L (.inr (.inr (0, i, t)) :: st) σ Q ↔ sl_Go xs N 72 30 L (.inr (.inr (26, 0, 0)) :: st) σ Q := gk_get (g := .inr (26, 0, 0)) rfl rfl rfl
theorem g72_30 {x : Int32} {a0 a2 a3 : Option sl_V} : sl_Go xs N 72 30 [a0, some (.inl x), a2, a3] st σ Q ↔ sl_Go xs N 72 31 [a0, some (.inl x), a2, a3] (.inl x :: st) σ Q := gk_iload rfl rfl
theorem g72_31 {L : sl_L} {j : Int32} {r : sl_R} : sl_Go xs N 72 31 L (.inl j :: .inr (.inr r) :: st) σ Q ↔ (0 ≤ j.toInt ∧ j.toInt < sl_rlen r) ∧ sl_Go xs N 72 32 L (.inr (.inr (sl_rg r j.toNatClampNeg)) :: st) σ Q := gk_aald rfl
theorem g72_32 {L : sl_L} {i t : Nat} : sl_Go xs N 72 32 L (.inr (.inr (27, i, t)) :: st) σ Q ↔ sl_Go xs N 72 35 L (.inl (σ 7 9 t) :: st) σ Q := gk_get (g := .inl (7, 9, t)) rfl rfl rfl
theorem g72_35 {L : sl_L} {x : Int32} : sl_Go xs N 72 35 L (.inl x :: st) σ Q ↔ (x = 0 → sl_Go xs N 72 42 L st σ Q) ∧ (¬ x = 0 → sl_Go xs N 72 38 L st σ Q) := gk_zeq rfl
theorem g72_38 {L : sl_L} : sl_Go xs N 72 38 L st σ Q ↔ sl_Go xs N 72 39 L (.inl 1 :: st) σ Q := gk_const rfl
theorem g72_39 {L : sl_L} : sl_Go xs N 72 39 L st σ Q ↔ sl_Go xs N 72 43 L st σ Q := gk_goto rfl
theorem g72_42 {L : sl_L} : sl_Go xs N 72 42 L st σ Q ↔ sl_Go xs N 72 43 L (.inl 0 :: st) σ Q := gk_const rfl
theorem g72_43n {x : Int32} {a0 a1 a3 : Option sl_V} : sl_Go xs N 72 43 [a0, a1, none, a3] (.inl x :: st) σ Q ↔ sl_Go xs N 72 44 [a0, a1, none, some (.inl x)] st σ Q := gk_istore rfl ⟨Nat.le_of_ble_eq_true rfl, rfl⟩ rfl
theorem g72_43i {x : Int32} {z : Int32} {a0 a1 a3 : Option sl_V} : sl_Go xs N 72 43 [a0, a1, some (.inl z), a3] (.inl x :: st) σ Q ↔ sl_Go xs N 72 44 [a0, a1, some (.inl z), some (.inl x)] st σ Q := gk_istore rfl ⟨Nat.le_of_ble_eq_true rfl, rfl⟩ rfl
theorem g72_43r {x : Int32} {z : sl_R} {a0 a1 a3 : Option sl_V} : sl_Go xs N 72 43 [a0, a1, some (.inr (.inr z)), a3] (.inl x :: st) σ Q ↔ sl_Go xs N 72 44 [a0, a1, some (.inr (.inr z)), some (.inl x)] st σ Q := gk_istore rfl ⟨Nat.le_of_ble_eq_true rfl, rfl⟩ rfl
theorem g72_44 {x : sl_R} {a1 a2 a3 : Option sl_V} : sl_Go xs N 72 44 [some (.inr (.inr x)), a1, a2, a3] st σ Q ↔ sl_Go xs N 72 45 [some (.inr (.inr x)), a1, a2, a3] (.inr (.inr x) :: st) σ Q := gk_aload rfl rfl
theorem g72_45 {L : sl_L} {i t : Nat} : sl_Go xs N 72 45 L (.inr (.inr (0, i, t)) :: st) σ Q ↔ sl_Go xs N 72 48 L (.inr (.inr (26, 0, 0)) :: st) σ Q := gk_get (g := .inr (26, 0, 0)) rfl rfl rfl
theorem g72_48 {x : Int32} {a0 a2 a3 : Option sl_V} : sl_Go xs N 72 48 [a0, some (.inl x), a2, a3] st σ Q ↔ sl_Go xs N 72 49 [a0, some (.inl x), a2, a3] (.inl x :: st) σ Q := gk_iload rfl rfl
theorem g72_49 {L : sl_L} {j : Int32} {r : sl_R} : sl_Go xs N 72 49 L (.inl j :: .inr (.inr r) :: st) σ Q ↔ (0 ≤ j.toInt ∧ j.toInt < sl_rlen r) ∧ sl_Go xs N 72 50 L (.inr (.inr (sl_rg r j.toNatClampNeg)) :: st) σ Q := gk_aald rfl
theorem g72_50 {x : Int32} {a0 a1 a3 : Option sl_V} : sl_Go xs N 72 50 [a0, a1, some (.inl x), a3] st σ Q ↔ sl_Go xs N 72 51 [a0, a1, some (.inl x), a3] (.inl x :: st) σ Q := gk_iload rfl rfl
theorem g72_51 {L : sl_L} : sl_Go xs N 72 51 L st σ Q ↔ sl_Go xs N 72 52 L (.inl 1 :: st) σ Q := gk_const rfl
theorem g72_52 {L : sl_L} {x y : Int32} : sl_Go xs N 72 52 L (.inl y :: .inl x :: st) σ Q ↔ (¬ x = y → sl_Go xs N 72 59 L st σ Q) ∧ (x = y → sl_Go xs N 72 55 L st σ Q) := gk_ine rfl
theorem g72_55 {L : sl_L} : sl_Go xs N 72 55 L st σ Q ↔ sl_Go xs N 72 56 L (.inl 1 :: st) σ Q := gk_const rfl
theorem g72_56 {L : sl_L} : sl_Go xs N 72 56 L st σ Q ↔ sl_Go xs N 72 60 L st σ Q := gk_goto rfl
theorem g72_59 {L : sl_L} : sl_Go xs N 72 59 L st σ Q ↔ sl_Go xs N 72 60 L (.inl 0 :: st) σ Q := gk_const rfl
theorem g72_60 {L : sl_L} {x : Int32} {i t : Nat} : sl_Go xs N 72 60 L (.inl x :: .inr (.inr (27, i, t)) :: st) σ Q ↔ (x = 0 ∨ x = 1) ∧ sl_Go xs N 72 63 L st (sl_up σ 7 9 t x) Q := gk_put1 (q := (7, 9, t)) rfl rfl rfl
theorem g72_63 {x : Int32} {a0 a1 a2 : Option sl_V} : sl_Go xs N 72 63 [a0, a1, a2, some (.inl x)] st σ Q ↔ sl_Go xs N 72 64 [a0, a1, a2, some (.inl x)] (.inl x :: st) σ Q := gk_iload rfl rfl
theorem g72_64 {L : sl_L} {x : Int32} : sl_Go xs N 72 64 L [.inl x] σ Q ↔ Q (some (.inl x)) σ := gk_iret rfl
theorem g73_0 {x : sl_R} {a1 a2 a3 a4 a5 a6 a7 a8 a9 a10 a11 : Option sl_V} : sl_Go xs N 73 0 [some (.inr (.inr x)), a1, a2, a3, a4, a5, a6, a7, a8, a9, a10, a11] st σ Q ↔ sl_Go xs N 73 1 [some (.inr (.inr x)), a1, a2, a3, a4, a5, a6, a7, a8, a9, a10, a11] (.inr (.inr x) :: st) σ Q := gk_aload rfl rfl
theorem g73_1 {L : sl_L} {i t : Nat} : sl_Go xs N 73 1 L (.inr (.inr (0, i, t)) :: st) σ Q ↔ sl_Go xs N 73 4 L (.inr (.inr (11, 0, 0)) :: st) σ Q := gk_get (g := .inr (11, 0, 0)) rfl rfl rfl
theorem g73_4 {x : Int32} {a0 a2 a3 a4 a5 a6 a7 a8 a9 a10 a11 : Option sl_V} : sl_Go xs N 73 4 [a0, some (.inl x), a2, a3, a4, a5, a6, a7, a8, a9, a10, a11] st σ Q ↔ sl_Go xs N 73 5 [a0, some (.inl x), a2, a3, a4, a5, a6, a7, a8, a9, a10, a11] (.inl x :: st) σ Q := gk_iload rfl rfl
theorem g73_5 {L : sl_L} {x0 : Int32} {i t : Nat} : sl_Go xs N 73 5 L (.inl x0 :: .inr (.inr (11, i, t)) :: st) σ Q ↔ sl_cw st ≤ 8 ∧ sl_Go xs N 23 0 [some (.inr (.inr (11, i, t))), some (.inl x0)] [] σ (fun r τ => sl_Go xs N 73 8 L (r.toList ++ st) τ Q) := gk_call rfl (Nat.le_add_left 2 st.length) rfl rfl rfl rfl (Nat.le_of_ble_eq_true rfl)
theorem g73_8 {L : sl_L} {x : Int32} : sl_Go xs N 73 8 L (.inl x :: st) σ Q ↔ (¬ x = 0 → sl_Go xs N 73 13 L st σ Q) ∧ (x = 0 → sl_Go xs N 73 11 L st σ Q) := gk_zne rfl
theorem g73_11 {L : sl_L} : sl_Go xs N 73 11 L st σ Q ↔ sl_Go xs N 73 12 L (.inl (-1) :: st) σ Q := gk_const rfl
theorem g73_12 {L : sl_L} {x : Int32} : sl_Go xs N 73 12 L [.inl x] σ Q ↔ Q (some (.inl x)) σ := gk_iret rfl
theorem g73_13 {x : Int32} {a0 a1 a3 a4 a5 a6 a7 a8 a9 a10 a11 : Option sl_V} : sl_Go xs N 73 13 [a0, a1, some (.inl x), a3, a4, a5, a6, a7, a8, a9, a10, a11] st σ Q ↔ sl_Go xs N 73 14 [a0, a1, some (.inl x), a3, a4, a5, a6, a7, a8, a9, a10, a11] (.inl x :: st) σ Q := gk_iload rfl rfl
theorem g73_14 {L : sl_L} : sl_Go xs N 73 14 L st σ Q ↔ sl_Go xs N 73 15 L (.inl 1 :: st) σ Q := gk_const rfl
theorem g73_15 {L : sl_L} : sl_Go xs N 73 15 L st σ Q ↔ sl_Go xs N 73 18 L (.inl 1200 :: st) σ Q := gk_const rfl
theorem g73_18 {L : sl_L} {x0 : Int32} {x1 : Int32} {x2 : Int32} : sl_Go xs N 73 18 L (.inl x2 :: .inl x1 :: .inl x0 :: st) σ Q ↔ sl_cw st ≤ 8 ∧ sl_Go xs N 81 0 [some (.inl x0), some (.inl x1), some (.inl x2)] [] σ (fun r τ => sl_Go xs N 73 21 L (r.toList ++ st) τ Q) := gk_call rfl (Nat.le_add_left 3 st.length) rfl rfl rfl rfl (Nat.le_of_ble_eq_true rfl)
theorem g73_21 {L : sl_L} {x : Int32} : sl_Go xs N 73 21 L (.inl x :: st) σ Q ↔ (x = 0 → sl_Go xs N 73 44 L st σ Q) ∧ (¬ x = 0 → sl_Go xs N 73 24 L st σ Q) := gk_zeq rfl
theorem g73_24 {x : Int32} {a0 a1 a2 a4 a5 a6 a7 a8 a9 a10 a11 : Option sl_V} : sl_Go xs N 73 24 [a0, a1, a2, some (.inl x), a4, a5, a6, a7, a8, a9, a10, a11] st σ Q ↔ sl_Go xs N 73 25 [a0, a1, a2, some (.inl x), a4, a5, a6, a7, a8, a9, a10, a11] (.inl x :: st) σ Q := gk_iload rfl rfl
theorem g73_25 {L : sl_L} : sl_Go xs N 73 25 L st σ Q ↔ sl_Go xs N 73 26 L (.inl 0 :: st) σ Q := gk_const rfl
theorem g73_26 {L : sl_L} : sl_Go xs N 73 26 L st σ Q ↔ sl_Go xs N 73 28 L (.inl 99 :: st) σ Q := gk_const rfl
theorem g73_28 {L : sl_L} {x0 : Int32} {x1 : Int32} {x2 : Int32} : sl_Go xs N 73 28 L (.inl x2 :: .inl x1 :: .inl x0 :: st) σ Q ↔ sl_cw st ≤ 8 ∧ sl_Go xs N 81 0 [some (.inl x0), some (.inl x1), some (.inl x2)] [] σ (fun r τ => sl_Go xs N 73 31 L (r.toList ++ st) τ Q) := gk_call rfl (Nat.le_add_left 3 st.length) rfl rfl rfl rfl (Nat.le_of_ble_eq_true rfl)
theorem g73_31 {L : sl_L} {x : Int32} : sl_Go xs N 73 31 L (.inl x :: st) σ Q ↔ (x = 0 → sl_Go xs N 73 44 L st σ Q) ∧ (¬ x = 0 → sl_Go xs N 73 34 L st σ Q) := gk_zeq rfl
theorem g73_34 {x : Int32} {a0 a1 a2 a3 a5 a6 a7 a8 a9 a10 a11 : Option sl_V} : sl_Go xs N 73 34 [a0, a1, a2, a3, some (.inl x), a5, a6, a7, a8, a9, a10, a11] st σ Q ↔ sl_Go xs N 73 36 [a0, a1, a2, a3, some (.inl x), a5, a6, a7, a8, a9, a10, a11] (.inl x :: st) σ Q := gk_iload rfl rfl
theorem g73_36 {L : sl_L} : sl_Go xs N 73 36 L st σ Q ↔ sl_Go xs N 73 37 L (.inl 0 :: st) σ Q := gk_const rfl
theorem g73_37 {L : sl_L} : sl_Go xs N 73 37 L st σ Q ↔ sl_Go xs N 73 38 L (.inl 2 :: st) σ Q := gk_const rfl
theorem g73_38 {L : sl_L} {x0 : Int32} {x1 : Int32} {x2 : Int32} : sl_Go xs N 73 38 L (.inl x2 :: .inl x1 :: .inl x0 :: st) σ Q ↔ sl_cw st ≤ 8 ∧ sl_Go xs N 81 0 [some (.inl x0), some (.inl x1), some (.inl x2)] [] σ (fun r τ => sl_Go xs N 73 41 L (r.toList ++ st) τ Q) := gk_call rfl (Nat.le_add_left 3 st.length) rfl rfl rfl rfl (Nat.le_of_ble_eq_true rfl)
theorem g73_41 {L : sl_L} {x : Int32} : sl_Go xs N 73 41 L (.inl x :: st) σ Q ↔ (¬ x = 0 → sl_Go xs N 73 47 L st σ Q) ∧ (x = 0 → sl_Go xs N 73 44 L st σ Q) := gk_zne rfl
theorem g73_44 {L : sl_L} : sl_Go xs N 73 44 L st σ Q ↔ sl_Go xs N 73 46 L (.inl (-2) :: st) σ Q := gk_const rfl
theorem g73_46 {L : sl_L} {x : Int32} : sl_Go xs N 73 46 L [.inl x] σ Q ↔ Q (some (.inl x)) σ := gk_iret rfl
theorem g73_47 {x : sl_R} {a1 a2 a3 a4 a5 a6 a7 a8 a9 a10 a11 : Option sl_V} : sl_Go xs N 73 47 [some (.inr (.inr x)), a1, a2, a3, a4, a5, a6, a7, a8, a9, a10, a11] st σ Q ↔ sl_Go xs N 73 48 [some (.inr (.inr x)), a1, a2, a3, a4, a5, a6, a7, a8, a9, a10, a11] (.inr (.inr x) :: st) σ Q := gk_aload rfl rfl
theorem g73_48 {L : sl_L} {i t : Nat} : sl_Go xs N 73 48 L (.inr (.inr (0, i, t)) :: st) σ Q ↔ sl_Go xs N 73 51 L (.inr (.inr (11, 0, 0)) :: st) σ Q := gk_get (g := .inr (11, 0, 0)) rfl rfl rfl
theorem g73_51 {L : sl_L} {i t : Nat} : sl_Go xs N 73 51 L (.inr (.inr (11, i, t)) :: st) σ Q ↔ sl_Go xs N 73 54 L (.inr (.inr (12, 0, 0)) :: st) σ Q := gk_get (g := .inr (12, 0, 0)) rfl rfl rfl
theorem g73_54 {x : Int32} {a0 a2 a3 a4 a5 a6 a7 a8 a9 a10 a11 : Option sl_V} : sl_Go xs N 73 54 [a0, some (.inl x), a2, a3, a4, a5, a6, a7, a8, a9, a10, a11] st σ Q ↔ sl_Go xs N 73 55 [a0, some (.inl x), a2, a3, a4, a5, a6, a7, a8, a9, a10, a11] (.inl x :: st) σ Q := gk_iload rfl rfl
theorem g73_55 {L : sl_L} {j : Int32} {r : sl_R} : sl_Go xs N 73 55 L (.inl j :: .inr (.inr r) :: st) σ Q ↔ (0 ≤ j.toInt ∧ j.toInt < sl_rlen r) ∧ sl_Go xs N 73 56 L (.inr (.inr (sl_rg r j.toNatClampNeg)) :: st) σ Q := gk_aald rfl
theorem g73_56 {L : sl_L} {i t : Nat} : sl_Go xs N 73 56 L (.inr (.inr (13, i, t)) :: st) σ Q ↔ sl_cw st ≤ 8 ∧ sl_Go xs N 32 0 [some (.inr (.inr (13, i, t)))] [] σ (fun r τ => sl_Go xs N 73 59 L (r.toList ++ st) τ Q) := gk_call rfl (Nat.le_add_left 1 st.length) rfl rfl rfl rfl (Nat.le_of_ble_eq_true rfl)
theorem g73_59n {x : Int32} {a0 a1 a2 a3 a5 a6 a7 a8 a9 a10 a11 : Option sl_V} : sl_Go xs N 73 59 [a0, a1, a2, a3, none, a5, a6, a7, a8, a9, a10, a11] (.inl x :: st) σ Q ↔ sl_Go xs N 73 61 [a0, a1, a2, a3, none, some (.inl x), a6, a7, a8, a9, a10, a11] st σ Q := gk_istore rfl ⟨Nat.le_of_ble_eq_true rfl, rfl⟩ rfl
theorem g73_59i {x : Int32} {z : Int32} {a0 a1 a2 a3 a5 a6 a7 a8 a9 a10 a11 : Option sl_V} : sl_Go xs N 73 59 [a0, a1, a2, a3, some (.inl z), a5, a6, a7, a8, a9, a10, a11] (.inl x :: st) σ Q ↔ sl_Go xs N 73 61 [a0, a1, a2, a3, some (.inl z), some (.inl x), a6, a7, a8, a9, a10, a11] st σ Q := gk_istore rfl ⟨Nat.le_of_ble_eq_true rfl, rfl⟩ rfl
theorem g73_59r {x : Int32} {z : sl_R} {a0 a1 a2 a3 a5 a6 a7 a8 a9 a10 a11 : Option sl_V} : sl_Go xs N 73 59 [a0, a1, a2, a3, some (.inr (.inr z)), a5, a6, a7, a8, a9, a10, a11] (.inl x :: st) σ Q ↔ sl_Go xs N 73 61 [a0, a1, a2, a3, some (.inr (.inr z)), some (.inl x), a6, a7, a8, a9, a10, a11] st σ Q := gk_istore rfl ⟨Nat.le_of_ble_eq_true rfl, rfl⟩ rfl
theorem g73_61 {x : sl_R} {a1 a2 a3 a4 a5 a6 a7 a8 a9 a10 a11 : Option sl_V} : sl_Go xs N 73 61 [some (.inr (.inr x)), a1, a2, a3, a4, a5, a6, a7, a8, a9, a10, a11] st σ Q ↔ sl_Go xs N 73 62 [some (.inr (.inr x)), a1, a2, a3, a4, a5, a6, a7, a8, a9, a10, a11] (.inr (.inr x) :: st) σ Q := gk_aload rfl rfl
theorem g73_62 {L : sl_L} {i t : Nat} : sl_Go xs N 73 62 L (.inr (.inr (0, i, t)) :: st) σ Q ↔ sl_Go xs N 73 65 L (.inr (.inr (11, 0, 0)) :: st) σ Q := gk_get (g := .inr (11, 0, 0)) rfl rfl rfl
theorem g73_65 {L : sl_L} {i t : Nat} : sl_Go xs N 73 65 L (.inr (.inr (11, i, t)) :: st) σ Q ↔ sl_Go xs N 73 68 L (.inr (.inr (12, 0, 0)) :: st) σ Q := gk_get (g := .inr (12, 0, 0)) rfl rfl rfl
theorem g73_68 {x : Int32} {a0 a2 a3 a4 a5 a6 a7 a8 a9 a10 a11 : Option sl_V} : sl_Go xs N 73 68 [a0, some (.inl x), a2, a3, a4, a5, a6, a7, a8, a9, a10, a11] st σ Q ↔ sl_Go xs N 73 69 [a0, some (.inl x), a2, a3, a4, a5, a6, a7, a8, a9, a10, a11] (.inl x :: st) σ Q := gk_iload rfl rfl
theorem g73_69 {L : sl_L} {j : Int32} {r : sl_R} : sl_Go xs N 73 69 L (.inl j :: .inr (.inr r) :: st) σ Q ↔ (0 ≤ j.toInt ∧ j.toInt < sl_rlen r) ∧ sl_Go xs N 73 70 L (.inr (.inr (sl_rg r j.toNatClampNeg)) :: st) σ Q := gk_aald rfl
theorem g73_70 {x : Int32} {a0 a1 a3 a4 a5 a6 a7 a8 a9 a10 a11 : Option sl_V} : sl_Go xs N 73 70 [a0, a1, some (.inl x), a3, a4, a5, a6, a7, a8, a9, a10, a11] st σ Q ↔ sl_Go xs N 73 71 [a0, a1, some (.inl x), a3, a4, a5, a6, a7, a8, a9, a10, a11] (.inl x :: st) σ Q := gk_iload rfl rfl
theorem g73_71 {L : sl_L} {x0 : Int32} {i t : Nat} : sl_Go xs N 73 71 L (.inl x0 :: .inr (.inr (13, i, t)) :: st) σ Q ↔ sl_cw st ≤ 8 ∧ sl_Go xs N 35 0 [some (.inr (.inr (13, i, t))), some (.inl x0)] [] σ (fun r τ => sl_Go xs N 73 74 L (r.toList ++ st) τ Q) := gk_call rfl (Nat.le_add_left 2 st.length) rfl rfl rfl rfl (Nat.le_of_ble_eq_true rfl)
theorem g73_74n {x : Int32} {a0 a1 a2 a3 a4 a6 a7 a8 a9 a10 a11 : Option sl_V} : sl_Go xs N 73 74 [a0, a1, a2, a3, a4, none, a6, a7, a8, a9, a10, a11] (.inl x :: st) σ Q ↔ sl_Go xs N 73 76 [a0, a1, a2, a3, a4, none, some (.inl x), a7, a8, a9, a10, a11] st σ Q := gk_istore rfl ⟨Nat.le_of_ble_eq_true rfl, rfl⟩ rfl
theorem g73_74i {x : Int32} {z : Int32} {a0 a1 a2 a3 a4 a6 a7 a8 a9 a10 a11 : Option sl_V} : sl_Go xs N 73 74 [a0, a1, a2, a3, a4, some (.inl z), a6, a7, a8, a9, a10, a11] (.inl x :: st) σ Q ↔ sl_Go xs N 73 76 [a0, a1, a2, a3, a4, some (.inl z), some (.inl x), a7, a8, a9, a10, a11] st σ Q := gk_istore rfl ⟨Nat.le_of_ble_eq_true rfl, rfl⟩ rfl
theorem g73_74r {x : Int32} {z : sl_R} {a0 a1 a2 a3 a4 a6 a7 a8 a9 a10 a11 : Option sl_V} : sl_Go xs N 73 74 [a0, a1, a2, a3, a4, some (.inr (.inr z)), a6, a7, a8, a9, a10, a11] (.inl x :: st) σ Q ↔ sl_Go xs N 73 76 [a0, a1, a2, a3, a4, some (.inr (.inr z)), some (.inl x), a7, a8, a9, a10, a11] st σ Q := gk_istore rfl ⟨Nat.le_of_ble_eq_true rfl, rfl⟩ rfl
theorem g73_76 {L : sl_L} : sl_Go xs N 73 76 L st σ Q ↔ sl_Go xs N 73 77 L (.inl 0 :: st) σ Q := gk_const rfl
theorem g73_77n {x : Int32} {a0 a1 a2 a3 a4 a5 a7 a8 a9 a10 a11 : Option sl_V} : sl_Go xs N 73 77 [a0, a1, a2, a3, a4, a5, none, a7, a8, a9, a10, a11] (.inl x :: st) σ Q ↔ sl_Go xs N 73 79 [a0, a1, a2, a3, a4, a5, none, some (.inl x), a8, a9, a10, a11] st σ Q := gk_istore rfl ⟨Nat.le_of_ble_eq_true rfl, rfl⟩ rfl
theorem g73_77i {x : Int32} {z : Int32} {a0 a1 a2 a3 a4 a5 a7 a8 a9 a10 a11 : Option sl_V} : sl_Go xs N 73 77 [a0, a1, a2, a3, a4, a5, some (.inl z), a7, a8, a9, a10, a11] (.inl x :: st) σ Q ↔ sl_Go xs N 73 79 [a0, a1, a2, a3, a4, a5, some (.inl z), some (.inl x), a8, a9, a10, a11] st σ Q := gk_istore rfl ⟨Nat.le_of_ble_eq_true rfl, rfl⟩ rfl
theorem g73_77r {x : Int32} {z : sl_R} {a0 a1 a2 a3 a4 a5 a7 a8 a9 a10 a11 : Option sl_V} : sl_Go xs N 73 77 [a0, a1, a2, a3, a4, a5, some (.inr (.inr z)), a7, a8, a9, a10, a11] (.inl x :: st) σ Q ↔ sl_Go xs N 73 79 [a0, a1, a2, a3, a4, a5, some (.inr (.inr z)), some (.inl x), a8, a9, a10, a11] st σ Q := gk_istore rfl ⟨Nat.le_of_ble_eq_true rfl, rfl⟩ rfl
theorem g73_79 {L : sl_L} : sl_Go xs N 73 79 L st σ Q ↔ sl_Go xs N 73 81 L (.inl (-3) :: st) σ Q := gk_const rfl
theorem g73_81n {x : Int32} {a0 a1 a2 a3 a4 a5 a6 a8 a9 a10 a11 : Option sl_V} : sl_Go xs N 73 81 [a0, a1, a2, a3, a4, a5, a6, none, a8, a9, a10, a11] (.inl x :: st) σ Q ↔ sl_Go xs N 73 83 [a0, a1, a2, a3, a4, a5, a6, none, some (.inl x), a9, a10, a11] st σ Q := gk_istore rfl ⟨Nat.le_of_ble_eq_true rfl, rfl⟩ rfl
theorem g73_81i {x : Int32} {z : Int32} {a0 a1 a2 a3 a4 a5 a6 a8 a9 a10 a11 : Option sl_V} : sl_Go xs N 73 81 [a0, a1, a2, a3, a4, a5, a6, some (.inl z), a8, a9, a10, a11] (.inl x :: st) σ Q ↔ sl_Go xs N 73 83 [a0, a1, a2, a3, a4, a5, a6, some (.inl z), some (.inl x), a9, a10, a11] st σ Q := gk_istore rfl ⟨Nat.le_of_ble_eq_true rfl, rfl⟩ rfl
theorem g73_81r {x : Int32} {z : sl_R} {a0 a1 a2 a3 a4 a5 a6 a8 a9 a10 a11 : Option sl_V} : sl_Go xs N 73 81 [a0, a1, a2, a3, a4, a5, a6, some (.inr (.inr z)), a8, a9, a10, a11] (.inl x :: st) σ Q ↔ sl_Go xs N 73 83 [a0, a1, a2, a3, a4, a5, a6, some (.inr (.inr z)), some (.inl x), a9, a10, a11] st σ Q := gk_istore rfl ⟨Nat.le_of_ble_eq_true rfl, rfl⟩ rfl
theorem g73_83 {L : sl_L} : sl_Go xs N 73 83 L st σ Q ↔ sl_Go xs N 73 85 L (.inl (-3) :: st) σ Q := gk_const rfl
theorem g73_85n {x : Int32} {a0 a1 a2 a3 a4 a5 a6 a7 a9 a10 a11 : Option sl_V} : sl_Go xs N 73 85 [a0, a1, a2, a3, a4, a5, a6, a7, none, a9, a10, a11] (.inl x :: st) σ Q ↔ sl_Go xs N 73 87 [a0, a1, a2, a3, a4, a5, a6, a7, none, some (.inl x), a10, a11] st σ Q := gk_istore rfl ⟨Nat.le_of_ble_eq_true rfl, rfl⟩ rfl
theorem g73_85i {x : Int32} {z : Int32} {a0 a1 a2 a3 a4 a5 a6 a7 a9 a10 a11 : Option sl_V} : sl_Go xs N 73 85 [a0, a1, a2, a3, a4, a5, a6, a7, some (.inl z), a9, a10, a11] (.inl x :: st) σ Q ↔ sl_Go xs N 73 87 [a0, a1, a2, a3, a4, a5, a6, a7, some (.inl z), some (.inl x), a10, a11] st σ Q := gk_istore rfl ⟨Nat.le_of_ble_eq_true rfl, rfl⟩ rfl
theorem g73_85r {x : Int32} {z : sl_R} {a0 a1 a2 a3 a4 a5 a6 a7 a9 a10 a11 : Option sl_V} : sl_Go xs N 73 85 [a0, a1, a2, a3, a4, a5, a6, a7, some (.inr (.inr z)), a9, a10, a11] (.inl x :: st) σ Q ↔ sl_Go xs N 73 87 [a0, a1, a2, a3, a4, a5, a6, a7, some (.inr (.inr z)), some (.inl x), a10, a11] st σ Q := gk_istore rfl ⟨Nat.le_of_ble_eq_true rfl, rfl⟩ rfl
theorem g73_87 {L : sl_L} : sl_Go xs N 73 87 L st σ Q ↔ sl_Go xs N 73 88 L (.inl 0 :: st) σ Q := gk_const rfl
theorem g73_88n {x : Int32} {a0 a1 a2 a3 a4 a5 a6 a7 a8 a10 a11 : Option sl_V} : sl_Go xs N 73 88 [a0, a1, a2, a3, a4, a5, a6, a7, a8, none, a10, a11] (.inl x :: st) σ Q ↔ sl_Go xs N 73 90 [a0, a1, a2, a3, a4, a5, a6, a7, a8, none, some (.inl x), a11] st σ Q := gk_istore rfl ⟨Nat.le_of_ble_eq_true rfl, rfl⟩ rfl
theorem g73_88i {x : Int32} {z : Int32} {a0 a1 a2 a3 a4 a5 a6 a7 a8 a10 a11 : Option sl_V} : sl_Go xs N 73 88 [a0, a1, a2, a3, a4, a5, a6, a7, a8, some (.inl z), a10, a11] (.inl x :: st) σ Q ↔ sl_Go xs N 73 90 [a0, a1, a2, a3, a4, a5, a6, a7, a8, some (.inl z), some (.inl x), a11] st σ Q := gk_istore rfl ⟨Nat.le_of_ble_eq_true rfl, rfl⟩ rfl
theorem g73_88r {x : Int32} {z : sl_R} {a0 a1 a2 a3 a4 a5 a6 a7 a8 a10 a11 : Option sl_V} : sl_Go xs N 73 88 [a0, a1, a2, a3, a4, a5, a6, a7, a8, some (.inr (.inr z)), a10, a11] (.inl x :: st) σ Q ↔ sl_Go xs N 73 90 [a0, a1, a2, a3, a4, a5, a6, a7, a8, some (.inr (.inr z)), some (.inl x), a11] st σ Q := gk_istore rfl ⟨Nat.le_of_ble_eq_true rfl, rfl⟩ rfl
theorem g73_90 {x : Int32} {a0 a1 a2 a3 a4 a5 a6 a7 a8 a9 a11 : Option sl_V} : sl_Go xs N 73 90 [a0, a1, a2, a3, a4, a5, a6, a7, a8, a9, some (.inl x), a11] st σ Q ↔ sl_Go xs N 73 92 [a0, a1, a2, a3, a4, a5, a6, a7, a8, a9, some (.inl x), a11] (.inl x :: st) σ Q := gk_iload rfl rfl
theorem g73_92 {L : sl_L} : sl_Go xs N 73 92 L st σ Q ↔ sl_Go xs N 73 94 L (.inl 24 :: st) σ Q := gk_const rfl
theorem g73_94 {L : sl_L} {x y : Int32} : sl_Go xs N 73 94 L (.inl y :: .inl x :: st) σ Q ↔ (y < x → sl_Go xs N 73 152 L st σ Q) ∧ (¬ y < x → sl_Go xs N 73 97 L st σ Q) := gk_igt rfl
theorem g73_97 {x : Int32} {a0 a1 a2 a3 a4 a5 a6 a7 a8 a9 a11 : Option sl_V} : sl_Go xs N 73 97 [a0, a1, a2, a3, a4, a5, a6, a7, a8, a9, some (.inl x), a11] st σ Q ↔ sl_Go xs N 73 99 [a0, a1, a2, a3, a4, a5, a6, a7, a8, a9, some (.inl x), a11] (.inl x :: st) σ Q := gk_iload rfl rfl
theorem g73_99 {x : Int32} {a0 a1 a2 a3 a4 a5 a7 a8 a9 a10 a11 : Option sl_V} : sl_Go xs N 73 99 [a0, a1, a2, a3, a4, a5, some (.inl x), a7, a8, a9, a10, a11] st σ Q ↔ sl_Go xs N 73 101 [a0, a1, a2, a3, a4, a5, some (.inl x), a7, a8, a9, a10, a11] (.inl x :: st) σ Q := gk_iload rfl rfl
theorem g73_101 {L : sl_L} {x y : Int32} : sl_Go xs N 73 101 L (.inl y :: .inl x :: st) σ Q ↔ sl_Go xs N 73 102 L (.inl (x * y) :: st) σ Q := gk_bin (b := 10) rfl
theorem g73_102 {x : Int32} {a0 a1 a2 a3 a4 a6 a7 a8 a9 a10 a11 : Option sl_V} : sl_Go xs N 73 102 [a0, a1, a2, a3, a4, some (.inl x), a6, a7, a8, a9, a10, a11] st σ Q ↔ sl_Go xs N 73 104 [a0, a1, a2, a3, a4, some (.inl x), a6, a7, a8, a9, a10, a11] (.inl x :: st) σ Q := gk_iload rfl rfl
theorem g73_104 {L : sl_L} {x y : Int32} : sl_Go xs N 73 104 L (.inl y :: .inl x :: st) σ Q ↔ (y < x → sl_Go xs N 73 152 L st σ Q) ∧ (¬ y < x → sl_Go xs N 73 107 L st σ Q) := gk_igt rfl
theorem g73_107 {x : Int32} {a0 a1 a2 a3 a4 a5 a6 a7 a8 a9 a11 : Option sl_V} : sl_Go xs N 73 107 [a0, a1, a2, a3, a4, a5, a6, a7, a8, a9, some (.inl x), a11] st σ Q ↔ sl_Go xs N 73 109 [a0, a1, a2, a3, a4, a5, a6, a7, a8, a9, some (.inl x), a11] (.inl x :: st) σ Q := gk_iload rfl rfl
theorem g73_109 {x : Int32} {a0 a1 a2 a3 a4 a5 a7 a8 a9 a10 a11 : Option sl_V} : sl_Go xs N 73 109 [a0, a1, a2, a3, a4, a5, some (.inl x), a7, a8, a9, a10, a11] st σ Q ↔ sl_Go xs N 73 111 [a0, a1, a2, a3, a4, a5, some (.inl x), a7, a8, a9, a10, a11] (.inl x :: st) σ Q := gk_iload rfl rfl
theorem g73_111 {L : sl_L} {x y : Int32} : sl_Go xs N 73 111 L (.inl y :: .inl x :: st) σ Q ↔ sl_Go xs N 73 112 L (.inl (x * y) :: st) σ Q := gk_bin (b := 10) rfl
theorem g73_112n {x : Int32} {a0 a1 a2 a3 a4 a5 a6 a7 a8 a9 a11 : Option sl_V} : sl_Go xs N 73 112 [a0, a1, a2, a3, a4, a5, a6, a7, a8, a9, none, a11] (.inl x :: st) σ Q ↔ sl_Go xs N 73 114 [a0, a1, a2, a3, a4, a5, a6, a7, a8, a9, none, some (.inl x)] st σ Q := gk_istore rfl ⟨Nat.le_of_ble_eq_true rfl, rfl⟩ rfl
theorem g73_112i {x : Int32} {z : Int32} {a0 a1 a2 a3 a4 a5 a6 a7 a8 a9 a11 : Option sl_V} : sl_Go xs N 73 112 [a0, a1, a2, a3, a4, a5, a6, a7, a8, a9, some (.inl z), a11] (.inl x :: st) σ Q ↔ sl_Go xs N 73 114 [a0, a1, a2, a3, a4, a5, a6, a7, a8, a9, some (.inl z), some (.inl x)] st σ Q := gk_istore rfl ⟨Nat.le_of_ble_eq_true rfl, rfl⟩ rfl
theorem g73_112r {x : Int32} {z : sl_R} {a0 a1 a2 a3 a4 a5 a6 a7 a8 a9 a11 : Option sl_V} : sl_Go xs N 73 112 [a0, a1, a2, a3, a4, a5, a6, a7, a8, a9, some (.inr (.inr z)), a11] (.inl x :: st) σ Q ↔ sl_Go xs N 73 114 [a0, a1, a2, a3, a4, a5, a6, a7, a8, a9, some (.inr (.inr z)), some (.inl x)] st σ Q := gk_istore rfl ⟨Nat.le_of_ble_eq_true rfl, rfl⟩ rfl
theorem g73_114 {x : sl_R} {a1 a2 a3 a4 a5 a6 a7 a8 a9 a10 a11 : Option sl_V} : sl_Go xs N 73 114 [some (.inr (.inr x)), a1, a2, a3, a4, a5, a6, a7, a8, a9, a10, a11] st σ Q ↔ sl_Go xs N 73 115 [some (.inr (.inr x)), a1, a2, a3, a4, a5, a6, a7, a8, a9, a10, a11] (.inr (.inr x) :: st) σ Q := gk_aload rfl rfl
theorem g73_115 {x : Int32} {a0 a2 a3 a4 a5 a6 a7 a8 a9 a10 a11 : Option sl_V} : sl_Go xs N 73 115 [a0, some (.inl x), a2, a3, a4, a5, a6, a7, a8, a9, a10, a11] st σ Q ↔ sl_Go xs N 73 116 [a0, some (.inl x), a2, a3, a4, a5, a6, a7, a8, a9, a10, a11] (.inl x :: st) σ Q := gk_iload rfl rfl
theorem g73_116 {x : Int32} {a0 a1 a2 a3 a4 a5 a6 a7 a8 a9 a10 : Option sl_V} : sl_Go xs N 73 116 [a0, a1, a2, a3, a4, a5, a6, a7, a8, a9, a10, some (.inl x)] st σ Q ↔ sl_Go xs N 73 118 [a0, a1, a2, a3, a4, a5, a6, a7, a8, a9, a10, some (.inl x)] (.inl x :: st) σ Q := gk_iload rfl rfl
theorem g73_118 {x : Int32} {a0 a1 a2 a4 a5 a6 a7 a8 a9 a10 a11 : Option sl_V} : sl_Go xs N 73 118 [a0, a1, a2, some (.inl x), a4, a5, a6, a7, a8, a9, a10, a11] st σ Q ↔ sl_Go xs N 73 119 [a0, a1, a2, some (.inl x), a4, a5, a6, a7, a8, a9, a10, a11] (.inl x :: st) σ Q := gk_iload rfl rfl
theorem g73_119 {L : sl_L} {x0 : Int32} {x1 : Int32} {x2 : Int32} {i t : Nat} : sl_Go xs N 73 119 L (.inl x2 :: .inl x1 :: .inl x0 :: .inr (.inr (0, i, t)) :: st) σ Q ↔ sl_cw st ≤ 8 ∧ sl_Go xs N 89 0 [some (.inr (.inr (0, i, t))), some (.inl x0), some (.inl x1), some (.inl x2), none, none] [] σ (fun r τ => sl_Go xs N 73 122 L (r.toList ++ st) τ Q) := gk_call rfl (Nat.le_add_left 4 st.length) rfl rfl rfl rfl (Nat.le_of_ble_eq_true rfl)
theorem g73_122 {L : sl_L} {x : Int32} : sl_Go xs N 73 122 L (.inl x :: st) σ Q ↔ (x = 0 → sl_Go xs N 73 146 L st σ Q) ∧ (¬ x = 0 → sl_Go xs N 73 125 L st σ Q) := gk_zeq rfl
theorem g73_125 {x : Int32} {a0 a1 a2 a3 a4 a5 a6 a8 a9 a10 a11 : Option sl_V} : sl_Go xs N 73 125 [a0, a1, a2, a3, a4, a5, a6, some (.inl x), a8, a9, a10, a11] st σ Q ↔ sl_Go xs N 73 127 [a0, a1, a2, a3, a4, a5, a6, some (.inl x), a8, a9, a10, a11] (.inl x :: st) σ Q := gk_iload rfl rfl
theorem g73_127 {L : sl_L} {x : Int32} : sl_Go xs N 73 127 L (.inl x :: st) σ Q ↔ (¬ x = 0 → sl_Go xs N 73 135 L st σ Q) ∧ (x = 0 → sl_Go xs N 73 130 L st σ Q) := gk_zne rfl
theorem g73_130 {x : Int32} {a0 a1 a2 a3 a4 a5 a6 a7 a8 a9 a10 : Option sl_V} : sl_Go xs N 73 130 [a0, a1, a2, a3, a4, a5, a6, a7, a8, a9, a10, some (.inl x)] st σ Q ↔ sl_Go xs N 73 132 [a0, a1, a2, a3, a4, a5, a6, a7, a8, a9, a10, some (.inl x)] (.inl x :: st) σ Q := gk_iload rfl rfl
theorem g73_132 {L : sl_L} : sl_Go xs N 73 132 L st σ Q ↔ sl_Go xs N 73 137 L st σ Q := gk_goto rfl
theorem g73_135 {x : Int32} {a0 a1 a2 a3 a4 a5 a6 a7 a9 a10 a11 : Option sl_V} : sl_Go xs N 73 135 [a0, a1, a2, a3, a4, a5, a6, a7, some (.inl x), a9, a10, a11] st σ Q ↔ sl_Go xs N 73 137 [a0, a1, a2, a3, a4, a5, a6, a7, some (.inl x), a9, a10, a11] (.inl x :: st) σ Q := gk_iload rfl rfl
theorem g73_137n {x : Int32} {a0 a1 a2 a3 a4 a5 a6 a8 a9 a10 a11 : Option sl_V} : sl_Go xs N 73 137 [a0, a1, a2, a3, a4, a5, a6, none, a8, a9, a10, a11] (.inl x :: st) σ Q ↔ sl_Go xs N 73 139 [a0, a1, a2, a3, a4, a5, a6, none, some (.inl x), a9, a10, a11] st σ Q := gk_istore rfl ⟨Nat.le_of_ble_eq_true rfl, rfl⟩ rfl
theorem g73_137i {x : Int32} {z : Int32} {a0 a1 a2 a3 a4 a5 a6 a8 a9 a10 a11 : Option sl_V} : sl_Go xs N 73 137 [a0, a1, a2, a3, a4, a5, a6, some (.inl z), a8, a9, a10, a11] (.inl x :: st) σ Q ↔ sl_Go xs N 73 139 [a0, a1, a2, a3, a4, a5, a6, some (.inl z), some (.inl x), a9, a10, a11] st σ Q := gk_istore rfl ⟨Nat.le_of_ble_eq_true rfl, rfl⟩ rfl
theorem g73_137r {x : Int32} {z : sl_R} {a0 a1 a2 a3 a4 a5 a6 a8 a9 a10 a11 : Option sl_V} : sl_Go xs N 73 137 [a0, a1, a2, a3, a4, a5, a6, some (.inr (.inr z)), a8, a9, a10, a11] (.inl x :: st) σ Q ↔ sl_Go xs N 73 139 [a0, a1, a2, a3, a4, a5, a6, some (.inr (.inr z)), some (.inl x), a9, a10, a11] st σ Q := gk_istore rfl ⟨Nat.le_of_ble_eq_true rfl, rfl⟩ rfl
theorem g73_139 {x : Int32} {a0 a1 a2 a3 a4 a5 a6 a7 a8 a9 a10 : Option sl_V} : sl_Go xs N 73 139 [a0, a1, a2, a3, a4, a5, a6, a7, a8, a9, a10, some (.inl x)] st σ Q ↔ sl_Go xs N 73 141 [a0, a1, a2, a3, a4, a5, a6, a7, a8, a9, a10, some (.inl x)] (.inl x :: st) σ Q := gk_iload rfl rfl
theorem g73_141n {x : Int32} {a0 a1 a2 a3 a4 a5 a6 a7 a9 a10 a11 : Option sl_V} : sl_Go xs N 73 141 [a0, a1, a2, a3, a4, a5, a6, a7, none, a9, a10, a11] (.inl x :: st) σ Q ↔ sl_Go xs N 73 143 [a0, a1, a2, a3, a4, a5, a6, a7, none, some (.inl x), a10, a11] st σ Q := gk_istore rfl ⟨Nat.le_of_ble_eq_true rfl, rfl⟩ rfl
theorem g73_141i {x : Int32} {z : Int32} {a0 a1 a2 a3 a4 a5 a6 a7 a9 a10 a11 : Option sl_V} : sl_Go xs N 73 141 [a0, a1, a2, a3, a4, a5, a6, a7, some (.inl z), a9, a10, a11] (.inl x :: st) σ Q ↔ sl_Go xs N 73 143 [a0, a1, a2, a3, a4, a5, a6, a7, some (.inl z), some (.inl x), a10, a11] st σ Q := gk_istore rfl ⟨Nat.le_of_ble_eq_true rfl, rfl⟩ rfl
theorem g73_141r {x : Int32} {z : sl_R} {a0 a1 a2 a3 a4 a5 a6 a7 a9 a10 a11 : Option sl_V} : sl_Go xs N 73 141 [a0, a1, a2, a3, a4, a5, a6, a7, some (.inr (.inr z)), a9, a10, a11] (.inl x :: st) σ Q ↔ sl_Go xs N 73 143 [a0, a1, a2, a3, a4, a5, a6, a7, some (.inr (.inr z)), some (.inl x), a10, a11] st σ Q := gk_istore rfl ⟨Nat.le_of_ble_eq_true rfl, rfl⟩ rfl
theorem g73_143n {x : Int32} {a0 a1 a2 a3 a4 a5 a8 a9 a10 a11 : Option sl_V} : sl_Go xs N 73 143 [a0, a1, a2, a3, a4, a5, none, some (.inl x), a8, a9, a10, a11] st σ Q ↔ sl_Go xs N 73 146 [a0, a1, a2, a3, a4, a5, none, some (.inl (x + 1)), a8, a9, a10, a11] st σ Q := gk_iinc rfl rfl rfl rfl
theorem g73_143i {x : Int32} {z : Int32} {a0 a1 a2 a3 a4 a5 a8 a9 a10 a11 : Option sl_V} : sl_Go xs N 73 143 [a0, a1, a2, a3, a4, a5, some (.inl z), some (.inl x), a8, a9, a10, a11] st σ Q ↔ sl_Go xs N 73 146 [a0, a1, a2, a3, a4, a5, some (.inl z), some (.inl (x + 1)), a8, a9, a10, a11] st σ Q := gk_iinc rfl rfl rfl rfl
theorem g73_143r {x : Int32} {z : sl_R} {a0 a1 a2 a3 a4 a5 a8 a9 a10 a11 : Option sl_V} : sl_Go xs N 73 143 [a0, a1, a2, a3, a4, a5, some (.inr (.inr z)), some (.inl x), a8, a9, a10, a11] st σ Q ↔ sl_Go xs N 73 146 [a0, a1, a2, a3, a4, a5, some (.inr (.inr z)), some (.inl (x + 1)), a8, a9, a10, a11] st σ Q := gk_iinc rfl rfl rfl rfl
theorem g73_146n {x : Int32} {a0 a1 a2 a3 a4 a5 a6 a7 a8 a11 : Option sl_V} : sl_Go xs N 73 146 [a0, a1, a2, a3, a4, a5, a6, a7, a8, none, some (.inl x), a11] st σ Q ↔ sl_Go xs N 73 149 [a0, a1, a2, a3, a4, a5, a6, a7, a8, none, some (.inl (x + 1)), a11] st σ Q := gk_iinc rfl rfl rfl rfl
theorem g73_146i {x : Int32} {z : Int32} {a0 a1 a2 a3 a4 a5 a6 a7 a8 a11 : Option sl_V} : sl_Go xs N 73 146 [a0, a1, a2, a3, a4, a5, a6, a7, a8, some (.inl z), some (.inl x), a11] st σ Q ↔ sl_Go xs N 73 149 [a0, a1, a2, a3, a4, a5, a6, a7, a8, some (.inl z), some (.inl (x + 1)), a11] st σ Q := gk_iinc rfl rfl rfl rfl
theorem g73_146r {x : Int32} {z : sl_R} {a0 a1 a2 a3 a4 a5 a6 a7 a8 a11 : Option sl_V} : sl_Go xs N 73 146 [a0, a1, a2, a3, a4, a5, a6, a7, a8, some (.inr (.inr z)), some (.inl x), a11] st σ Q ↔ sl_Go xs N 73 149 [a0, a1, a2, a3, a4, a5, a6, a7, a8, some (.inr (.inr z)), some (.inl (x + 1)), a11] st σ Q := gk_iinc rfl rfl rfl rfl
theorem g73_149 {L : sl_L} : sl_Go xs N 73 149 L st σ Q ↔ sl_Go xs N 73 90 L st σ Q := gk_goto rfl
theorem g73_152 {x : Int32} {a0 a1 a2 a3 a5 a6 a7 a8 a9 a10 a11 : Option sl_V} : sl_Go xs N 73 152 [a0, a1, a2, a3, some (.inl x), a5, a6, a7, a8, a9, a10, a11] st σ Q ↔ sl_Go xs N 73 154 [a0, a1, a2, a3, some (.inl x), a5, a6, a7, a8, a9, a10, a11] (.inl x :: st) σ Q := gk_iload rfl rfl
theorem g73_154 {L : sl_L} {x : Int32} : sl_Go xs N 73 154 L (.inl x :: st) σ Q ↔ (¬ x = 0 → sl_Go xs N 73 162 L st σ Q) ∧ (x = 0 → sl_Go xs N 73 157 L st σ Q) := gk_zne rfl
theorem g73_157 {x : Int32} {a0 a1 a2 a3 a4 a5 a6 a8 a9 a10 a11 : Option sl_V} : sl_Go xs N 73 157 [a0, a1, a2, a3, a4, a5, a6, some (.inl x), a8, a9, a10, a11] st σ Q ↔ sl_Go xs N 73 159 [a0, a1, a2, a3, a4, a5, a6, some (.inl x), a8, a9, a10, a11] (.inl x :: st) σ Q := gk_iload rfl rfl
theorem g73_159 {L : sl_L} : sl_Go xs N 73 159 L st σ Q ↔ sl_Go xs N 73 175 L st σ Q := gk_goto rfl
theorem g73_162 {x : Int32} {a0 a1 a2 a3 a5 a6 a7 a8 a9 a10 a11 : Option sl_V} : sl_Go xs N 73 162 [a0, a1, a2, a3, some (.inl x), a5, a6, a7, a8, a9, a10, a11] st σ Q ↔ sl_Go xs N 73 164 [a0, a1, a2, a3, some (.inl x), a5, a6, a7, a8, a9, a10, a11] (.inl x :: st) σ Q := gk_iload rfl rfl
theorem g73_164 {L : sl_L} : sl_Go xs N 73 164 L st σ Q ↔ sl_Go xs N 73 165 L (.inl 1 :: st) σ Q := gk_const rfl
theorem g73_165 {L : sl_L} {x y : Int32} : sl_Go xs N 73 165 L (.inl y :: .inl x :: st) σ Q ↔ (¬ x = y → sl_Go xs N 73 173 L st σ Q) ∧ (x = y → sl_Go xs N 73 168 L st σ Q) := gk_ine rfl
theorem g73_168 {x : Int32} {a0 a1 a2 a3 a4 a5 a6 a7 a9 a10 a11 : Option sl_V} : sl_Go xs N 73 168 [a0, a1, a2, a3, a4, a5, a6, a7, some (.inl x), a9, a10, a11] st σ Q ↔ sl_Go xs N 73 170 [a0, a1, a2, a3, a4, a5, a6, a7, some (.inl x), a9, a10, a11] (.inl x :: st) σ Q := gk_iload rfl rfl
theorem g73_170 {L : sl_L} : sl_Go xs N 73 170 L st σ Q ↔ sl_Go xs N 73 175 L st σ Q := gk_goto rfl
theorem g73_173 {x : Int32} {a0 a1 a2 a3 a4 a5 a6 a7 a8 a10 a11 : Option sl_V} : sl_Go xs N 73 173 [a0, a1, a2, a3, a4, a5, a6, a7, a8, some (.inl x), a10, a11] st σ Q ↔ sl_Go xs N 73 175 [a0, a1, a2, a3, a4, a5, a6, a7, a8, some (.inl x), a10, a11] (.inl x :: st) σ Q := gk_iload rfl rfl
theorem g73_175 {L : sl_L} {x : Int32} : sl_Go xs N 73 175 L [.inl x] σ Q ↔ Q (some (.inl x)) σ := gk_iret rfl
theorem g74_0 {x : sl_R} : sl_Go xs N 74 0 [some (.inr (.inr x))] st σ Q ↔ sl_Go xs N 74 1 [some (.inr (.inr x))] (.inr (.inr x) :: st) σ Q := gk_aload rfl rfl
theorem g74_1 {L : sl_L} {i t : Nat} : sl_Go xs N 74 1 L (.inr (.inr (0, i, t)) :: st) σ Q ↔ sl_Go xs N 74 4 L (.inr (.inr (1, 3, 0)) :: st) σ Q := gk_get (g := .inr (1, 3, 0)) rfl rfl rfl
theorem g74_4 {x : sl_R} : sl_Go xs N 74 4 [some (.inr (.inr x))] st σ Q ↔ sl_Go xs N 74 5 [some (.inr (.inr x))] (.inr (.inr x) :: st) σ Q := gk_aload rfl rfl
theorem g74_5 {L : sl_L} {i t : Nat} : sl_Go xs N 74 5 L (.inr (.inr (0, i, t)) :: st) σ Q ↔ sl_Go xs N 74 8 L (.inr (.inr (1, 1, 0)) :: st) σ Q := gk_get (g := .inr (1, 1, 0)) rfl rfl rfl
theorem g74_8 {L : sl_L} {x0 : sl_R} {i t : Nat} : sl_Go xs N 74 8 L (.inr (.inr x0) :: .inr (.inr (1, i, t)) :: st) σ Q ↔ sl_cw st ≤ 8 ∧ sl_Go xs N 10 0 [some (.inr (.inr (1, i, t))), some (.inr (.inr x0)), none] [] σ (fun r τ => sl_Go xs N 74 11 L (r.toList ++ st) τ Q) := gk_call rfl (Nat.le_add_left 2 st.length) rfl rfl rfl rfl (Nat.le_of_ble_eq_true rfl)
theorem g74_11 {x : sl_R} : sl_Go xs N 74 11 [some (.inr (.inr x))] st σ Q ↔ sl_Go xs N 74 12 [some (.inr (.inr x))] (.inr (.inr x) :: st) σ Q := gk_aload rfl rfl
theorem g74_12 {L : sl_L} : sl_Go xs N 74 12 L st σ Q ↔ sl_Go xs N 74 13 L (.inl 1 :: st) σ Q := gk_const rfl
theorem g74_13 {L : sl_L} {x : Int32} {i t : Nat} : sl_Go xs N 74 13 L (.inl x :: .inr (.inr (0, i, t)) :: st) σ Q ↔ (x = 0 ∨ x = 1) ∧ sl_Go xs N 74 16 L st (sl_up σ 7 0 0 x) Q := gk_put1 (q := (7, 0, 0)) rfl rfl rfl
theorem g74_16 {x : sl_R} : sl_Go xs N 74 16 [some (.inr (.inr x))] st σ Q ↔ sl_Go xs N 74 17 [some (.inr (.inr x))] (.inr (.inr x) :: st) σ Q := gk_aload rfl rfl
theorem g74_17 {L : sl_L} {i t : Nat} : sl_Go xs N 74 17 L (.inr (.inr (0, i, t)) :: st) σ Q ↔ sl_Go xs N 74 20 L (.inr (.inr (1, 1, 0)) :: st) σ Q := gk_get (g := .inr (1, 1, 0)) rfl rfl rfl
theorem g74_20 {L : sl_L} {i t : Nat} : sl_Go xs N 74 20 L (.inr (.inr (1, i, t)) :: st) σ Q ↔ sl_Go xs N 74 23 L (.inl (σ i 0 0) :: st) σ Q := gk_get (g := .inl (i, 0, 0)) rfl rfl rfl
theorem g74_23 {L : sl_L} {x : Int32} : sl_Go xs N 74 23 L [.inl x] σ Q ↔ Q (some (.inl x)) σ := gk_iret rfl
theorem g75_0 {x : sl_R} : sl_Go xs N 75 0 [some (.inr (.inr x))] st σ Q ↔ sl_Go xs N 75 1 [some (.inr (.inr x))] (.inr (.inr x) :: st) σ Q := gk_aload rfl rfl
theorem g75_1 {L : sl_L} {i t : Nat} : sl_Go xs N 75 1 L (.inr (.inr (0, i, t)) :: st) σ Q ↔ sl_Go xs N 75 4 L (.inl (σ 7 0 0) :: st) σ Q := gk_get (g := .inl (7, 0, 0)) rfl rfl rfl
theorem g75_4 {L : sl_L} {x : Int32} : sl_Go xs N 75 4 L (.inl x :: st) σ Q ↔ (¬ x = 0 → sl_Go xs N 75 10 L st σ Q) ∧ (x = 0 → sl_Go xs N 75 7 L st σ Q) := gk_zne rfl
theorem g75_7 {L : sl_L} : sl_Go xs N 75 7 L st σ Q ↔ sl_Go xs N 75 9 L (.inl (-3) :: st) σ Q := gk_const rfl
theorem g75_9 {L : sl_L} {x : Int32} : sl_Go xs N 75 9 L [.inl x] σ Q ↔ Q (some (.inl x)) σ := gk_iret rfl
theorem g75_10 {x : sl_R} : sl_Go xs N 75 10 [some (.inr (.inr x))] st σ Q ↔ sl_Go xs N 75 11 [some (.inr (.inr x))] (.inr (.inr x) :: st) σ Q := gk_aload rfl rfl
theorem g75_11 {L : sl_L} {i t : Nat} : sl_Go xs N 75 11 L (.inr (.inr (0, i, t)) :: st) σ Q ↔ sl_Go xs N 75 14 L (.inr (.inr (1, 1, 0)) :: st) σ Q := gk_get (g := .inr (1, 1, 0)) rfl rfl rfl
theorem g75_14 {x : sl_R} : sl_Go xs N 75 14 [some (.inr (.inr x))] st σ Q ↔ sl_Go xs N 75 15 [some (.inr (.inr x))] (.inr (.inr x) :: st) σ Q := gk_aload rfl rfl
theorem g75_15 {L : sl_L} {i t : Nat} : sl_Go xs N 75 15 L (.inr (.inr (0, i, t)) :: st) σ Q ↔ sl_Go xs N 75 18 L (.inr (.inr (1, 3, 0)) :: st) σ Q := gk_get (g := .inr (1, 3, 0)) rfl rfl rfl
theorem g75_18 {L : sl_L} {x0 : sl_R} {i t : Nat} : sl_Go xs N 75 18 L (.inr (.inr x0) :: .inr (.inr (1, i, t)) :: st) σ Q ↔ sl_cw st ≤ 8 ∧ sl_Go xs N 10 0 [some (.inr (.inr (1, i, t))), some (.inr (.inr x0)), none] [] σ (fun r τ => sl_Go xs N 75 21 L (r.toList ++ st) τ Q) := gk_call rfl (Nat.le_add_left 2 st.length) rfl rfl rfl rfl (Nat.le_of_ble_eq_true rfl)
theorem g75_21 {x : sl_R} : sl_Go xs N 75 21 [some (.inr (.inr x))] st σ Q ↔ sl_Go xs N 75 22 [some (.inr (.inr x))] (.inr (.inr x) :: st) σ Q := gk_aload rfl rfl
theorem g75_22 {L : sl_L} {i t : Nat} : sl_Go xs N 75 22 L (.inr (.inr (0, i, t)) :: st) σ Q ↔ sl_Go xs N 75 25 L (.inr (.inr (1, 1, 0)) :: st) σ Q := gk_get (g := .inr (1, 1, 0)) rfl rfl rfl
theorem g75_25 {L : sl_L} {i t : Nat} : sl_Go xs N 75 25 L (.inr (.inr (1, i, t)) :: st) σ Q ↔ sl_Go xs N 75 28 L (.inl (σ i 0 0) :: st) σ Q := gk_get (g := .inl (i, 0, 0)) rfl rfl rfl
theorem g75_28 {L : sl_L} {x : Int32} : sl_Go xs N 75 28 L [.inl x] σ Q ↔ Q (some (.inl x)) σ := gk_iret rfl
theorem g76_0 {x : Int32} {a0 a2 a3 : Option sl_V} : sl_Go xs N 76 0 [a0, some (.inl x), a2, a3] st σ Q ↔ sl_Go xs N 76 1 [a0, some (.inl x), a2, a3] (.inl x :: st) σ Q := gk_iload rfl rfl
theorem g76_1 {L : sl_L} {x0 : Int32} : sl_Go xs N 76 1 L (.inl x0 :: st) σ Q ↔ sl_cw st ≤ 8 ∧ sl_Go xs N 83 0 [some (.inl x0)] [] σ (fun r τ => sl_Go xs N 76 4 L (r.toList ++ st) τ Q) := gk_call rfl (Nat.le_add_left 1 st.length) rfl rfl rfl rfl (Nat.le_of_ble_eq_true rfl)
theorem g76_4 {L : sl_L} {x : Int32} : sl_Go xs N 76 4 L (.inl x :: st) σ Q ↔ (x = 0 → sl_Go xs N 76 16 L st σ Q) ∧ (¬ x = 0 → sl_Go xs N 76 7 L st σ Q) := gk_zeq rfl
theorem g76_7 {x : Int32} {a0 a1 a3 : Option sl_V} : sl_Go xs N 76 7 [a0, a1, some (.inl x), a3] st σ Q ↔ sl_Go xs N 76 8 [a0, a1, some (.inl x), a3] (.inl x :: st) σ Q := gk_iload rfl rfl
theorem g76_8 {L : sl_L} : sl_Go xs N 76 8 L st σ Q ↔ sl_Go xs N 76 9 L (.inl (-1) :: st) σ Q := gk_const rfl
theorem g76_9 {L : sl_L} : sl_Go xs N 76 9 L st σ Q ↔ sl_Go xs N 76 10 L (.inl 2 :: st) σ Q := gk_const rfl
theorem g76_10 {L : sl_L} {x0 : Int32} {x1 : Int32} {x2 : Int32} : sl_Go xs N 76 10 L (.inl x2 :: .inl x1 :: .inl x0 :: st) σ Q ↔ sl_cw st ≤ 8 ∧ sl_Go xs N 81 0 [some (.inl x0), some (.inl x1), some (.inl x2)] [] σ (fun r τ => sl_Go xs N 76 13 L (r.toList ++ st) τ Q) := gk_call rfl (Nat.le_add_left 3 st.length) rfl rfl rfl rfl (Nat.le_of_ble_eq_true rfl)
theorem g76_13 {L : sl_L} {x : Int32} : sl_Go xs N 76 13 L (.inl x :: st) σ Q ↔ (¬ x = 0 → sl_Go xs N 76 19 L st σ Q) ∧ (x = 0 → sl_Go xs N 76 16 L st σ Q) := gk_zne rfl
theorem g76_16 {L : sl_L} : sl_Go xs N 76 16 L st σ Q ↔ sl_Go xs N 76 18 L (.inl (-2) :: st) σ Q := gk_const rfl
theorem g76_18 {L : sl_L} {x : Int32} : sl_Go xs N 76 18 L [.inl x] σ Q ↔ Q (some (.inl x)) σ := gk_iret rfl
theorem g76_19 {x : Int32} {a0 a1 a3 : Option sl_V} : sl_Go xs N 76 19 [a0, a1, some (.inl x), a3] st σ Q ↔ sl_Go xs N 76 20 [a0, a1, some (.inl x), a3] (.inl x :: st) σ Q := gk_iload rfl rfl
theorem g76_20 {L : sl_L} : sl_Go xs N 76 20 L st σ Q ↔ sl_Go xs N 76 21 L (.inl (-1) :: st) σ Q := gk_const rfl
theorem g76_21 {L : sl_L} {x y : Int32} : sl_Go xs N 76 21 L (.inl y :: .inl x :: st) σ Q ↔ (¬ x = y → sl_Go xs N 76 37 L st σ Q) ∧ (x = y → sl_Go xs N 76 24 L st σ Q) := gk_ine rfl
theorem g76_24 {x : sl_R} {a1 a2 a3 : Option sl_V} : sl_Go xs N 76 24 [some (.inr (.inr x)), a1, a2, a3] st σ Q ↔ sl_Go xs N 76 25 [some (.inr (.inr x)), a1, a2, a3] (.inr (.inr x) :: st) σ Q := gk_aload rfl rfl
theorem g76_25 {L : sl_L} {i t : Nat} : sl_Go xs N 76 25 L (.inr (.inr (0, i, t)) :: st) σ Q ↔ sl_Go xs N 76 28 L (.inr (.inr (29, 0, 0)) :: st) σ Q := gk_get (g := .inr (29, 0, 0)) rfl rfl rfl
theorem g76_28 {x : Int32} {a0 a2 a3 : Option sl_V} : sl_Go xs N 76 28 [a0, some (.inl x), a2, a3] st σ Q ↔ sl_Go xs N 76 29 [a0, some (.inl x), a2, a3] (.inl x :: st) σ Q := gk_iload rfl rfl
theorem g76_29 {L : sl_L} {j : Int32} {r : sl_R} : sl_Go xs N 76 29 L (.inl j :: .inr (.inr r) :: st) σ Q ↔ (0 ≤ j.toInt ∧ j.toInt < sl_rlen r) ∧ sl_Go xs N 76 30 L (.inr (.inr (sl_rg r j.toNatClampNeg)) :: st) σ Q := gk_aald rfl
theorem g76_30 {L : sl_L} : sl_Go xs N 76 30 L st σ Q ↔ sl_Go xs N 76 31 L (.inl (-1) :: st) σ Q := gk_const rfl
theorem g76_31 {L : sl_L} : sl_Go xs N 76 31 L st σ Q ↔ sl_Go xs N 76 32 L (.inl 0 :: st) σ Q := gk_const rfl
theorem g76_32 {L : sl_L} {x0 : Int32} {x1 : Int32} {i t : Nat} : sl_Go xs N 76 32 L (.inl x1 :: .inl x0 :: .inr (.inr (30, i, t)) :: st) σ Q ↔ sl_cw st ≤ 8 ∧ sl_Go xs N 29 0 [some (.inr (.inr (30, i, t))), some (.inl x0), some (.inl x1)] [] σ (fun r τ => sl_Go xs N 76 35 L (r.toList ++ st) τ Q) := gk_call rfl (Nat.le_add_left 3 st.length) rfl rfl rfl rfl (Nat.le_of_ble_eq_true rfl)
theorem g76_35 {L : sl_L} : sl_Go xs N 76 35 L st σ Q ↔ sl_Go xs N 76 36 L (.inl 1 :: st) σ Q := gk_const rfl
theorem g76_36 {L : sl_L} {x : Int32} : sl_Go xs N 76 36 L [.inl x] σ Q ↔ Q (some (.inl x)) σ := gk_iret rfl
theorem g76_37 {x : Int32} {a0 a1 a2 : Option sl_V} : sl_Go xs N 76 37 [a0, a1, a2, some (.inl x)] st σ Q ↔ sl_Go xs N 76 38 [a0, a1, a2, some (.inl x)] (.inl x :: st) σ Q := gk_iload rfl rfl
theorem g76_38 {L : sl_L} : sl_Go xs N 76 38 L st σ Q ↔ sl_Go xs N 76 40 L (.inl 40 :: st) σ Q := gk_const rfl
theorem g76_40 {L : sl_L} {x y : Int32} : sl_Go xs N 76 40 L (.inl y :: .inl x :: st) σ Q ↔ (x ≤ y → sl_Go xs N 76 46 L st σ Q) ∧ (¬ x ≤ y → sl_Go xs N 76 43 L st σ Q) := gk_ile rfl
theorem g76_43 {L : sl_L} : sl_Go xs N 76 43 L st σ Q ↔ sl_Go xs N 76 45 L (.inl (-2) :: st) σ Q := gk_const rfl
theorem g76_45 {L : sl_L} {x : Int32} : sl_Go xs N 76 45 L [.inl x] σ Q ↔ Q (some (.inl x)) σ := gk_iret rfl
theorem g76_46 {x : Int32} {a0 a1 a2 : Option sl_V} : sl_Go xs N 76 46 [a0, a1, a2, some (.inl x)] st σ Q ↔ sl_Go xs N 76 47 [a0, a1, a2, some (.inl x)] (.inl x :: st) σ Q := gk_iload rfl rfl
theorem g76_47 {L : sl_L} {x : Int32} : sl_Go xs N 76 47 L (.inl x :: st) σ Q ↔ (0 ≤ x → sl_Go xs N 76 53 L st σ Q) ∧ (¬ 0 ≤ x → sl_Go xs N 76 50 L st σ Q) := gk_zge rfl
theorem g76_50 {L : sl_L} : sl_Go xs N 76 50 L st σ Q ↔ sl_Go xs N 76 52 L (.inl (-14) :: st) σ Q := gk_const rfl
theorem g76_52 {L : sl_L} {x : Int32} : sl_Go xs N 76 52 L [.inl x] σ Q ↔ Q (some (.inl x)) σ := gk_iret rfl
theorem g76_53 {x : sl_R} {a1 a2 a3 : Option sl_V} : sl_Go xs N 76 53 [some (.inr (.inr x)), a1, a2, a3] st σ Q ↔ sl_Go xs N 76 54 [some (.inr (.inr x)), a1, a2, a3] (.inr (.inr x) :: st) σ Q := gk_aload rfl rfl
theorem g76_54 {L : sl_L} {i t : Nat} : sl_Go xs N 76 54 L (.inr (.inr (0, i, t)) :: st) σ Q ↔ sl_Go xs N 76 57 L (.inr (.inr (29, 0, 0)) :: st) σ Q := gk_get (g := .inr (29, 0, 0)) rfl rfl rfl
theorem g76_57 {x : Int32} {a0 a2 a3 : Option sl_V} : sl_Go xs N 76 57 [a0, some (.inl x), a2, a3] st σ Q ↔ sl_Go xs N 76 58 [a0, some (.inl x), a2, a3] (.inl x :: st) σ Q := gk_iload rfl rfl
theorem g76_58 {L : sl_L} {j : Int32} {r : sl_R} : sl_Go xs N 76 58 L (.inl j :: .inr (.inr r) :: st) σ Q ↔ (0 ≤ j.toInt ∧ j.toInt < sl_rlen r) ∧ sl_Go xs N 76 59 L (.inr (.inr (sl_rg r j.toNatClampNeg)) :: st) σ Q := gk_aald rfl
theorem g76_59 {x : Int32} {a0 a1 a3 : Option sl_V} : sl_Go xs N 76 59 [a0, a1, some (.inl x), a3] st σ Q ↔ sl_Go xs N 76 60 [a0, a1, some (.inl x), a3] (.inl x :: st) σ Q := gk_iload rfl rfl
theorem g76_60 {x : Int32} {a0 a1 a2 : Option sl_V} : sl_Go xs N 76 60 [a0, a1, a2, some (.inl x)] st σ Q ↔ sl_Go xs N 76 61 [a0, a1, a2, some (.inl x)] (.inl x :: st) σ Q := gk_iload rfl rfl
theorem g76_61 {L : sl_L} {x0 : Int32} {x1 : Int32} {i t : Nat} : sl_Go xs N 76 61 L (.inl x1 :: .inl x0 :: .inr (.inr (30, i, t)) :: st) σ Q ↔ sl_cw st ≤ 8 ∧ sl_Go xs N 29 0 [some (.inr (.inr (30, i, t))), some (.inl x0), some (.inl x1)] [] σ (fun r τ => sl_Go xs N 76 64 L (r.toList ++ st) τ Q) := gk_call rfl (Nat.le_add_left 3 st.length) rfl rfl rfl rfl (Nat.le_of_ble_eq_true rfl)
theorem g76_64 {L : sl_L} : sl_Go xs N 76 64 L st σ Q ↔ sl_Go xs N 76 65 L (.inl 1 :: st) σ Q := gk_const rfl
theorem g76_65 {L : sl_L} {x : Int32} : sl_Go xs N 76 65 L [.inl x] σ Q ↔ Q (some (.inl x)) σ := gk_iret rfl
theorem g77_0 {x : Int32} {a0 a2 a3 : Option sl_V} : sl_Go xs N 77 0 [a0, some (.inl x), a2, a3] st σ Q ↔ sl_Go xs N 77 1 [a0, some (.inl x), a2, a3] (.inl x :: st) σ Q := gk_iload rfl rfl
theorem g77_1 {L : sl_L} {x0 : Int32} : sl_Go xs N 77 1 L (.inl x0 :: st) σ Q ↔ sl_cw st ≤ 8 ∧ sl_Go xs N 83 0 [some (.inl x0)] [] σ (fun r τ => sl_Go xs N 77 4 L (r.toList ++ st) τ Q) := gk_call rfl (Nat.le_add_left 1 st.length) rfl rfl rfl rfl (Nat.le_of_ble_eq_true rfl)
theorem g77_4 {L : sl_L} {x : Int32} : sl_Go xs N 77 4 L (.inl x :: st) σ Q ↔ (¬ x = 0 → sl_Go xs N 77 10 L st σ Q) ∧ (x = 0 → sl_Go xs N 77 7 L st σ Q) := gk_zne rfl
theorem g77_7 {L : sl_L} : sl_Go xs N 77 7 L st σ Q ↔ sl_Go xs N 77 9 L (.inl (-2) :: st) σ Q := gk_const rfl
theorem g77_9 {L : sl_L} {x : Int32} : sl_Go xs N 77 9 L [.inl x] σ Q ↔ Q (some (.inl x)) σ := gk_iret rfl
theorem g77_10 {x : sl_R} {a1 a2 a3 : Option sl_V} : sl_Go xs N 77 10 [some (.inr (.inr x)), a1, a2, a3] st σ Q ↔ sl_Go xs N 77 11 [some (.inr (.inr x)), a1, a2, a3] (.inr (.inr x) :: st) σ Q := gk_aload rfl rfl
theorem g77_11 {L : sl_L} {i t : Nat} : sl_Go xs N 77 11 L (.inr (.inr (0, i, t)) :: st) σ Q ↔ sl_Go xs N 77 14 L (.inr (.inr (29, 0, 0)) :: st) σ Q := gk_get (g := .inr (29, 0, 0)) rfl rfl rfl
theorem g77_14 {x : Int32} {a0 a2 a3 : Option sl_V} : sl_Go xs N 77 14 [a0, some (.inl x), a2, a3] st σ Q ↔ sl_Go xs N 77 15 [a0, some (.inl x), a2, a3] (.inl x :: st) σ Q := gk_iload rfl rfl
theorem g77_15 {L : sl_L} {j : Int32} {r : sl_R} : sl_Go xs N 77 15 L (.inl j :: .inr (.inr r) :: st) σ Q ↔ (0 ≤ j.toInt ∧ j.toInt < sl_rlen r) ∧ sl_Go xs N 77 16 L (.inr (.inr (sl_rg r j.toNatClampNeg)) :: st) σ Q := gk_aald rfl
theorem g77_16 {L : sl_L} {i t : Nat} : sl_Go xs N 77 16 L (.inr (.inr (30, i, t)) :: st) σ Q ↔ sl_cw st ≤ 8 ∧ sl_Go xs N 28 0 [some (.inr (.inr (30, i, t)))] [] σ (fun r τ => sl_Go xs N 77 19 L (r.toList ++ st) τ Q) := gk_call rfl (Nat.le_add_left 1 st.length) rfl rfl rfl rfl (Nat.le_of_ble_eq_true rfl)
theorem g77_19 {L : sl_L} {x : Int32} : sl_Go xs N 77 19 L (.inl x :: st) σ Q ↔ (x = 0 → sl_Go xs N 77 25 L st σ Q) ∧ (¬ x = 0 → sl_Go xs N 77 22 L st σ Q) := gk_zeq rfl
theorem g77_22 {L : sl_L} : sl_Go xs N 77 22 L st σ Q ↔ sl_Go xs N 77 24 L (.inl (-11) :: st) σ Q := gk_const rfl
theorem g77_24 {L : sl_L} {x : Int32} : sl_Go xs N 77 24 L [.inl x] σ Q ↔ Q (some (.inl x)) σ := gk_iret rfl
theorem g77_25 {x : sl_R} {a1 a2 a3 : Option sl_V} : sl_Go xs N 77 25 [some (.inr (.inr x)), a1, a2, a3] st σ Q ↔ sl_Go xs N 77 26 [some (.inr (.inr x)), a1, a2, a3] (.inr (.inr x) :: st) σ Q := gk_aload rfl rfl
theorem g77_26 {L : sl_L} {i t : Nat} : sl_Go xs N 77 26 L (.inr (.inr (0, i, t)) :: st) σ Q ↔ sl_Go xs N 77 29 L (.inr (.inr (29, 0, 0)) :: st) σ Q := gk_get (g := .inr (29, 0, 0)) rfl rfl rfl
theorem g77_29 {x : Int32} {a0 a2 a3 : Option sl_V} : sl_Go xs N 77 29 [a0, some (.inl x), a2, a3] st σ Q ↔ sl_Go xs N 77 30 [a0, some (.inl x), a2, a3] (.inl x :: st) σ Q := gk_iload rfl rfl
theorem g77_30 {L : sl_L} {j : Int32} {r : sl_R} : sl_Go xs N 77 30 L (.inl j :: .inr (.inr r) :: st) σ Q ↔ (0 ≤ j.toInt ∧ j.toInt < sl_rlen r) ∧ sl_Go xs N 77 31 L (.inr (.inr (sl_rg r j.toNatClampNeg)) :: st) σ Q := gk_aald rfl
theorem g77_31 {x : Int32} {a0 a1 a3 : Option sl_V} : sl_Go xs N 77 31 [a0, a1, some (.inl x), a3] st σ Q ↔ sl_Go xs N 77 32 [a0, a1, some (.inl x), a3] (.inl x :: st) σ Q := gk_iload rfl rfl
theorem g77_32 {L : sl_L} : sl_Go xs N 77 32 L st σ Q ↔ sl_Go xs N 77 33 L (.inl 1 :: st) σ Q := gk_const rfl
theorem g77_33 {L : sl_L} {x0 : Int32} {x1 : Int32} {i t : Nat} : sl_Go xs N 77 33 L (.inl x1 :: .inl x0 :: .inr (.inr (30, i, t)) :: st) σ Q ↔ sl_cw st ≤ 8 ∧ sl_Go xs N 30 0 [some (.inr (.inr (30, i, t))), some (.inl x0), some (.inl x1)] [] σ (fun r τ => sl_Go xs N 77 36 L (r.toList ++ st) τ Q) := gk_call rfl (Nat.le_add_left 3 st.length) rfl rfl rfl rfl (Nat.le_of_ble_eq_true rfl)
theorem g77_36 {L : sl_L} {x : Int32} : sl_Go xs N 77 36 L (.inl x :: st) σ Q ↔ (¬ x = 0 → sl_Go xs N 77 42 L st σ Q) ∧ (x = 0 → sl_Go xs N 77 39 L st σ Q) := gk_zne rfl
theorem g77_39 {L : sl_L} : sl_Go xs N 77 39 L st σ Q ↔ sl_Go xs N 77 41 L (.inl (-12) :: st) σ Q := gk_const rfl
theorem g77_41 {L : sl_L} {x : Int32} : sl_Go xs N 77 41 L [.inl x] σ Q ↔ Q (some (.inl x)) σ := gk_iret rfl
theorem g77_42 {x : sl_R} {a1 a2 a3 : Option sl_V} : sl_Go xs N 77 42 [some (.inr (.inr x)), a1, a2, a3] st σ Q ↔ sl_Go xs N 77 43 [some (.inr (.inr x)), a1, a2, a3] (.inr (.inr x) :: st) σ Q := gk_aload rfl rfl
theorem g77_43 {L : sl_L} {i t : Nat} : sl_Go xs N 77 43 L (.inr (.inr (0, i, t)) :: st) σ Q ↔ sl_Go xs N 77 46 L (.inr (.inr (29, 0, 0)) :: st) σ Q := gk_get (g := .inr (29, 0, 0)) rfl rfl rfl
theorem g77_46 {x : Int32} {a0 a2 a3 : Option sl_V} : sl_Go xs N 77 46 [a0, some (.inl x), a2, a3] st σ Q ↔ sl_Go xs N 77 47 [a0, some (.inl x), a2, a3] (.inl x :: st) σ Q := gk_iload rfl rfl
theorem g77_47 {L : sl_L} {j : Int32} {r : sl_R} : sl_Go xs N 77 47 L (.inl j :: .inr (.inr r) :: st) σ Q ↔ (0 ≤ j.toInt ∧ j.toInt < sl_rlen r) ∧ sl_Go xs N 77 48 L (.inr (.inr (sl_rg r j.toNatClampNeg)) :: st) σ Q := gk_aald rfl
theorem g77_48 {x : Int32} {a0 a1 a3 : Option sl_V} : sl_Go xs N 77 48 [a0, a1, some (.inl x), a3] st σ Q ↔ sl_Go xs N 77 49 [a0, a1, some (.inl x), a3] (.inl x :: st) σ Q := gk_iload rfl rfl
theorem g77_49 {x : Int32} {a0 a1 a2 : Option sl_V} : sl_Go xs N 77 49 [a0, a1, a2, some (.inl x)] st σ Q ↔ sl_Go xs N 77 50 [a0, a1, a2, some (.inl x)] (.inl x :: st) σ Q := gk_iload rfl rfl
theorem g77_50 {L : sl_L} {x0 : Int32} {x1 : Int32} {i t : Nat} : sl_Go xs N 77 50 L (.inl x1 :: .inl x0 :: .inr (.inr (30, i, t)) :: st) σ Q ↔ sl_cw st ≤ 8 ∧ sl_Go xs N 31 0 [some (.inr (.inr (30, i, t))), some (.inl x0), some (.inl x1)] [] σ (fun r τ => sl_Go xs N 77 53 L (r.toList ++ st) τ Q) := gk_call rfl (Nat.le_add_left 3 st.length) rfl rfl rfl rfl (Nat.le_of_ble_eq_true rfl)
theorem g77_53 {L : sl_L} : sl_Go xs N 77 53 L st σ Q ↔ sl_Go xs N 77 54 L (.inl 1 :: st) σ Q := gk_const rfl
theorem g77_54 {L : sl_L} {x : Int32} : sl_Go xs N 77 54 L [.inl x] σ Q ↔ Q (some (.inl x)) σ := gk_iret rfl
theorem g78_0 {x : Int32} {a0 a2 a3 a4 a5 a6 a7 : Option sl_V} : sl_Go xs N 78 0 [a0, some (.inl x), a2, a3, a4, a5, a6, a7] st σ Q ↔ sl_Go xs N 78 1 [a0, some (.inl x), a2, a3, a4, a5, a6, a7] (.inl x :: st) σ Q := gk_iload rfl rfl
theorem g78_1 {L : sl_L} {x0 : Int32} : sl_Go xs N 78 1 L (.inl x0 :: st) σ Q ↔ sl_cw st ≤ 8 ∧ sl_Go xs N 83 0 [some (.inl x0)] [] σ (fun r τ => sl_Go xs N 78 4 L (r.toList ++ st) τ Q) := gk_call rfl (Nat.le_add_left 1 st.length) rfl rfl rfl rfl (Nat.le_of_ble_eq_true rfl)
theorem g78_4 {L : sl_L} {x : Int32} : sl_Go xs N 78 4 L (.inl x :: st) σ Q ↔ (x = 0 → sl_Go xs N 78 14 L st σ Q) ∧ (¬ x = 0 → sl_Go xs N 78 7 L st σ Q) := gk_zeq rfl
theorem g78_7 {x : Int32} {a0 a1 a2 a4 a5 a6 a7 : Option sl_V} : sl_Go xs N 78 7 [a0, a1, a2, some (.inl x), a4, a5, a6, a7] st σ Q ↔ sl_Go xs N 78 8 [a0, a1, a2, some (.inl x), a4, a5, a6, a7] (.inl x :: st) σ Q := gk_iload rfl rfl
theorem g78_8 {L : sl_L} {x0 : Int32} : sl_Go xs N 78 8 L (.inl x0 :: st) σ Q ↔ sl_cw st ≤ 8 ∧ sl_Go xs N 83 0 [some (.inl x0)] [] σ (fun r τ => sl_Go xs N 78 11 L (r.toList ++ st) τ Q) := gk_call rfl (Nat.le_add_left 1 st.length) rfl rfl rfl rfl (Nat.le_of_ble_eq_true rfl)
theorem g78_11 {L : sl_L} {x : Int32} : sl_Go xs N 78 11 L (.inl x :: st) σ Q ↔ (¬ x = 0 → sl_Go xs N 78 17 L st σ Q) ∧ (x = 0 → sl_Go xs N 78 14 L st σ Q) := gk_zne rfl
theorem g78_14 {L : sl_L} : sl_Go xs N 78 14 L st σ Q ↔ sl_Go xs N 78 16 L (.inl (-2) :: st) σ Q := gk_const rfl
theorem g78_16 {L : sl_L} {x : Int32} : sl_Go xs N 78 16 L [.inl x] σ Q ↔ Q (some (.inl x)) σ := gk_iret rfl
theorem g78_17 {x : sl_R} {a1 a2 a3 a4 a5 a6 a7 : Option sl_V} : sl_Go xs N 78 17 [some (.inr (.inr x)), a1, a2, a3, a4, a5, a6, a7] st σ Q ↔ sl_Go xs N 78 18 [some (.inr (.inr x)), a1, a2, a3, a4, a5, a6, a7] (.inr (.inr x) :: st) σ Q := gk_aload rfl rfl
theorem g78_18 {L : sl_L} {i t : Nat} : sl_Go xs N 78 18 L (.inr (.inr (0, i, t)) :: st) σ Q ↔ sl_Go xs N 78 21 L (.inr (.inr (29, 0, 0)) :: st) σ Q := gk_get (g := .inr (29, 0, 0)) rfl rfl rfl
theorem g78_21 {x : Int32} {a0 a2 a3 a4 a5 a6 a7 : Option sl_V} : sl_Go xs N 78 21 [a0, some (.inl x), a2, a3, a4, a5, a6, a7] st σ Q ↔ sl_Go xs N 78 22 [a0, some (.inl x), a2, a3, a4, a5, a6, a7] (.inl x :: st) σ Q := gk_iload rfl rfl
theorem g78_22 {L : sl_L} {j : Int32} {r : sl_R} : sl_Go xs N 78 22 L (.inl j :: .inr (.inr r) :: st) σ Q ↔ (0 ≤ j.toInt ∧ j.toInt < sl_rlen r) ∧ sl_Go xs N 78 23 L (.inr (.inr (sl_rg r j.toNatClampNeg)) :: st) σ Q := gk_aald rfl
theorem g78_23n {x : sl_R} {a0 a1 a2 a3 a4 a6 a7 : Option sl_V} : sl_Go xs N 78 23 [a0, a1, a2, a3, a4, none, a6, a7] (.inr (.inr x) :: st) σ Q ↔ sl_Go xs N 78 25 [a0, a1, a2, a3, a4, none, some (.inr (.inr x)), a7] st σ Q := gk_astore rfl ⟨Nat.le_of_ble_eq_true rfl, rfl⟩ rfl
theorem g78_23i {x : sl_R} {z : Int32} {a0 a1 a2 a3 a4 a6 a7 : Option sl_V} : sl_Go xs N 78 23 [a0, a1, a2, a3, a4, some (.inl z), a6, a7] (.inr (.inr x) :: st) σ Q ↔ sl_Go xs N 78 25 [a0, a1, a2, a3, a4, some (.inl z), some (.inr (.inr x)), a7] st σ Q := gk_astore rfl ⟨Nat.le_of_ble_eq_true rfl, rfl⟩ rfl
theorem g78_23r {x : sl_R} {z : sl_R} {a0 a1 a2 a3 a4 a6 a7 : Option sl_V} : sl_Go xs N 78 23 [a0, a1, a2, a3, a4, some (.inr (.inr z)), a6, a7] (.inr (.inr x) :: st) σ Q ↔ sl_Go xs N 78 25 [a0, a1, a2, a3, a4, some (.inr (.inr z)), some (.inr (.inr x)), a7] st σ Q := gk_astore rfl ⟨Nat.le_of_ble_eq_true rfl, rfl⟩ rfl
theorem g78_25 {x : sl_R} {a1 a2 a3 a4 a5 a6 a7 : Option sl_V} : sl_Go xs N 78 25 [some (.inr (.inr x)), a1, a2, a3, a4, a5, a6, a7] st σ Q ↔ sl_Go xs N 78 26 [some (.inr (.inr x)), a1, a2, a3, a4, a5, a6, a7] (.inr (.inr x) :: st) σ Q := gk_aload rfl rfl
theorem g78_26 {L : sl_L} {i t : Nat} : sl_Go xs N 78 26 L (.inr (.inr (0, i, t)) :: st) σ Q ↔ sl_Go xs N 78 29 L (.inr (.inr (29, 0, 0)) :: st) σ Q := gk_get (g := .inr (29, 0, 0)) rfl rfl rfl
theorem g78_29 {x : Int32} {a0 a1 a2 a4 a5 a6 a7 : Option sl_V} : sl_Go xs N 78 29 [a0, a1, a2, some (.inl x), a4, a5, a6, a7] st σ Q ↔ sl_Go xs N 78 30 [a0, a1, a2, some (.inl x), a4, a5, a6, a7] (.inl x :: st) σ Q := gk_iload rfl rfl
theorem g78_30 {L : sl_L} {j : Int32} {r : sl_R} : sl_Go xs N 78 30 L (.inl j :: .inr (.inr r) :: st) σ Q ↔ (0 ≤ j.toInt ∧ j.toInt < sl_rlen r) ∧ sl_Go xs N 78 31 L (.inr (.inr (sl_rg r j.toNatClampNeg)) :: st) σ Q := gk_aald rfl
theorem g78_31n {x : sl_R} {a0 a1 a2 a3 a4 a5 a7 : Option sl_V} : sl_Go xs N 78 31 [a0, a1, a2, a3, a4, a5, none, a7] (.inr (.inr x) :: st) σ Q ↔ sl_Go xs N 78 33 [a0, a1, a2, a3, a4, a5, none, some (.inr (.inr x))] st σ Q := gk_astore rfl ⟨Nat.le_of_ble_eq_true rfl, rfl⟩ rfl
theorem g78_31i {x : sl_R} {z : Int32} {a0 a1 a2 a3 a4 a5 a7 : Option sl_V} : sl_Go xs N 78 31 [a0, a1, a2, a3, a4, a5, some (.inl z), a7] (.inr (.inr x) :: st) σ Q ↔ sl_Go xs N 78 33 [a0, a1, a2, a3, a4, a5, some (.inl z), some (.inr (.inr x))] st σ Q := gk_astore rfl ⟨Nat.le_of_ble_eq_true rfl, rfl⟩ rfl
theorem g78_31r {x : sl_R} {z : sl_R} {a0 a1 a2 a3 a4 a5 a7 : Option sl_V} : sl_Go xs N 78 31 [a0, a1, a2, a3, a4, a5, some (.inr (.inr z)), a7] (.inr (.inr x) :: st) σ Q ↔ sl_Go xs N 78 33 [a0, a1, a2, a3, a4, a5, some (.inr (.inr z)), some (.inr (.inr x))] st σ Q := gk_astore rfl ⟨Nat.le_of_ble_eq_true rfl, rfl⟩ rfl
theorem g78_33 {x : sl_R} {a0 a1 a2 a3 a4 a5 a7 : Option sl_V} : sl_Go xs N 78 33 [a0, a1, a2, a3, a4, a5, some (.inr (.inr x)), a7] st σ Q ↔ sl_Go xs N 78 35 [a0, a1, a2, a3, a4, a5, some (.inr (.inr x)), a7] (.inr (.inr x) :: st) σ Q := gk_aload rfl rfl
theorem g78_35 {L : sl_L} {i t : Nat} : sl_Go xs N 78 35 L (.inr (.inr (30, i, t)) :: st) σ Q ↔ sl_cw st ≤ 8 ∧ sl_Go xs N 28 0 [some (.inr (.inr (30, i, t)))] [] σ (fun r τ => sl_Go xs N 78 38 L (r.toList ++ st) τ Q) := gk_call rfl (Nat.le_add_left 1 st.length) rfl rfl rfl rfl (Nat.le_of_ble_eq_true rfl)
theorem g78_38 {L : sl_L} {x : Int32} : sl_Go xs N 78 38 L (.inl x :: st) σ Q ↔ (¬ x = 0 → sl_Go xs N 78 49 L st σ Q) ∧ (x = 0 → sl_Go xs N 78 41 L st σ Q) := gk_zne rfl
theorem g78_41 {x : sl_R} {a0 a1 a2 a3 a4 a5 a6 : Option sl_V} : sl_Go xs N 78 41 [a0, a1, a2, a3, a4, a5, a6, some (.inr (.inr x))] st σ Q ↔ sl_Go xs N 78 43 [a0, a1, a2, a3, a4, a5, a6, some (.inr (.inr x))] (.inr (.inr x) :: st) σ Q := gk_aload rfl rfl
theorem g78_43 {L : sl_L} {i t : Nat} : sl_Go xs N 78 43 L (.inr (.inr (30, i, t)) :: st) σ Q ↔ sl_cw st ≤ 8 ∧ sl_Go xs N 28 0 [some (.inr (.inr (30, i, t)))] [] σ (fun r τ => sl_Go xs N 78 46 L (r.toList ++ st) τ Q) := gk_call rfl (Nat.le_add_left 1 st.length) rfl rfl rfl rfl (Nat.le_of_ble_eq_true rfl)
theorem g78_46 {L : sl_L} {x : Int32} : sl_Go xs N 78 46 L (.inl x :: st) σ Q ↔ (x = 0 → sl_Go xs N 78 52 L st σ Q) ∧ (¬ x = 0 → sl_Go xs N 78 49 L st σ Q) := gk_zeq rfl
theorem g78_49 {L : sl_L} : sl_Go xs N 78 49 L st σ Q ↔ sl_Go xs N 78 51 L (.inl (-11) :: st) σ Q := gk_const rfl
theorem g78_51 {L : sl_L} {x : Int32} : sl_Go xs N 78 51 L [.inl x] σ Q ↔ Q (some (.inl x)) σ := gk_iret rfl
theorem g78_52 {x : sl_R} {a0 a1 a2 a3 a4 a5 a7 : Option sl_V} : sl_Go xs N 78 52 [a0, a1, a2, a3, a4, a5, some (.inr (.inr x)), a7] st σ Q ↔ sl_Go xs N 78 54 [a0, a1, a2, a3, a4, a5, some (.inr (.inr x)), a7] (.inr (.inr x) :: st) σ Q := gk_aload rfl rfl
theorem g78_54 {L : sl_L} {i t : Nat} : sl_Go xs N 78 54 L (.inr (.inr (30, i, t)) :: st) σ Q ↔ sl_Go xs N 78 57 L (.inl (σ 7 11 t) :: st) σ Q := gk_get (g := .inl (7, 11, t)) rfl rfl rfl
theorem g78_57 {x : sl_R} {a0 a1 a2 a3 a4 a5 a6 : Option sl_V} : sl_Go xs N 78 57 [a0, a1, a2, a3, a4, a5, a6, some (.inr (.inr x))] st σ Q ↔ sl_Go xs N 78 59 [a0, a1, a2, a3, a4, a5, a6, some (.inr (.inr x))] (.inr (.inr x) :: st) σ Q := gk_aload rfl rfl
theorem g78_59 {L : sl_L} {i t : Nat} : sl_Go xs N 78 59 L (.inr (.inr (30, i, t)) :: st) σ Q ↔ sl_Go xs N 78 62 L (.inl (σ 7 11 t) :: st) σ Q := gk_get (g := .inl (7, 11, t)) rfl rfl rfl
theorem g78_62 {L : sl_L} {x y : Int32} : sl_Go xs N 78 62 L (.inl y :: .inl x :: st) σ Q ↔ (x = y → sl_Go xs N 78 68 L st σ Q) ∧ (¬ x = y → sl_Go xs N 78 65 L st σ Q) := gk_ieq rfl
theorem g78_65 {L : sl_L} : sl_Go xs N 78 65 L st σ Q ↔ sl_Go xs N 78 67 L (.inl (-13) :: st) σ Q := gk_const rfl
theorem g78_67 {L : sl_L} {x : Int32} : sl_Go xs N 78 67 L [.inl x] σ Q ↔ Q (some (.inl x)) σ := gk_iret rfl
theorem g78_68 {x : sl_R} {a0 a1 a2 a3 a4 a5 a7 : Option sl_V} : sl_Go xs N 78 68 [a0, a1, a2, a3, a4, a5, some (.inr (.inr x)), a7] st σ Q ↔ sl_Go xs N 78 70 [a0, a1, a2, a3, a4, a5, some (.inr (.inr x)), a7] (.inr (.inr x) :: st) σ Q := gk_aload rfl rfl
theorem g78_70 {x : Int32} {a0 a1 a3 a4 a5 a6 a7 : Option sl_V} : sl_Go xs N 78 70 [a0, a1, some (.inl x), a3, a4, a5, a6, a7] st σ Q ↔ sl_Go xs N 78 71 [a0, a1, some (.inl x), a3, a4, a5, a6, a7] (.inl x :: st) σ Q := gk_iload rfl rfl
theorem g78_71 {x : Int32} {a0 a1 a2 a3 a4 a6 a7 : Option sl_V} : sl_Go xs N 78 71 [a0, a1, a2, a3, a4, some (.inl x), a6, a7] st σ Q ↔ sl_Go xs N 78 73 [a0, a1, a2, a3, a4, some (.inl x), a6, a7] (.inl x :: st) σ Q := gk_iload rfl rfl
theorem g78_73 {L : sl_L} {x0 : Int32} {x1 : Int32} {i t : Nat} : sl_Go xs N 78 73 L (.inl x1 :: .inl x0 :: .inr (.inr (30, i, t)) :: st) σ Q ↔ sl_cw st ≤ 8 ∧ sl_Go xs N 30 0 [some (.inr (.inr (30, i, t))), some (.inl x0), some (.inl x1)] [] σ (fun r τ => sl_Go xs N 78 76 L (r.toList ++ st) τ Q) := gk_call rfl (Nat.le_add_left 3 st.length) rfl rfl rfl rfl (Nat.le_of_ble_eq_true rfl)
theorem g78_76 {L : sl_L} {x : Int32} : sl_Go xs N 78 76 L (.inl x :: st) σ Q ↔ (x = 0 → sl_Go xs N 78 91 L st σ Q) ∧ (¬ x = 0 → sl_Go xs N 78 79 L st σ Q) := gk_zeq rfl
theorem g78_79 {x : sl_R} {a0 a1 a2 a3 a4 a5 a6 : Option sl_V} : sl_Go xs N 78 79 [a0, a1, a2, a3, a4, a5, a6, some (.inr (.inr x))] st σ Q ↔ sl_Go xs N 78 81 [a0, a1, a2, a3, a4, a5, a6, some (.inr (.inr x))] (.inr (.inr x) :: st) σ Q := gk_aload rfl rfl
theorem g78_81 {x : Int32} {a0 a1 a2 a3 a5 a6 a7 : Option sl_V} : sl_Go xs N 78 81 [a0, a1, a2, a3, some (.inl x), a5, a6, a7] st σ Q ↔ sl_Go xs N 78 83 [a0, a1, a2, a3, some (.inl x), a5, a6, a7] (.inl x :: st) σ Q := gk_iload rfl rfl
theorem g78_83 {x : Int32} {a0 a1 a2 a3 a4 a6 a7 : Option sl_V} : sl_Go xs N 78 83 [a0, a1, a2, a3, a4, some (.inl x), a6, a7] st σ Q ↔ sl_Go xs N 78 85 [a0, a1, a2, a3, a4, some (.inl x), a6, a7] (.inl x :: st) σ Q := gk_iload rfl rfl
theorem g78_85 {L : sl_L} {x0 : Int32} {x1 : Int32} {i t : Nat} : sl_Go xs N 78 85 L (.inl x1 :: .inl x0 :: .inr (.inr (30, i, t)) :: st) σ Q ↔ sl_cw st ≤ 8 ∧ sl_Go xs N 30 0 [some (.inr (.inr (30, i, t))), some (.inl x0), some (.inl x1)] [] σ (fun r τ => sl_Go xs N 78 88 L (r.toList ++ st) τ Q) := gk_call rfl (Nat.le_add_left 3 st.length) rfl rfl rfl rfl (Nat.le_of_ble_eq_true rfl)
theorem g78_88 {L : sl_L} {x : Int32} : sl_Go xs N 78 88 L (.inl x :: st) σ Q ↔ (¬ x = 0 → sl_Go xs N 78 94 L st σ Q) ∧ (x = 0 → sl_Go xs N 78 91 L st σ Q) := gk_zne rfl
theorem g78_91 {L : sl_L} : sl_Go xs N 78 91 L st σ Q ↔ sl_Go xs N 78 93 L (.inl (-12) :: st) σ Q := gk_const rfl
theorem g78_93 {L : sl_L} {x : Int32} : sl_Go xs N 78 93 L [.inl x] σ Q ↔ Q (some (.inl x)) σ := gk_iret rfl
theorem g78_94 {x : sl_R} {a0 a1 a2 a3 a4 a5 a7 : Option sl_V} : sl_Go xs N 78 94 [a0, a1, a2, a3, a4, a5, some (.inr (.inr x)), a7] st σ Q ↔ sl_Go xs N 78 96 [a0, a1, a2, a3, a4, a5, some (.inr (.inr x)), a7] (.inr (.inr x) :: st) σ Q := gk_aload rfl rfl
theorem g78_96 {L : sl_L} {i t : Nat} : sl_Go xs N 78 96 L (.inr (.inr (30, i, t)) :: st) σ Q ↔ sl_Go xs N 78 99 L (.inr (.inr (31, 0, t)) :: st) σ Q := gk_get (g := .inr (31, 0, t)) rfl rfl rfl
theorem g78_99 {x : Int32} {a0 a1 a3 a4 a5 a6 a7 : Option sl_V} : sl_Go xs N 78 99 [a0, a1, some (.inl x), a3, a4, a5, a6, a7] st σ Q ↔ sl_Go xs N 78 100 [a0, a1, some (.inl x), a3, a4, a5, a6, a7] (.inl x :: st) σ Q := gk_iload rfl rfl
theorem g78_100 {x : sl_R} {a0 a1 a2 a3 a4 a5 a6 : Option sl_V} : sl_Go xs N 78 100 [a0, a1, a2, a3, a4, a5, a6, some (.inr (.inr x))] st σ Q ↔ sl_Go xs N 78 102 [a0, a1, a2, a3, a4, a5, a6, some (.inr (.inr x))] (.inr (.inr x) :: st) σ Q := gk_aload rfl rfl
theorem g78_102 {L : sl_L} {i t : Nat} : sl_Go xs N 78 102 L (.inr (.inr (30, i, t)) :: st) σ Q ↔ sl_Go xs N 78 105 L (.inr (.inr (31, 0, t)) :: st) σ Q := gk_get (g := .inr (31, 0, t)) rfl rfl rfl
theorem g78_105 {x : Int32} {a0 a1 a2 a3 a5 a6 a7 : Option sl_V} : sl_Go xs N 78 105 [a0, a1, a2, a3, some (.inl x), a5, a6, a7] st σ Q ↔ sl_Go xs N 78 107 [a0, a1, a2, a3, some (.inl x), a5, a6, a7] (.inl x :: st) σ Q := gk_iload rfl rfl
theorem g78_107 {x : Int32} {a0 a1 a2 a3 a4 a6 a7 : Option sl_V} : sl_Go xs N 78 107 [a0, a1, a2, a3, a4, some (.inl x), a6, a7] st σ Q ↔ sl_Go xs N 78 109 [a0, a1, a2, a3, a4, some (.inl x), a6, a7] (.inl x :: st) σ Q := gk_iload rfl rfl
theorem g78_109 {L : sl_L} {i j n : Int32} {q r : sl_R} : sl_Go xs N 78 109 L (.inl n :: .inl j :: .inr (.inr r) :: .inl i :: .inr (.inr q) :: st) σ Q ↔ (0 ≤ n.toInt ∧ 0 ≤ i.toInt ∧ 0 ≤ j.toInt ∧ i.toInt + n.toInt ≤ sl_wlen q 0 ∧ j.toInt + n.toInt ≤ sl_wlen r 0 ∧ sl_cw st ≤ 8 ∧ 0 < sl_wlen q 0 ∧ 0 < sl_wlen r 0) ∧ sl_Go xs N 78 112 L st (sl_cp σ q r i.toNatClampNeg j.toNatClampNeg n.toNatClampNeg) Q := gk_copy rfl
theorem g78_112 {x : Int32} {a0 a1 a2 a3 a4 a6 a7 : Option sl_V} : sl_Go xs N 78 112 [a0, a1, a2, a3, a4, some (.inl x), a6, a7] st σ Q ↔ sl_Go xs N 78 114 [a0, a1, a2, a3, a4, some (.inl x), a6, a7] (.inl x :: st) σ Q := gk_iload rfl rfl
theorem g78_114 {L : sl_L} {x : Int32} : sl_Go xs N 78 114 L [.inl x] σ Q ↔ Q (some (.inl x)) σ := gk_iret rfl
theorem g79_0 {x : Int32} {a0 a2 a3 a4 a5 a6 a7 a8 a9 : Option sl_V} : sl_Go xs N 79 0 [a0, some (.inl x), a2, a3, a4, a5, a6, a7, a8, a9] st σ Q ↔ sl_Go xs N 79 1 [a0, some (.inl x), a2, a3, a4, a5, a6, a7, a8, a9] (.inl x :: st) σ Q := gk_iload rfl rfl
theorem g79_1 {L : sl_L} {x0 : Int32} : sl_Go xs N 79 1 L (.inl x0 :: st) σ Q ↔ sl_cw st ≤ 8 ∧ sl_Go xs N 83 0 [some (.inl x0)] [] σ (fun r τ => sl_Go xs N 79 4 L (r.toList ++ st) τ Q) := gk_call rfl (Nat.le_add_left 1 st.length) rfl rfl rfl rfl (Nat.le_of_ble_eq_true rfl)
theorem g79_4 {L : sl_L} {x : Int32} : sl_Go xs N 79 4 L (.inl x :: st) σ Q ↔ (x = 0 → sl_Go xs N 79 27 L st σ Q) ∧ (¬ x = 0 → sl_Go xs N 79 7 L st σ Q) := gk_zeq rfl
theorem g79_7 {x : Int32} {a0 a1 a3 a4 a5 a6 a7 a8 a9 : Option sl_V} : sl_Go xs N 79 7 [a0, a1, some (.inl x), a3, a4, a5, a6, a7, a8, a9] st σ Q ↔ sl_Go xs N 79 8 [a0, a1, some (.inl x), a3, a4, a5, a6, a7, a8, a9] (.inl x :: st) σ Q := gk_iload rfl rfl
theorem g79_8 {L : sl_L} : sl_Go xs N 79 8 L st σ Q ↔ sl_Go xs N 79 9 L (.inl 0 :: st) σ Q := gk_const rfl
theorem g79_9 {L : sl_L} : sl_Go xs N 79 9 L st σ Q ↔ sl_Go xs N 79 10 L (.inl 2 :: st) σ Q := gk_const rfl
theorem g79_10 {L : sl_L} {x0 : Int32} {x1 : Int32} {x2 : Int32} : sl_Go xs N 79 10 L (.inl x2 :: .inl x1 :: .inl x0 :: st) σ Q ↔ sl_cw st ≤ 8 ∧ sl_Go xs N 81 0 [some (.inl x0), some (.inl x1), some (.inl x2)] [] σ (fun r τ => sl_Go xs N 79 13 L (r.toList ++ st) τ Q) := gk_call rfl (Nat.le_add_left 3 st.length) rfl rfl rfl rfl (Nat.le_of_ble_eq_true rfl)
theorem g79_13 {L : sl_L} {x : Int32} : sl_Go xs N 79 13 L (.inl x :: st) σ Q ↔ (x = 0 → sl_Go xs N 79 27 L st σ Q) ∧ (¬ x = 0 → sl_Go xs N 79 16 L st σ Q) := gk_zeq rfl
theorem g79_16 {x : Int32} {a0 a1 a2 a3 a5 a6 a7 a8 a9 : Option sl_V} : sl_Go xs N 79 16 [a0, a1, a2, a3, some (.inl x), a5, a6, a7, a8, a9] st σ Q ↔ sl_Go xs N 79 18 [a0, a1, a2, a3, some (.inl x), a5, a6, a7, a8, a9] (.inl x :: st) σ Q := gk_iload rfl rfl
theorem g79_18 {L : sl_L} : sl_Go xs N 79 18 L st σ Q ↔ sl_Go xs N 79 19 L (.inl 0 :: st) σ Q := gk_const rfl
theorem g79_19 {L : sl_L} : sl_Go xs N 79 19 L st σ Q ↔ sl_Go xs N 79 21 L (.inl 10 :: st) σ Q := gk_const rfl
theorem g79_21 {L : sl_L} {x0 : Int32} {x1 : Int32} {x2 : Int32} : sl_Go xs N 79 21 L (.inl x2 :: .inl x1 :: .inl x0 :: st) σ Q ↔ sl_cw st ≤ 8 ∧ sl_Go xs N 81 0 [some (.inl x0), some (.inl x1), some (.inl x2)] [] σ (fun r τ => sl_Go xs N 79 24 L (r.toList ++ st) τ Q) := gk_call rfl (Nat.le_add_left 3 st.length) rfl rfl rfl rfl (Nat.le_of_ble_eq_true rfl)
theorem g79_24 {L : sl_L} {x : Int32} : sl_Go xs N 79 24 L (.inl x :: st) σ Q ↔ (¬ x = 0 → sl_Go xs N 79 30 L st σ Q) ∧ (x = 0 → sl_Go xs N 79 27 L st σ Q) := gk_zne rfl
theorem g79_27 {L : sl_L} : sl_Go xs N 79 27 L st σ Q ↔ sl_Go xs N 79 29 L (.inl (-2) :: st) σ Q := gk_const rfl
theorem g79_29 {L : sl_L} {x : Int32} : sl_Go xs N 79 29 L [.inl x] σ Q ↔ Q (some (.inl x)) σ := gk_iret rfl
theorem g79_30 {x : sl_R} {a1 a2 a3 a4 a5 a6 a7 a8 a9 : Option sl_V} : sl_Go xs N 79 30 [some (.inr (.inr x)), a1, a2, a3, a4, a5, a6, a7, a8, a9] st σ Q ↔ sl_Go xs N 79 31 [some (.inr (.inr x)), a1, a2, a3, a4, a5, a6, a7, a8, a9] (.inr (.inr x) :: st) σ Q := gk_aload rfl rfl
theorem g79_31 {L : sl_L} {i t : Nat} : sl_Go xs N 79 31 L (.inr (.inr (0, i, t)) :: st) σ Q ↔ sl_Go xs N 79 34 L (.inr (.inr (29, 0, 0)) :: st) σ Q := gk_get (g := .inr (29, 0, 0)) rfl rfl rfl
theorem g79_34 {x : Int32} {a0 a2 a3 a4 a5 a6 a7 a8 a9 : Option sl_V} : sl_Go xs N 79 34 [a0, some (.inl x), a2, a3, a4, a5, a6, a7, a8, a9] st σ Q ↔ sl_Go xs N 79 35 [a0, some (.inl x), a2, a3, a4, a5, a6, a7, a8, a9] (.inl x :: st) σ Q := gk_iload rfl rfl
theorem g79_35 {L : sl_L} {j : Int32} {r : sl_R} : sl_Go xs N 79 35 L (.inl j :: .inr (.inr r) :: st) σ Q ↔ (0 ≤ j.toInt ∧ j.toInt < sl_rlen r) ∧ sl_Go xs N 79 36 L (.inr (.inr (sl_rg r j.toNatClampNeg)) :: st) σ Q := gk_aald rfl
theorem g79_36n {x : sl_R} {a0 a1 a2 a3 a5 a6 a7 a8 a9 : Option sl_V} : sl_Go xs N 79 36 [a0, a1, a2, a3, none, a5, a6, a7, a8, a9] (.inr (.inr x) :: st) σ Q ↔ sl_Go xs N 79 38 [a0, a1, a2, a3, none, some (.inr (.inr x)), a6, a7, a8, a9] st σ Q := gk_astore rfl ⟨Nat.le_of_ble_eq_true rfl, rfl⟩ rfl
theorem g79_36i {x : sl_R} {z : Int32} {a0 a1 a2 a3 a5 a6 a7 a8 a9 : Option sl_V} : sl_Go xs N 79 36 [a0, a1, a2, a3, some (.inl z), a5, a6, a7, a8, a9] (.inr (.inr x) :: st) σ Q ↔ sl_Go xs N 79 38 [a0, a1, a2, a3, some (.inl z), some (.inr (.inr x)), a6, a7, a8, a9] st σ Q := gk_astore rfl ⟨Nat.le_of_ble_eq_true rfl, rfl⟩ rfl
theorem g79_36r {x : sl_R} {z : sl_R} {a0 a1 a2 a3 a5 a6 a7 a8 a9 : Option sl_V} : sl_Go xs N 79 36 [a0, a1, a2, a3, some (.inr (.inr z)), a5, a6, a7, a8, a9] (.inr (.inr x) :: st) σ Q ↔ sl_Go xs N 79 38 [a0, a1, a2, a3, some (.inr (.inr z)), some (.inr (.inr x)), a6, a7, a8, a9] st σ Q := gk_astore rfl ⟨Nat.le_of_ble_eq_true rfl, rfl⟩ rfl
theorem g79_38 {x : sl_R} {a0 a1 a2 a3 a4 a6 a7 a8 a9 : Option sl_V} : sl_Go xs N 79 38 [a0, a1, a2, a3, a4, some (.inr (.inr x)), a6, a7, a8, a9] st σ Q ↔ sl_Go xs N 79 40 [a0, a1, a2, a3, a4, some (.inr (.inr x)), a6, a7, a8, a9] (.inr (.inr x) :: st) σ Q := gk_aload rfl rfl
theorem g79_40 {L : sl_L} {i t : Nat} : sl_Go xs N 79 40 L (.inr (.inr (30, i, t)) :: st) σ Q ↔ sl_cw st ≤ 8 ∧ sl_Go xs N 28 0 [some (.inr (.inr (30, i, t)))] [] σ (fun r τ => sl_Go xs N 79 43 L (r.toList ++ st) τ Q) := gk_call rfl (Nat.le_add_left 1 st.length) rfl rfl rfl rfl (Nat.le_of_ble_eq_true rfl)
theorem g79_43 {L : sl_L} {x : Int32} : sl_Go xs N 79 43 L (.inl x :: st) σ Q ↔ (x = 0 → sl_Go xs N 79 49 L st σ Q) ∧ (¬ x = 0 → sl_Go xs N 79 46 L st σ Q) := gk_zeq rfl
theorem g79_46 {L : sl_L} : sl_Go xs N 79 46 L st σ Q ↔ sl_Go xs N 79 48 L (.inl (-11) :: st) σ Q := gk_const rfl
theorem g79_48 {L : sl_L} {x : Int32} : sl_Go xs N 79 48 L [.inl x] σ Q ↔ Q (some (.inl x)) σ := gk_iret rfl
theorem g79_49 {x : sl_R} {a0 a1 a2 a3 a4 a6 a7 a8 a9 : Option sl_V} : sl_Go xs N 79 49 [a0, a1, a2, a3, a4, some (.inr (.inr x)), a6, a7, a8, a9] st σ Q ↔ sl_Go xs N 79 51 [a0, a1, a2, a3, a4, some (.inr (.inr x)), a6, a7, a8, a9] (.inr (.inr x) :: st) σ Q := gk_aload rfl rfl
theorem g79_51 {L : sl_L} {i t : Nat} : sl_Go xs N 79 51 L (.inr (.inr (30, i, t)) :: st) σ Q ↔ sl_Go xs N 79 54 L (.inl (σ 7 11 t) :: st) σ Q := gk_get (g := .inl (7, 11, t)) rfl rfl rfl
theorem g79_54 {x : Int32} {a0 a1 a3 a4 a5 a6 a7 a8 a9 : Option sl_V} : sl_Go xs N 79 54 [a0, a1, some (.inl x), a3, a4, a5, a6, a7, a8, a9] st σ Q ↔ sl_Go xs N 79 55 [a0, a1, some (.inl x), a3, a4, a5, a6, a7, a8, a9] (.inl x :: st) σ Q := gk_iload rfl rfl
theorem g79_55 {L : sl_L} {x y : Int32} : sl_Go xs N 79 55 L (.inl y :: .inl x :: st) σ Q ↔ (x = y → sl_Go xs N 79 61 L st σ Q) ∧ (¬ x = y → sl_Go xs N 79 58 L st σ Q) := gk_ieq rfl
theorem g79_58 {L : sl_L} : sl_Go xs N 79 58 L st σ Q ↔ sl_Go xs N 79 60 L (.inl (-13) :: st) σ Q := gk_const rfl
theorem g79_60 {L : sl_L} {x : Int32} : sl_Go xs N 79 60 L [.inl x] σ Q ↔ Q (some (.inl x)) σ := gk_iret rfl
theorem g79_61 {L : sl_L} : sl_Go xs N 79 61 L st σ Q ↔ sl_Go xs N 79 62 L (.inl 0 :: st) σ Q := gk_const rfl
theorem g79_62n {x : Int32} {a0 a1 a2 a3 a4 a6 a7 a8 a9 : Option sl_V} : sl_Go xs N 79 62 [a0, a1, a2, a3, a4, none, a6, a7, a8, a9] (.inl x :: st) σ Q ↔ sl_Go xs N 79 64 [a0, a1, a2, a3, a4, none, some (.inl x), a7, a8, a9] st σ Q := gk_istore rfl ⟨Nat.le_of_ble_eq_true rfl, rfl⟩ rfl
theorem g79_62i {x : Int32} {z : Int32} {a0 a1 a2 a3 a4 a6 a7 a8 a9 : Option sl_V} : sl_Go xs N 79 62 [a0, a1, a2, a3, a4, some (.inl z), a6, a7, a8, a9] (.inl x :: st) σ Q ↔ sl_Go xs N 79 64 [a0, a1, a2, a3, a4, some (.inl z), some (.inl x), a7, a8, a9] st σ Q := gk_istore rfl ⟨Nat.le_of_ble_eq_true rfl, rfl⟩ rfl
theorem g79_62r {x : Int32} {z : sl_R} {a0 a1 a2 a3 a4 a6 a7 a8 a9 : Option sl_V} : sl_Go xs N 79 62 [a0, a1, a2, a3, a4, some (.inr (.inr z)), a6, a7, a8, a9] (.inl x :: st) σ Q ↔ sl_Go xs N 79 64 [a0, a1, a2, a3, a4, some (.inr (.inr z)), some (.inl x), a7, a8, a9] st σ Q := gk_istore rfl ⟨Nat.le_of_ble_eq_true rfl, rfl⟩ rfl
theorem g79_64 {L : sl_L} : sl_Go xs N 79 64 L st σ Q ↔ sl_Go xs N 79 65 L (.inl 0 :: st) σ Q := gk_const rfl
theorem g79_65n {x : Int32} {a0 a1 a2 a3 a4 a5 a7 a8 a9 : Option sl_V} : sl_Go xs N 79 65 [a0, a1, a2, a3, a4, a5, none, a7, a8, a9] (.inl x :: st) σ Q ↔ sl_Go xs N 79 67 [a0, a1, a2, a3, a4, a5, none, some (.inl x), a8, a9] st σ Q := gk_istore rfl ⟨Nat.le_of_ble_eq_true rfl, rfl⟩ rfl
theorem g79_65i {x : Int32} {z : Int32} {a0 a1 a2 a3 a4 a5 a7 a8 a9 : Option sl_V} : sl_Go xs N 79 65 [a0, a1, a2, a3, a4, a5, some (.inl z), a7, a8, a9] (.inl x :: st) σ Q ↔ sl_Go xs N 79 67 [a0, a1, a2, a3, a4, a5, some (.inl z), some (.inl x), a8, a9] st σ Q := gk_istore rfl ⟨Nat.le_of_ble_eq_true rfl, rfl⟩ rfl
theorem g79_65r {x : Int32} {z : sl_R} {a0 a1 a2 a3 a4 a5 a7 a8 a9 : Option sl_V} : sl_Go xs N 79 65 [a0, a1, a2, a3, a4, a5, some (.inr (.inr z)), a7, a8, a9] (.inl x :: st) σ Q ↔ sl_Go xs N 79 67 [a0, a1, a2, a3, a4, a5, some (.inr (.inr z)), some (.inl x), a8, a9] st σ Q := gk_istore rfl ⟨Nat.le_of_ble_eq_true rfl, rfl⟩ rfl
theorem g79_67 {x : Int32} {a0 a1 a2 a3 a4 a5 a6 a8 a9 : Option sl_V} : sl_Go xs N 79 67 [a0, a1, a2, a3, a4, a5, a6, some (.inl x), a8, a9] st σ Q ↔ sl_Go xs N 79 69 [a0, a1, a2, a3, a4, a5, a6, some (.inl x), a8, a9] (.inl x :: st) σ Q := gk_iload rfl rfl
theorem g79_69 {x : Int32} {a0 a1 a2 a3 a5 a6 a7 a8 a9 : Option sl_V} : sl_Go xs N 79 69 [a0, a1, a2, a3, some (.inl x), a5, a6, a7, a8, a9] st σ Q ↔ sl_Go xs N 79 71 [a0, a1, a2, a3, some (.inl x), a5, a6, a7, a8, a9] (.inl x :: st) σ Q := gk_iload rfl rfl
theorem g79_71 {L : sl_L} {x y : Int32} : sl_Go xs N 79 71 L (.inl y :: .inl x :: st) σ Q ↔ (y ≤ x → sl_Go xs N 79 148 L st σ Q) ∧ (¬ y ≤ x → sl_Go xs N 79 74 L st σ Q) := gk_ige rfl
theorem g79_74 {x : Int32} {a0 a1 a2 a4 a5 a6 a7 a8 a9 : Option sl_V} : sl_Go xs N 79 74 [a0, a1, a2, some (.inl x), a4, a5, a6, a7, a8, a9] st σ Q ↔ sl_Go xs N 79 75 [a0, a1, a2, some (.inl x), a4, a5, a6, a7, a8, a9] (.inl x :: st) σ Q := gk_iload rfl rfl
theorem g79_75 {L : sl_L} : sl_Go xs N 79 75 L st σ Q ↔ sl_Go xs N 79 76 L (.inl 4 :: st) σ Q := gk_const rfl
theorem g79_76 {x : Int32} {a0 a1 a2 a3 a4 a5 a6 a8 a9 : Option sl_V} : sl_Go xs N 79 76 [a0, a1, a2, a3, a4, a5, a6, some (.inl x), a8, a9] st σ Q ↔ sl_Go xs N 79 78 [a0, a1, a2, a3, a4, a5, a6, some (.inl x), a8, a9] (.inl x :: st) σ Q := gk_iload rfl rfl
theorem g79_78 {L : sl_L} {x y : Int32} : sl_Go xs N 79 78 L (.inl y :: .inl x :: st) σ Q ↔ sl_Go xs N 79 79 L (.inl (x * y) :: st) σ Q := gk_bin (b := 10) rfl
theorem g79_79 {L : sl_L} {x y : Int32} : sl_Go xs N 79 79 L (.inl y :: .inl x :: st) σ Q ↔ sl_Go xs N 79 80 L (.inl (x + y) :: st) σ Q := gk_bin (b := 8) rfl
theorem g79_80n {x : Int32} {a0 a1 a2 a3 a4 a5 a6 a8 a9 : Option sl_V} : sl_Go xs N 79 80 [a0, a1, a2, a3, a4, a5, a6, none, a8, a9] (.inl x :: st) σ Q ↔ sl_Go xs N 79 82 [a0, a1, a2, a3, a4, a5, a6, none, some (.inl x), a9] st σ Q := gk_istore rfl ⟨Nat.le_of_ble_eq_true rfl, rfl⟩ rfl
theorem g79_80i {x : Int32} {z : Int32} {a0 a1 a2 a3 a4 a5 a6 a8 a9 : Option sl_V} : sl_Go xs N 79 80 [a0, a1, a2, a3, a4, a5, a6, some (.inl z), a8, a9] (.inl x :: st) σ Q ↔ sl_Go xs N 79 82 [a0, a1, a2, a3, a4, a5, a6, some (.inl z), some (.inl x), a9] st σ Q := gk_istore rfl ⟨Nat.le_of_ble_eq_true rfl, rfl⟩ rfl
theorem g79_80r {x : Int32} {z : sl_R} {a0 a1 a2 a3 a4 a5 a6 a8 a9 : Option sl_V} : sl_Go xs N 79 80 [a0, a1, a2, a3, a4, a5, a6, some (.inr (.inr z)), a8, a9] (.inl x :: st) σ Q ↔ sl_Go xs N 79 82 [a0, a1, a2, a3, a4, a5, a6, some (.inr (.inr z)), some (.inl x), a9] st σ Q := gk_istore rfl ⟨Nat.le_of_ble_eq_true rfl, rfl⟩ rfl
theorem g79_82 {x : sl_R} {a0 a1 a2 a3 a4 a6 a7 a8 a9 : Option sl_V} : sl_Go xs N 79 82 [a0, a1, a2, a3, a4, some (.inr (.inr x)), a6, a7, a8, a9] st σ Q ↔ sl_Go xs N 79 84 [a0, a1, a2, a3, a4, some (.inr (.inr x)), a6, a7, a8, a9] (.inr (.inr x) :: st) σ Q := gk_aload rfl rfl
theorem g79_84 {x : Int32} {a0 a1 a2 a3 a4 a5 a6 a7 a9 : Option sl_V} : sl_Go xs N 79 84 [a0, a1, a2, a3, a4, a5, a6, a7, some (.inl x), a9] st σ Q ↔ sl_Go xs N 79 86 [a0, a1, a2, a3, a4, a5, a6, a7, some (.inl x), a9] (.inl x :: st) σ Q := gk_iload rfl rfl
theorem g79_86 {L : sl_L} : sl_Go xs N 79 86 L st σ Q ↔ sl_Go xs N 79 87 L (.inl 4 :: st) σ Q := gk_const rfl
theorem g79_87 {L : sl_L} {x0 : Int32} {x1 : Int32} {i t : Nat} : sl_Go xs N 79 87 L (.inl x1 :: .inl x0 :: .inr (.inr (30, i, t)) :: st) σ Q ↔ sl_cw st ≤ 8 ∧ sl_Go xs N 30 0 [some (.inr (.inr (30, i, t))), some (.inl x0), some (.inl x1)] [] σ (fun r τ => sl_Go xs N 79 90 L (r.toList ++ st) τ Q) := gk_call rfl (Nat.le_add_left 3 st.length) rfl rfl rfl rfl (Nat.le_of_ble_eq_true rfl)
theorem g79_90 {L : sl_L} {x : Int32} : sl_Go xs N 79 90 L (.inl x :: st) σ Q ↔ (¬ x = 0 → sl_Go xs N 79 96 L st σ Q) ∧ (x = 0 → sl_Go xs N 79 93 L st σ Q) := gk_zne rfl
theorem g79_93 {L : sl_L} : sl_Go xs N 79 93 L st σ Q ↔ sl_Go xs N 79 95 L (.inl (-12) :: st) σ Q := gk_const rfl
theorem g79_95 {L : sl_L} {x : Int32} : sl_Go xs N 79 95 L [.inl x] σ Q ↔ Q (some (.inl x)) σ := gk_iret rfl
theorem g79_96 {x : sl_R} {a0 a1 a2 a3 a4 a6 a7 a8 a9 : Option sl_V} : sl_Go xs N 79 96 [a0, a1, a2, a3, a4, some (.inr (.inr x)), a6, a7, a8, a9] st σ Q ↔ sl_Go xs N 79 98 [a0, a1, a2, a3, a4, some (.inr (.inr x)), a6, a7, a8, a9] (.inr (.inr x) :: st) σ Q := gk_aload rfl rfl
theorem g79_98 {L : sl_L} {i t : Nat} : sl_Go xs N 79 98 L (.inr (.inr (30, i, t)) :: st) σ Q ↔ sl_Go xs N 79 101 L (.inr (.inr (31, 0, t)) :: st) σ Q := gk_get (g := .inr (31, 0, t)) rfl rfl rfl
theorem g79_101n {x : sl_R} {a0 a1 a2 a3 a4 a5 a6 a7 a9 : Option sl_V} : sl_Go xs N 79 101 [a0, a1, a2, a3, a4, a5, a6, a7, none, a9] (.inr (.inr x) :: st) σ Q ↔ sl_Go xs N 79 103 [a0, a1, a2, a3, a4, a5, a6, a7, none, some (.inr (.inr x))] st σ Q := gk_astore rfl ⟨Nat.le_of_ble_eq_true rfl, rfl⟩ rfl
theorem g79_101i {x : sl_R} {z : Int32} {a0 a1 a2 a3 a4 a5 a6 a7 a9 : Option sl_V} : sl_Go xs N 79 101 [a0, a1, a2, a3, a4, a5, a6, a7, some (.inl z), a9] (.inr (.inr x) :: st) σ Q ↔ sl_Go xs N 79 103 [a0, a1, a2, a3, a4, a5, a6, a7, some (.inl z), some (.inr (.inr x))] st σ Q := gk_astore rfl ⟨Nat.le_of_ble_eq_true rfl, rfl⟩ rfl
theorem g79_101r {x : sl_R} {z : sl_R} {a0 a1 a2 a3 a4 a5 a6 a7 a9 : Option sl_V} : sl_Go xs N 79 101 [a0, a1, a2, a3, a4, a5, a6, a7, some (.inr (.inr z)), a9] (.inr (.inr x) :: st) σ Q ↔ sl_Go xs N 79 103 [a0, a1, a2, a3, a4, a5, a6, a7, some (.inr (.inr z)), some (.inr (.inr x))] st σ Q := gk_astore rfl ⟨Nat.le_of_ble_eq_true rfl, rfl⟩ rfl
theorem g79_103 {x : sl_R} {a1 a2 a3 a4 a5 a6 a7 a8 a9 : Option sl_V} : sl_Go xs N 79 103 [some (.inr (.inr x)), a1, a2, a3, a4, a5, a6, a7, a8, a9] st σ Q ↔ sl_Go xs N 79 104 [some (.inr (.inr x)), a1, a2, a3, a4, a5, a6, a7, a8, a9] (.inr (.inr x) :: st) σ Q := gk_aload rfl rfl
theorem g79_104 {L : sl_L} {i t : Nat} : sl_Go xs N 79 104 L (.inr (.inr (0, i, t)) :: st) σ Q ↔ sl_Go xs N 79 107 L (.inr (.inr (11, 0, 0)) :: st) σ Q := gk_get (g := .inr (11, 0, 0)) rfl rfl rfl
theorem g79_107 {x : sl_R} {a0 a1 a2 a3 a4 a5 a6 a7 a8 : Option sl_V} : sl_Go xs N 79 107 [a0, a1, a2, a3, a4, a5, a6, a7, a8, some (.inr (.inr x))] st σ Q ↔ sl_Go xs N 79 109 [a0, a1, a2, a3, a4, a5, a6, a7, a8, some (.inr (.inr x))] (.inr (.inr x) :: st) σ Q := gk_aload rfl rfl
theorem g79_109 {x : Int32} {a0 a1 a2 a3 a4 a5 a6 a7 a9 : Option sl_V} : sl_Go xs N 79 109 [a0, a1, a2, a3, a4, a5, a6, a7, some (.inl x), a9] st σ Q ↔ sl_Go xs N 79 111 [a0, a1, a2, a3, a4, a5, a6, a7, some (.inl x), a9] (.inl x :: st) σ Q := gk_iload rfl rfl
theorem g79_111 {L : sl_L} {j : Int32} {r : sl_R} : sl_Go xs N 79 111 L (.inl j :: .inr (.inr r) :: st) σ Q ↔ (0 ≤ j.toInt ∧ j.toInt < sl_ilen N r) ∧ sl_Go xs N 79 112 L (.inl (sl_rd xs σ r j.toNatClampNeg) :: st) σ Q := gk_iald rfl
theorem g79_112 {x : sl_R} {a0 a1 a2 a3 a4 a5 a6 a7 a8 : Option sl_V} : sl_Go xs N 79 112 [a0, a1, a2, a3, a4, a5, a6, a7, a8, some (.inr (.inr x))] st σ Q ↔ sl_Go xs N 79 114 [a0, a1, a2, a3, a4, a5, a6, a7, a8, some (.inr (.inr x))] (.inr (.inr x) :: st) σ Q := gk_aload rfl rfl
theorem g79_114 {x : Int32} {a0 a1 a2 a3 a4 a5 a6 a7 a9 : Option sl_V} : sl_Go xs N 79 114 [a0, a1, a2, a3, a4, a5, a6, a7, some (.inl x), a9] st σ Q ↔ sl_Go xs N 79 116 [a0, a1, a2, a3, a4, a5, a6, a7, some (.inl x), a9] (.inl x :: st) σ Q := gk_iload rfl rfl
theorem g79_116 {L : sl_L} : sl_Go xs N 79 116 L st σ Q ↔ sl_Go xs N 79 117 L (.inl 1 :: st) σ Q := gk_const rfl
theorem g79_117 {L : sl_L} {x y : Int32} : sl_Go xs N 79 117 L (.inl y :: .inl x :: st) σ Q ↔ sl_Go xs N 79 118 L (.inl (x + y) :: st) σ Q := gk_bin (b := 8) rfl
theorem g79_118 {L : sl_L} {j : Int32} {r : sl_R} : sl_Go xs N 79 118 L (.inl j :: .inr (.inr r) :: st) σ Q ↔ (0 ≤ j.toInt ∧ j.toInt < sl_ilen N r) ∧ sl_Go xs N 79 119 L (.inl (sl_rd xs σ r j.toNatClampNeg) :: st) σ Q := gk_iald rfl
theorem g79_119 {x : sl_R} {a0 a1 a2 a3 a4 a5 a6 a7 a8 : Option sl_V} : sl_Go xs N 79 119 [a0, a1, a2, a3, a4, a5, a6, a7, a8, some (.inr (.inr x))] st σ Q ↔ sl_Go xs N 79 121 [a0, a1, a2, a3, a4, a5, a6, a7, a8, some (.inr (.inr x))] (.inr (.inr x) :: st) σ Q := gk_aload rfl rfl
theorem g79_121 {x : Int32} {a0 a1 a2 a3 a4 a5 a6 a7 a9 : Option sl_V} : sl_Go xs N 79 121 [a0, a1, a2, a3, a4, a5, a6, a7, some (.inl x), a9] st σ Q ↔ sl_Go xs N 79 123 [a0, a1, a2, a3, a4, a5, a6, a7, some (.inl x), a9] (.inl x :: st) σ Q := gk_iload rfl rfl
theorem g79_123 {L : sl_L} : sl_Go xs N 79 123 L st σ Q ↔ sl_Go xs N 79 124 L (.inl 2 :: st) σ Q := gk_const rfl
theorem g79_124 {L : sl_L} {x y : Int32} : sl_Go xs N 79 124 L (.inl y :: .inl x :: st) σ Q ↔ sl_Go xs N 79 125 L (.inl (x + y) :: st) σ Q := gk_bin (b := 8) rfl
theorem g79_125 {L : sl_L} {j : Int32} {r : sl_R} : sl_Go xs N 79 125 L (.inl j :: .inr (.inr r) :: st) σ Q ↔ (0 ≤ j.toInt ∧ j.toInt < sl_ilen N r) ∧ sl_Go xs N 79 126 L (.inl (sl_rd xs σ r j.toNatClampNeg) :: st) σ Q := gk_iald rfl
theorem g79_126 {x : sl_R} {a0 a1 a2 a3 a4 a5 a6 a7 a8 : Option sl_V} : sl_Go xs N 79 126 [a0, a1, a2, a3, a4, a5, a6, a7, a8, some (.inr (.inr x))] st σ Q ↔ sl_Go xs N 79 128 [a0, a1, a2, a3, a4, a5, a6, a7, a8, some (.inr (.inr x))] (.inr (.inr x) :: st) σ Q := gk_aload rfl rfl
theorem g79_128 {x : Int32} {a0 a1 a2 a3 a4 a5 a6 a7 a9 : Option sl_V} : sl_Go xs N 79 128 [a0, a1, a2, a3, a4, a5, a6, a7, some (.inl x), a9] st σ Q ↔ sl_Go xs N 79 130 [a0, a1, a2, a3, a4, a5, a6, a7, some (.inl x), a9] (.inl x :: st) σ Q := gk_iload rfl rfl
theorem g79_130 {L : sl_L} : sl_Go xs N 79 130 L st σ Q ↔ sl_Go xs N 79 131 L (.inl 3 :: st) σ Q := gk_const rfl
theorem g79_131 {L : sl_L} {x y : Int32} : sl_Go xs N 79 131 L (.inl y :: .inl x :: st) σ Q ↔ sl_Go xs N 79 132 L (.inl (x + y) :: st) σ Q := gk_bin (b := 8) rfl
theorem g79_132 {L : sl_L} {j : Int32} {r : sl_R} : sl_Go xs N 79 132 L (.inl j :: .inr (.inr r) :: st) σ Q ↔ (0 ≤ j.toInt ∧ j.toInt < sl_ilen N r) ∧ sl_Go xs N 79 133 L (.inl (sl_rd xs σ r j.toNatClampNeg) :: st) σ Q := gk_iald rfl
theorem g79_133 {L : sl_L} {x0 : Int32} {x1 : Int32} {x2 : Int32} {x3 : Int32} {i t : Nat} : sl_Go xs N 79 133 L (.inl x3 :: .inl x2 :: .inl x1 :: .inl x0 :: .inr (.inr (11, i, t)) :: st) σ Q ↔ sl_cw st ≤ 8 ∧ sl_Go xs N 26 0 [some (.inr (.inr (11, i, t))), some (.inl x0), some (.inl x1), some (.inl x2), some (.inl x3), none] [] σ (fun r τ => sl_Go xs N 79 136 L (r.toList ++ st) τ Q) := gk_call rfl (Nat.le_add_left 5 st.length) rfl rfl rfl rfl (Nat.le_of_ble_eq_true rfl)
theorem g79_136 {L : sl_L} {x : Int32} : sl_Go xs N 79 136 L (.inl x :: st) σ Q ↔ (x < 0 → sl_Go xs N 79 142 L st σ Q) ∧ (¬ x < 0 → sl_Go xs N 79 139 L st σ Q) := gk_zlt rfl
theorem g79_139n {x : Int32} {a0 a1 a2 a3 a4 a7 a8 a9 : Option sl_V} : sl_Go xs N 79 139 [a0, a1, a2, a3, a4, none, some (.inl x), a7, a8, a9] st σ Q ↔ sl_Go xs N 79 142 [a0, a1, a2, a3, a4, none, some (.inl (x + 1)), a7, a8, a9] st σ Q := gk_iinc rfl rfl rfl rfl
theorem g79_139i {x : Int32} {z : Int32} {a0 a1 a2 a3 a4 a7 a8 a9 : Option sl_V} : sl_Go xs N 79 139 [a0, a1, a2, a3, a4, some (.inl z), some (.inl x), a7, a8, a9] st σ Q ↔ sl_Go xs N 79 142 [a0, a1, a2, a3, a4, some (.inl z), some (.inl (x + 1)), a7, a8, a9] st σ Q := gk_iinc rfl rfl rfl rfl
theorem g79_139r {x : Int32} {z : sl_R} {a0 a1 a2 a3 a4 a7 a8 a9 : Option sl_V} : sl_Go xs N 79 139 [a0, a1, a2, a3, a4, some (.inr (.inr z)), some (.inl x), a7, a8, a9] st σ Q ↔ sl_Go xs N 79 142 [a0, a1, a2, a3, a4, some (.inr (.inr z)), some (.inl (x + 1)), a7, a8, a9] st σ Q := gk_iinc rfl rfl rfl rfl
theorem g79_142n {x : Int32} {a0 a1 a2 a3 a4 a5 a8 a9 : Option sl_V} : sl_Go xs N 79 142 [a0, a1, a2, a3, a4, a5, none, some (.inl x), a8, a9] st σ Q ↔ sl_Go xs N 79 145 [a0, a1, a2, a3, a4, a5, none, some (.inl (x + 1)), a8, a9] st σ Q := gk_iinc rfl rfl rfl rfl
theorem g79_142i {x : Int32} {z : Int32} {a0 a1 a2 a3 a4 a5 a8 a9 : Option sl_V} : sl_Go xs N 79 142 [a0, a1, a2, a3, a4, a5, some (.inl z), some (.inl x), a8, a9] st σ Q ↔ sl_Go xs N 79 145 [a0, a1, a2, a3, a4, a5, some (.inl z), some (.inl (x + 1)), a8, a9] st σ Q := gk_iinc rfl rfl rfl rfl
theorem g79_142r {x : Int32} {z : sl_R} {a0 a1 a2 a3 a4 a5 a8 a9 : Option sl_V} : sl_Go xs N 79 142 [a0, a1, a2, a3, a4, a5, some (.inr (.inr z)), some (.inl x), a8, a9] st σ Q ↔ sl_Go xs N 79 145 [a0, a1, a2, a3, a4, a5, some (.inr (.inr z)), some (.inl (x + 1)), a8, a9] st σ Q := gk_iinc rfl rfl rfl rfl
theorem g79_145 {L : sl_L} : sl_Go xs N 79 145 L st σ Q ↔ sl_Go xs N 79 67 L st σ Q := gk_goto rfl
theorem g79_148 {x : Int32} {a0 a1 a2 a3 a4 a5 a7 a8 a9 : Option sl_V} : sl_Go xs N 79 148 [a0, a1, a2, a3, a4, a5, some (.inl x), a7, a8, a9] st σ Q ↔ sl_Go xs N 79 150 [a0, a1, a2, a3, a4, a5, some (.inl x), a7, a8, a9] (.inl x :: st) σ Q := gk_iload rfl rfl
theorem g79_150 {L : sl_L} {x : Int32} : sl_Go xs N 79 150 L [.inl x] σ Q ↔ Q (some (.inl x)) σ := gk_iret rfl
theorem g80_0 {x : Int32} {a0 a2 a3 a4 : Option sl_V} : sl_Go xs N 80 0 [a0, some (.inl x), a2, a3, a4] st σ Q ↔ sl_Go xs N 80 1 [a0, some (.inl x), a2, a3, a4] (.inl x :: st) σ Q := gk_iload rfl rfl
theorem g80_1 {L : sl_L} : sl_Go xs N 80 1 L st σ Q ↔ sl_Go xs N 80 2 L (.inl 0 :: st) σ Q := gk_const rfl
theorem g80_2 {L : sl_L} : sl_Go xs N 80 2 L st σ Q ↔ sl_Go xs N 80 3 L (.inl 2 :: st) σ Q := gk_const rfl
theorem g80_3 {L : sl_L} {x0 : Int32} {x1 : Int32} {x2 : Int32} : sl_Go xs N 80 3 L (.inl x2 :: .inl x1 :: .inl x0 :: st) σ Q ↔ sl_cw st ≤ 8 ∧ sl_Go xs N 81 0 [some (.inl x0), some (.inl x1), some (.inl x2)] [] σ (fun r τ => sl_Go xs N 80 6 L (r.toList ++ st) τ Q) := gk_call rfl (Nat.le_add_left 3 st.length) rfl rfl rfl rfl (Nat.le_of_ble_eq_true rfl)
theorem g80_6 {L : sl_L} {x : Int32} : sl_Go xs N 80 6 L (.inl x :: st) σ Q ↔ (x = 0 → sl_Go xs N 80 19 L st σ Q) ∧ (¬ x = 0 → sl_Go xs N 80 9 L st σ Q) := gk_zeq rfl
theorem g80_9 {x : Int32} {a0 a1 a2 a4 : Option sl_V} : sl_Go xs N 80 9 [a0, a1, a2, some (.inl x), a4] st σ Q ↔ sl_Go xs N 80 10 [a0, a1, a2, some (.inl x), a4] (.inl x :: st) σ Q := gk_iload rfl rfl
theorem g80_10 {L : sl_L} : sl_Go xs N 80 10 L st σ Q ↔ sl_Go xs N 80 11 L (.inl 0 :: st) σ Q := gk_const rfl
theorem g80_11 {L : sl_L} : sl_Go xs N 80 11 L st σ Q ↔ sl_Go xs N 80 13 L (.inl 7 :: st) σ Q := gk_const rfl
theorem g80_13 {L : sl_L} {x0 : Int32} {x1 : Int32} {x2 : Int32} : sl_Go xs N 80 13 L (.inl x2 :: .inl x1 :: .inl x0 :: st) σ Q ↔ sl_cw st ≤ 8 ∧ sl_Go xs N 81 0 [some (.inl x0), some (.inl x1), some (.inl x2)] [] σ (fun r τ => sl_Go xs N 80 16 L (r.toList ++ st) τ Q) := gk_call rfl (Nat.le_add_left 3 st.length) rfl rfl rfl rfl (Nat.le_of_ble_eq_true rfl)
theorem g80_16 {L : sl_L} {x : Int32} : sl_Go xs N 80 16 L (.inl x :: st) σ Q ↔ (¬ x = 0 → sl_Go xs N 80 22 L st σ Q) ∧ (x = 0 → sl_Go xs N 80 19 L st σ Q) := gk_zne rfl
theorem g80_19 {L : sl_L} : sl_Go xs N 80 19 L st σ Q ↔ sl_Go xs N 80 21 L (.inl (-2) :: st) σ Q := gk_const rfl
theorem g80_21 {L : sl_L} {x : Int32} : sl_Go xs N 80 21 L [.inl x] σ Q ↔ Q (some (.inl x)) σ := gk_iret rfl
theorem g80_22 {x : Int32} {a0 a2 a3 a4 : Option sl_V} : sl_Go xs N 80 22 [a0, some (.inl x), a2, a3, a4] st σ Q ↔ sl_Go xs N 80 23 [a0, some (.inl x), a2, a3, a4] (.inl x :: st) σ Q := gk_iload rfl rfl
theorem g80_23 {L : sl_L} {x : Int32} : sl_Go xs N 80 23 L (.inl x :: st) σ Q ↔ (¬ x = 0 → sl_Go xs N 80 36 L st σ Q) ∧ (x = 0 → sl_Go xs N 80 26 L st σ Q) := gk_zne rfl
theorem g80_26 {x : sl_R} {a1 a2 a3 a4 : Option sl_V} : sl_Go xs N 80 26 [some (.inr (.inr x)), a1, a2, a3, a4] st σ Q ↔ sl_Go xs N 80 27 [some (.inr (.inr x)), a1, a2, a3, a4] (.inr (.inr x) :: st) σ Q := gk_aload rfl rfl
theorem g80_27 {L : sl_L} {i t : Nat} : sl_Go xs N 80 27 L (.inr (.inr (0, i, t)) :: st) σ Q ↔ sl_Go xs N 80 30 L (.inr (.inr (11, 0, 0)) :: st) σ Q := gk_get (g := .inr (11, 0, 0)) rfl rfl rfl
theorem g80_30 {L : sl_L} {i t : Nat} : sl_Go xs N 80 30 L (.inr (.inr (11, i, t)) :: st) σ Q ↔ sl_Go xs N 80 33 L (.inl (σ 5 0 0) :: st) σ Q := gk_get (g := .inl (5, 0, 0)) rfl rfl rfl
theorem g80_33 {L : sl_L} : sl_Go xs N 80 33 L st σ Q ↔ sl_Go xs N 80 55 L st σ Q := gk_goto rfl
theorem g80_36 {x : Int32} {a0 a2 a3 a4 : Option sl_V} : sl_Go xs N 80 36 [a0, some (.inl x), a2, a3, a4] st σ Q ↔ sl_Go xs N 80 37 [a0, some (.inl x), a2, a3, a4] (.inl x :: st) σ Q := gk_iload rfl rfl
theorem g80_37 {L : sl_L} : sl_Go xs N 80 37 L st σ Q ↔ sl_Go xs N 80 38 L (.inl 1 :: st) σ Q := gk_const rfl
theorem g80_38 {L : sl_L} {x y : Int32} : sl_Go xs N 80 38 L (.inl y :: .inl x :: st) σ Q ↔ (¬ x = y → sl_Go xs N 80 51 L st σ Q) ∧ (x = y → sl_Go xs N 80 41 L st σ Q) := gk_ine rfl
theorem g80_41 {x : sl_R} {a1 a2 a3 a4 : Option sl_V} : sl_Go xs N 80 41 [some (.inr (.inr x)), a1, a2, a3, a4] st σ Q ↔ sl_Go xs N 80 42 [some (.inr (.inr x)), a1, a2, a3, a4] (.inr (.inr x) :: st) σ Q := gk_aload rfl rfl
theorem g80_42 {L : sl_L} {i t : Nat} : sl_Go xs N 80 42 L (.inr (.inr (0, i, t)) :: st) σ Q ↔ sl_Go xs N 80 45 L (.inr (.inr (11, 0, 0)) :: st) σ Q := gk_get (g := .inr (11, 0, 0)) rfl rfl rfl
theorem g80_45 {L : sl_L} {i t : Nat} : sl_Go xs N 80 45 L (.inr (.inr (11, i, t)) :: st) σ Q ↔ sl_Go xs N 80 48 L (.inl (σ 5 0 2) :: st) σ Q := gk_get (g := .inl (5, 0, 2)) rfl rfl rfl
theorem g80_48 {L : sl_L} : sl_Go xs N 80 48 L st σ Q ↔ sl_Go xs N 80 55 L st σ Q := gk_goto rfl
theorem g80_51 {x : sl_R} {a1 a2 a3 a4 : Option sl_V} : sl_Go xs N 80 51 [some (.inr (.inr x)), a1, a2, a3, a4] st σ Q ↔ sl_Go xs N 80 52 [some (.inr (.inr x)), a1, a2, a3, a4] (.inr (.inr x) :: st) σ Q := gk_aload rfl rfl
theorem g80_52 {L : sl_L} {i t : Nat} : sl_Go xs N 80 52 L (.inr (.inr (0, i, t)) :: st) σ Q ↔ sl_Go xs N 80 55 L (.inl (σ 7 0 1) :: st) σ Q := gk_get (g := .inl (7, 0, 1)) rfl rfl rfl
theorem g80_55n {x : Int32} {a0 a1 a2 a4 : Option sl_V} : sl_Go xs N 80 55 [a0, a1, a2, none, a4] (.inl x :: st) σ Q ↔ sl_Go xs N 80 57 [a0, a1, a2, none, some (.inl x)] st σ Q := gk_istore rfl ⟨Nat.le_of_ble_eq_true rfl, rfl⟩ rfl
theorem g80_55i {x : Int32} {z : Int32} {a0 a1 a2 a4 : Option sl_V} : sl_Go xs N 80 55 [a0, a1, a2, some (.inl z), a4] (.inl x :: st) σ Q ↔ sl_Go xs N 80 57 [a0, a1, a2, some (.inl z), some (.inl x)] st σ Q := gk_istore rfl ⟨Nat.le_of_ble_eq_true rfl, rfl⟩ rfl
theorem g80_55r {x : Int32} {z : sl_R} {a0 a1 a2 a4 : Option sl_V} : sl_Go xs N 80 55 [a0, a1, a2, some (.inr (.inr z)), a4] (.inl x :: st) σ Q ↔ sl_Go xs N 80 57 [a0, a1, a2, some (.inr (.inr z)), some (.inl x)] st σ Q := gk_istore rfl ⟨Nat.le_of_ble_eq_true rfl, rfl⟩ rfl
theorem g80_57 {x : Int32} {a0 a1 a3 a4 : Option sl_V} : sl_Go xs N 80 57 [a0, a1, some (.inl x), a3, a4] st σ Q ↔ sl_Go xs N 80 58 [a0, a1, some (.inl x), a3, a4] (.inl x :: st) σ Q := gk_iload rfl rfl
theorem g80_58 {L : sl_L} : sl_Go xs N 80 58 L st σ Q ↔ sl_Go xs N 80 59 L (.inl 0 :: st) σ Q := gk_const rfl
theorem g80_59 {x : Int32} {a0 a1 a2 a3 : Option sl_V} : sl_Go xs N 80 59 [a0, a1, a2, a3, some (.inl x)] st σ Q ↔ sl_Go xs N 80 61 [a0, a1, a2, a3, some (.inl x)] (.inl x :: st) σ Q := gk_iload rfl rfl
theorem g80_61 {L : sl_L} : sl_Go xs N 80 61 L st σ Q ↔ sl_Go xs N 80 62 L (.inl 1 :: st) σ Q := gk_const rfl
theorem g80_62 {L : sl_L} {x y : Int32} : sl_Go xs N 80 62 L (.inl y :: .inl x :: st) σ Q ↔ sl_Go xs N 80 63 L (.inl (x - y) :: st) σ Q := gk_bin (b := 9) rfl
theorem g80_63 {L : sl_L} {x0 : Int32} {x1 : Int32} {x2 : Int32} : sl_Go xs N 80 63 L (.inl x2 :: .inl x1 :: .inl x0 :: st) σ Q ↔ sl_cw st ≤ 8 ∧ sl_Go xs N 81 0 [some (.inl x0), some (.inl x1), some (.inl x2)] [] σ (fun r τ => sl_Go xs N 80 66 L (r.toList ++ st) τ Q) := gk_call rfl (Nat.le_add_left 3 st.length) rfl rfl rfl rfl (Nat.le_of_ble_eq_true rfl)
theorem g80_66 {L : sl_L} {x : Int32} : sl_Go xs N 80 66 L (.inl x :: st) σ Q ↔ (¬ x = 0 → sl_Go xs N 80 72 L st σ Q) ∧ (x = 0 → sl_Go xs N 80 69 L st σ Q) := gk_zne rfl
theorem g80_69 {L : sl_L} : sl_Go xs N 80 69 L st σ Q ↔ sl_Go xs N 80 71 L (.inl (-11) :: st) σ Q := gk_const rfl
theorem g80_71 {L : sl_L} {x : Int32} : sl_Go xs N 80 71 L [.inl x] σ Q ↔ Q (some (.inl x)) σ := gk_iret rfl
theorem g80_72 {x : Int32} {a0 a2 a3 a4 : Option sl_V} : sl_Go xs N 80 72 [a0, some (.inl x), a2, a3, a4] st σ Q ↔ sl_Go xs N 80 73 [a0, some (.inl x), a2, a3, a4] (.inl x :: st) σ Q := gk_iload rfl rfl
theorem g80_73 {L : sl_L} {x : Int32} : sl_Go xs N 80 73 L (.inl x :: st) σ Q ↔ (¬ x = 0 → sl_Go xs N 80 113 L st σ Q) ∧ (x = 0 → sl_Go xs N 80 76 L st σ Q) := gk_zne rfl
theorem g80_76 {x : sl_R} {a1 a2 a3 a4 : Option sl_V} : sl_Go xs N 80 76 [some (.inr (.inr x)), a1, a2, a3, a4] st σ Q ↔ sl_Go xs N 80 77 [some (.inr (.inr x)), a1, a2, a3, a4] (.inr (.inr x) :: st) σ Q := gk_aload rfl rfl
theorem g80_77 {L : sl_L} {i t : Nat} : sl_Go xs N 80 77 L (.inr (.inr (0, i, t)) :: st) σ Q ↔ sl_Go xs N 80 80 L (.inr (.inr (11, 0, 0)) :: st) σ Q := gk_get (g := .inr (11, 0, 0)) rfl rfl rfl
theorem g80_80 {L : sl_L} {i t : Nat} : sl_Go xs N 80 80 L (.inr (.inr (11, i, t)) :: st) σ Q ↔ sl_Go xs N 80 83 L (.inr (.inr (12, 0, 0)) :: st) σ Q := gk_get (g := .inr (12, 0, 0)) rfl rfl rfl
theorem g80_83 {x : Int32} {a0 a1 a3 a4 : Option sl_V} : sl_Go xs N 80 83 [a0, a1, some (.inl x), a3, a4] st σ Q ↔ sl_Go xs N 80 84 [a0, a1, some (.inl x), a3, a4] (.inl x :: st) σ Q := gk_iload rfl rfl
theorem g80_84 {L : sl_L} {j : Int32} {r : sl_R} : sl_Go xs N 80 84 L (.inl j :: .inr (.inr r) :: st) σ Q ↔ (0 ≤ j.toInt ∧ j.toInt < sl_rlen r) ∧ sl_Go xs N 80 85 L (.inr (.inr (sl_rg r j.toNatClampNeg)) :: st) σ Q := gk_aald rfl
theorem g80_85 {L : sl_L} {i t : Nat} : sl_Go xs N 80 85 L (.inr (.inr (13, i, t)) :: st) σ Q ↔ sl_Go xs N 80 88 L (.inl (σ 5 1 t) :: st) σ Q := gk_get (g := .inl (5, 1, t)) rfl rfl rfl
theorem g80_88 {x : Int32} {a0 a1 a2 a4 : Option sl_V} : sl_Go xs N 80 88 [a0, a1, a2, some (.inl x), a4] st σ Q ↔ sl_Go xs N 80 89 [a0, a1, a2, some (.inl x), a4] (.inl x :: st) σ Q := gk_iload rfl rfl
theorem g80_89 {L : sl_L} {x0 : Int32} {x1 : Int32} : sl_Go xs N 80 89 L (.inl x1 :: .inl x0 :: st) σ Q ↔ sl_cw st ≤ 8 ∧ sl_Go xs N 9 0 [some (.inl x0), some (.inl x1), none, none] [] σ (fun r τ => sl_Go xs N 80 92 L (r.toList ++ st) τ Q) := gk_call rfl (Nat.le_add_left 2 st.length) rfl rfl rfl rfl (Nat.le_of_ble_eq_true rfl)
theorem g80_92 {L : sl_L} {x : Int32} : sl_Go xs N 80 92 L (.inl x :: st) σ Q ↔ (x = 0 → sl_Go xs N 80 110 L st σ Q) ∧ (¬ x = 0 → sl_Go xs N 80 95 L st σ Q) := gk_zeq rfl
theorem g80_95 {x : sl_R} {a1 a2 a3 a4 : Option sl_V} : sl_Go xs N 80 95 [some (.inr (.inr x)), a1, a2, a3, a4] st σ Q ↔ sl_Go xs N 80 96 [some (.inr (.inr x)), a1, a2, a3, a4] (.inr (.inr x) :: st) σ Q := gk_aload rfl rfl
theorem g80_96 {L : sl_L} {i t : Nat} : sl_Go xs N 80 96 L (.inr (.inr (0, i, t)) :: st) σ Q ↔ sl_Go xs N 80 99 L (.inr (.inr (11, 0, 0)) :: st) σ Q := gk_get (g := .inr (11, 0, 0)) rfl rfl rfl
theorem g80_99 {L : sl_L} {i t : Nat} : sl_Go xs N 80 99 L (.inr (.inr (11, i, t)) :: st) σ Q ↔ sl_Go xs N 80 102 L (.inr (.inr (12, 0, 0)) :: st) σ Q := gk_get (g := .inr (12, 0, 0)) rfl rfl rfl
theorem g80_102 {x : Int32} {a0 a1 a3 a4 : Option sl_V} : sl_Go xs N 80 102 [a0, a1, some (.inl x), a3, a4] st σ Q ↔ sl_Go xs N 80 103 [a0, a1, some (.inl x), a3, a4] (.inl x :: st) σ Q := gk_iload rfl rfl
theorem g80_103 {L : sl_L} {j : Int32} {r : sl_R} : sl_Go xs N 80 103 L (.inl j :: .inr (.inr r) :: st) σ Q ↔ (0 ≤ j.toInt ∧ j.toInt < sl_rlen r) ∧ sl_Go xs N 80 104 L (.inr (.inr (sl_rg r j.toNatClampNeg)) :: st) σ Q := gk_aald rfl
theorem g80_104 {L : sl_L} {i t : Nat} : sl_Go xs N 80 104 L (.inr (.inr (13, i, t)) :: st) σ Q ↔ sl_Go xs N 80 107 L (.inl (σ 5 2 t) :: st) σ Q := gk_get (g := .inl (5, 2, t)) rfl rfl rfl
theorem g80_107 {L : sl_L} : sl_Go xs N 80 107 L st σ Q ↔ sl_Go xs N 80 112 L st σ Q := gk_goto rfl
theorem g80_110 {L : sl_L} : sl_Go xs N 80 110 L st σ Q ↔ sl_Go xs N 80 112 L (.inl (-13) :: st) σ Q := gk_const rfl
theorem g80_112 {L : sl_L} {x : Int32} : sl_Go xs N 80 112 L [.inl x] σ Q ↔ Q (some (.inl x)) σ := gk_iret rfl
theorem g80_113 {x : Int32} {a0 a2 a3 a4 : Option sl_V} : sl_Go xs N 80 113 [a0, some (.inl x), a2, a3, a4] st σ Q ↔ sl_Go xs N 80 114 [a0, some (.inl x), a2, a3, a4] (.inl x :: st) σ Q := gk_iload rfl rfl
theorem g80_114 {L : sl_L} : sl_Go xs N 80 114 L st σ Q ↔ sl_Go xs N 80 115 L (.inl 1 :: st) σ Q := gk_const rfl
theorem g80_115 {L : sl_L} {x y : Int32} : sl_Go xs N 80 115 L (.inl y :: .inl x :: st) σ Q ↔ (¬ x = y → sl_Go xs N 80 142 L st σ Q) ∧ (x = y → sl_Go xs N 80 118 L st σ Q) := gk_ine rfl
theorem g80_118 {x : Int32} {a0 a1 a2 a4 : Option sl_V} : sl_Go xs N 80 118 [a0, a1, a2, some (.inl x), a4] st σ Q ↔ sl_Go xs N 80 119 [a0, a1, a2, some (.inl x), a4] (.inl x :: st) σ Q := gk_iload rfl rfl
theorem g80_119 {L : sl_L} : sl_Go xs N 80 119 L st σ Q ↔ sl_Go xs N 80 121 L (.inl 6 :: st) σ Q := gk_const rfl
theorem g80_121 {L : sl_L} {x y : Int32} : sl_Go xs N 80 121 L (.inl y :: .inl x :: st) σ Q ↔ (¬ x = y → sl_Go xs N 80 139 L st σ Q) ∧ (x = y → sl_Go xs N 80 124 L st σ Q) := gk_ine rfl
theorem g80_124 {x : sl_R} {a1 a2 a3 a4 : Option sl_V} : sl_Go xs N 80 124 [some (.inr (.inr x)), a1, a2, a3, a4] st σ Q ↔ sl_Go xs N 80 125 [some (.inr (.inr x)), a1, a2, a3, a4] (.inr (.inr x) :: st) σ Q := gk_aload rfl rfl
theorem g80_125 {L : sl_L} {i t : Nat} : sl_Go xs N 80 125 L (.inr (.inr (0, i, t)) :: st) σ Q ↔ sl_Go xs N 80 128 L (.inr (.inr (11, 0, 0)) :: st) σ Q := gk_get (g := .inr (11, 0, 0)) rfl rfl rfl
theorem g80_128 {L : sl_L} {i t : Nat} : sl_Go xs N 80 128 L (.inr (.inr (11, i, t)) :: st) σ Q ↔ sl_Go xs N 80 131 L (.inr (.inr (16, 0, 0)) :: st) σ Q := gk_get (g := .inr (16, 0, 0)) rfl rfl rfl
theorem g80_131 {x : Int32} {a0 a1 a3 a4 : Option sl_V} : sl_Go xs N 80 131 [a0, a1, some (.inl x), a3, a4] st σ Q ↔ sl_Go xs N 80 132 [a0, a1, some (.inl x), a3, a4] (.inl x :: st) σ Q := gk_iload rfl rfl
theorem g80_132 {L : sl_L} {j : Int32} {r : sl_R} : sl_Go xs N 80 132 L (.inl j :: .inr (.inr r) :: st) σ Q ↔ (0 ≤ j.toInt ∧ j.toInt < sl_rlen r) ∧ sl_Go xs N 80 133 L (.inr (.inr (sl_rg r j.toNatClampNeg)) :: st) σ Q := gk_aald rfl
theorem g80_133 {L : sl_L} {i t : Nat} : sl_Go xs N 80 133 L (.inr (.inr (17, i, t)) :: st) σ Q ↔ sl_Go xs N 80 136 L (.inl (σ 5 8 t) :: st) σ Q := gk_get (g := .inl (5, 8, t)) rfl rfl rfl
theorem g80_136 {L : sl_L} : sl_Go xs N 80 136 L st σ Q ↔ sl_Go xs N 80 141 L st σ Q := gk_goto rfl
theorem g80_139 {L : sl_L} : sl_Go xs N 80 139 L st σ Q ↔ sl_Go xs N 80 141 L (.inl (-13) :: st) σ Q := gk_const rfl
theorem g80_141 {L : sl_L} {x : Int32} : sl_Go xs N 80 141 L [.inl x] σ Q ↔ Q (some (.inl x)) σ := gk_iret rfl
theorem g80_142 {x : Int32} {a0 a1 a2 a4 : Option sl_V} : sl_Go xs N 80 142 [a0, a1, a2, some (.inl x), a4] st σ Q ↔ sl_Go xs N 80 143 [a0, a1, a2, some (.inl x), a4] (.inl x :: st) σ Q := gk_iload rfl rfl
theorem g80_143 {L : sl_L} : sl_Go xs N 80 143 L st σ Q ↔ sl_Go xs N 80 145 L (.inl 7 :: st) σ Q := gk_const rfl
theorem g80_145 {L : sl_L} {x y : Int32} : sl_Go xs N 80 145 L (.inl y :: .inl x :: st) σ Q ↔ (¬ x = y → sl_Go xs N 80 160 L st σ Q) ∧ (x = y → sl_Go xs N 80 148 L st σ Q) := gk_ine rfl
theorem g80_148 {x : sl_R} {a1 a2 a3 a4 : Option sl_V} : sl_Go xs N 80 148 [some (.inr (.inr x)), a1, a2, a3, a4] st σ Q ↔ sl_Go xs N 80 149 [some (.inr (.inr x)), a1, a2, a3, a4] (.inr (.inr x) :: st) σ Q := gk_aload rfl rfl
theorem g80_149 {L : sl_L} {i t : Nat} : sl_Go xs N 80 149 L (.inr (.inr (0, i, t)) :: st) σ Q ↔ sl_Go xs N 80 152 L (.inr (.inr (26, 0, 0)) :: st) σ Q := gk_get (g := .inr (26, 0, 0)) rfl rfl rfl
theorem g80_152 {x : Int32} {a0 a1 a3 a4 : Option sl_V} : sl_Go xs N 80 152 [a0, a1, some (.inl x), a3, a4] st σ Q ↔ sl_Go xs N 80 153 [a0, a1, some (.inl x), a3, a4] (.inl x :: st) σ Q := gk_iload rfl rfl
theorem g80_153 {L : sl_L} {j : Int32} {r : sl_R} : sl_Go xs N 80 153 L (.inl j :: .inr (.inr r) :: st) σ Q ↔ (0 ≤ j.toInt ∧ j.toInt < sl_rlen r) ∧ sl_Go xs N 80 154 L (.inr (.inr (sl_rg r j.toNatClampNeg)) :: st) σ Q := gk_aald rfl
theorem g80_154 {L : sl_L} {i t : Nat} : sl_Go xs N 80 154 L (.inr (.inr (27, i, t)) :: st) σ Q ↔ sl_Go xs N 80 157 L (.inl (σ 7 8 t) :: st) σ Q := gk_get (g := .inl (7, 8, t)) rfl rfl rfl
theorem g80_157 {L : sl_L} : sl_Go xs N 80 157 L st σ Q ↔ sl_Go xs N 80 162 L st σ Q := gk_goto rfl
theorem g80_160 {L : sl_L} : sl_Go xs N 80 160 L st σ Q ↔ sl_Go xs N 80 162 L (.inl (-13) :: st) σ Q := gk_const rfl
theorem g80_162 {L : sl_L} {x : Int32} : sl_Go xs N 80 162 L [.inl x] σ Q ↔ Q (some (.inl x)) σ := gk_iret rfl
end SLI
