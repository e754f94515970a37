section SLI
variable {xs : Nat → Int32} {N : Nat} {st : List sl_V} {σ : sl_S} {Q : Option sl_V → sl_S → Prop}
theorem g119_0 {x : sl_R} {a1 a2 a3 a4 a5 : Option sl_V} : sl_Go xs N 119 0 [some (.inr (.inr x)), a1, a2, a3, a4, a5] st σ Q ↔ sl_Go xs N 119 1 [some (.inr (.inr x)), a1, a2, a3, a4, a5] (.inr (.inr x) :: st) σ Q := gk_aload rfl rfl
theorem g119_1i {L : sl_L} {x : Int32} : sl_Go xs N 119 1 L (.inl x :: st) σ Q ↔ sl_Go xs N 119 2 L (.inl x :: .inl x :: st) σ Q := gk_dupi rfl
theorem g119_1r {L : sl_L} {x : sl_R} : sl_Go xs N 119 1 L (.inr (.inr x) :: st) σ Q ↔ sl_Go xs N 119 2 L (.inr (.inr x) :: .inr (.inr x) :: st) σ Q := gk_dupr rfl
theorem g119_2 {L : sl_L} {i t : Nat} : sl_Go xs N 119 2 L (.inr (.inr (40, i, t)) :: st) σ Q ↔ sl_Go xs N 119 5 L (.inl (σ 8 0 4) :: st) σ Q := gk_get (g := .inl (8, 0, 4)) rfl rfl rfl
theorem g119_5 {L : sl_L} : sl_Go xs N 119 5 L st σ Q ↔ sl_Go xs N 119 6 L (.inl 1 :: st) σ Q := gk_const rfl
theorem g119_6 {L : sl_L} {x y : Int32} : sl_Go xs N 119 6 L (.inl y :: .inl x :: st) σ Q ↔ sl_Go xs N 119 7 L (.inl (x + y) :: st) σ Q := gk_bin (b := 8) rfl
theorem g119_7 {L : sl_L} {x : Int32} {i t : Nat} : sl_Go xs N 119 7 L (.inl x :: .inr (.inr (40, i, t)) :: st) σ Q ↔ sl_Go xs N 119 10 L st (sl_up σ 8 0 4 x) Q := gk_put0 (q := (8, 0, 4)) rfl rfl rfl
theorem g119_10 {x : sl_R} {a1 a2 a3 a4 a5 : Option sl_V} : sl_Go xs N 119 10 [some (.inr (.inr x)), a1, a2, a3, a4, a5] st σ Q ↔ sl_Go xs N 119 11 [some (.inr (.inr x)), a1, a2, a3, a4, a5] (.inr (.inr x) :: st) σ Q := gk_aload rfl rfl
theorem g119_11 {L : sl_L} {o : sl_R} : sl_Go xs N 119 11 L (.inr (.inr o) :: st) σ Q ↔ sl_cw st ≤ 8 ∧ sl_Go xs N 117 0 [some (.inr (.inr o))] [] σ (fun r τ => sl_Go xs N 119 14 L (r.toList ++ st) τ Q) := gk_call rfl (Nat.le_add_left 1 st.length) rfl rfl rfl
theorem g119_14 {L : sl_L} {x : Int32} : sl_Go xs N 119 14 L (.inl x :: st) σ Q ↔ (¬ x = 0 → sl_Go xs N 119 19 L st σ Q) ∧ (x = 0 → sl_Go xs N 119 17 L st σ Q) := gk_zne rfl
theorem g119_17 {L : sl_L} : sl_Go xs N 119 17 L st σ Q ↔ sl_Go xs N 119 18 L (.inl 0 :: st) σ Q := gk_const rfl
theorem g119_18 {L : sl_L} {x : Int32} : sl_Go xs N 119 18 L [.inl x] σ Q ↔ (x = 0 ∨ x = 1) ∧ Q (some (.inl x)) σ := gk_zret rfl
theorem g119_19 {x : sl_R} {a1 a2 a3 a4 a5 : Option sl_V} : sl_Go xs N 119 19 [some (.inr (.inr x)), a1, a2, a3, a4, a5] st σ Q ↔ sl_Go xs N 119 20 [some (.inr (.inr x)), a1, a2, a3, a4, a5] (.inr (.inr x) :: st) σ Q := gk_aload rfl rfl
theorem g119_20 {L : sl_L} {i t : Nat} : sl_Go xs N 119 20 L (.inr (.inr (40, i, t)) :: st) σ Q ↔ sl_Go xs N 119 23 L (.inl (σ 8 0 5) :: st) σ Q := gk_get (g := .inl (8, 0, 5)) rfl rfl rfl
theorem g119_23n {x : Int32} {a1 a2 a3 a4 a5 : Option sl_V} : sl_Go xs N 119 23 [none, a1, a2, a3, a4, a5] (.inl x :: st) σ Q ↔ sl_Go xs N 119 24 [none, some (.inl x), a2, a3, a4, a5] st σ Q := gk_istore rfl ⟨Nat.le_of_ble_eq_true rfl, rfl⟩ rfl
theorem g119_23i {x : Int32} {z : Int32} {a1 a2 a3 a4 a5 : Option sl_V} : sl_Go xs N 119 23 [some (.inl z), a1, a2, a3, a4, a5] (.inl x :: st) σ Q ↔ sl_Go xs N 119 24 [some (.inl z), some (.inl x), a2, a3, a4, a5] st σ Q := gk_istore rfl ⟨Nat.le_of_ble_eq_true rfl, rfl⟩ rfl
theorem g119_23r {x : Int32} {z : sl_R} {a1 a2 a3 a4 a5 : Option sl_V} : sl_Go xs N 119 23 [some (.inr (.inr z)), a1, a2, a3, a4, a5] (.inl x :: st) σ Q ↔ sl_Go xs N 119 24 [some (.inr (.inr z)), some (.inl x), a2, a3, a4, a5] st σ Q := gk_istore rfl ⟨Nat.le_of_ble_eq_true rfl, rfl⟩ rfl
theorem g119_24 {x : sl_R} {a1 a2 a3 a4 a5 : Option sl_V} : sl_Go xs N 119 24 [some (.inr (.inr x)), a1, a2, a3, a4, a5] st σ Q ↔ sl_Go xs N 119 25 [some (.inr (.inr x)), a1, a2, a3, a4, a5] (.inr (.inr x) :: st) σ Q := gk_aload rfl rfl
theorem g119_25 {L : sl_L} : sl_Go xs N 119 25 L st σ Q ↔ sl_Go xs N 119 27 L (.inl 58 :: st) σ Q := gk_const rfl
theorem g119_27 {L : sl_L} {o : sl_R} {x0 : Int32} : sl_Go xs N 119 27 L (.inl x0 :: .inr (.inr o) :: st) σ Q ↔ sl_cw st ≤ 8 ∧ sl_Go xs N 116 0 [some (.inr (.inr o)), some (.inl x0)] [] σ (fun r τ => sl_Go xs N 119 30 L (r.toList ++ st) τ Q) := gk_call rfl (Nat.le_add_left 2 st.length) rfl rfl rfl
theorem g119_30 {L : sl_L} {x : Int32} : sl_Go xs N 119 30 L (.inl x :: st) σ Q ↔ (¬ x = 0 → sl_Go xs N 119 35 L st σ Q) ∧ (x = 0 → sl_Go xs N 119 33 L st σ Q) := gk_zne rfl
theorem g119_33 {L : sl_L} : sl_Go xs N 119 33 L st σ Q ↔ sl_Go xs N 119 34 L (.inl 0 :: st) σ Q := gk_const rfl
theorem g119_34 {L : sl_L} {x : Int32} : sl_Go xs N 119 34 L [.inl x] σ Q ↔ (x = 0 ∨ x = 1) ∧ Q (some (.inl x)) σ := gk_zret rfl
theorem g119_35 {x : sl_R} {a1 a2 a3 a4 a5 : Option sl_V} : sl_Go xs N 119 35 [some (.inr (.inr x)), a1, a2, a3, a4, a5] st σ Q ↔ sl_Go xs N 119 36 [some (.inr (.inr x)), a1, a2, a3, a4, a5] (.inr (.inr x) :: st) σ Q := gk_aload rfl rfl
theorem g119_36 {L : sl_L} {i t : Nat} : sl_Go xs N 119 36 L (.inr (.inr (40, i, t)) :: st) σ Q ↔ sl_Go xs N 119 39 L (.inl (σ 8 0 6) :: st) σ Q := gk_get (g := .inl (8, 0, 6)) rfl rfl rfl
theorem g119_39n {x : Int32} {a0 a2 a3 a4 a5 : Option sl_V} : sl_Go xs N 119 39 [a0, none, a2, a3, a4, a5] (.inl x :: st) σ Q ↔ sl_Go xs N 119 40 [a0, none, some (.inl x), a3, a4, a5] st σ Q := gk_istore rfl ⟨Nat.le_of_ble_eq_true rfl, rfl⟩ rfl
theorem g119_39i {x : Int32} {z : Int32} {a0 a2 a3 a4 a5 : Option sl_V} : sl_Go xs N 119 39 [a0, some (.inl z), a2, a3, a4, a5] (.inl x :: st) σ Q ↔ sl_Go xs N 119 40 [a0, some (.inl z), some (.inl x), a3, a4, a5] st σ Q := gk_istore rfl ⟨Nat.le_of_ble_eq_true rfl, rfl⟩ rfl
theorem g119_39r {x : Int32} {z : sl_R} {a0 a2 a3 a4 a5 : Option sl_V} : sl_Go xs N 119 39 [a0, some (.inr (.inr z)), a2, a3, a4, a5] (.inl x :: st) σ Q ↔ sl_Go xs N 119 40 [a0, some (.inr (.inr z)), some (.inl x), a3, a4, a5] st σ Q := gk_istore rfl ⟨Nat.le_of_ble_eq_true rfl, rfl⟩ rfl
theorem g119_40 {x : sl_R} {a1 a2 a3 a4 a5 : Option sl_V} : sl_Go xs N 119 40 [some (.inr (.inr x)), a1, a2, a3, a4, a5] st σ Q ↔ sl_Go xs N 119 41 [some (.inr (.inr x)), a1, a2, a3, a4, a5] (.inr (.inr x) :: st) σ Q := gk_aload rfl rfl
theorem g119_41 {L : sl_L} {o : sl_R} : sl_Go xs N 119 41 L (.inr (.inr o) :: st) σ Q ↔ sl_cw st ≤ 8 ∧ sl_Go xs N 114 0 [some (.inr (.inr o))] [] σ (fun r τ => sl_Go xs N 119 44 L (r.toList ++ st) τ Q) := gk_call rfl (Nat.le_add_left 1 st.length) rfl rfl rfl
theorem g119_44 {L : sl_L} : sl_Go xs N 119 44 L st σ Q ↔ sl_Go xs N 119 46 L (.inl 41 :: st) σ Q := gk_const rfl
theorem g119_46 {L : sl_L} {x y : Int32} : sl_Go xs N 119 46 L (.inl y :: .inl x :: st) σ Q ↔ (x = y → sl_Go xs N 119 67 L st σ Q) ∧ (¬ x = y → sl_Go xs N 119 49 L st σ Q) := gk_ieq rfl
theorem g119_49 {x : sl_R} {a1 a2 a3 a4 a5 : Option sl_V} : sl_Go xs N 119 49 [some (.inr (.inr x)), a1, a2, a3, a4, a5] st σ Q ↔ sl_Go xs N 119 50 [some (.inr (.inr x)), a1, a2, a3, a4, a5] (.inr (.inr x) :: st) σ Q := gk_aload rfl rfl
theorem g119_50 {x : Int32} {a0 a2 a3 a4 a5 : Option sl_V} : sl_Go xs N 119 50 [a0, some (.inl x), a2, a3, a4, a5] st σ Q ↔ sl_Go xs N 119 51 [a0, some (.inl x), a2, a3, a4, a5] (.inl x :: st) σ Q := gk_iload rfl rfl
theorem g119_51 {L : sl_L} {x : Int32} : sl_Go xs N 119 51 L (.inl x :: st) σ Q ↔ (x ≤ 0 → sl_Go xs N 119 58 L st σ Q) ∧ (¬ x ≤ 0 → sl_Go xs N 119 54 L st σ Q) := gk_zle rfl
theorem g119_54 {L : sl_L} : sl_Go xs N 119 54 L st σ Q ↔ sl_Go xs N 119 55 L (.inl 1 :: st) σ Q := gk_const rfl
theorem g119_55 {L : sl_L} : sl_Go xs N 119 55 L st σ Q ↔ sl_Go xs N 119 59 L st σ Q := gk_goto rfl
theorem g119_58 {L : sl_L} : sl_Go xs N 119 58 L st σ Q ↔ sl_Go xs N 119 59 L (.inl 0 :: st) σ Q := gk_const rfl
theorem g119_59 {L : sl_L} {o : sl_R} {x0 : Int32} : sl_Go xs N 119 59 L (.inl x0 :: .inr (.inr o) :: st) σ Q ↔ sl_cw st ≤ 8 ∧ sl_Go xs N 118 0 [some (.inr (.inr o)), some (.inl x0), none, none, none] [] σ (fun r τ => sl_Go xs N 119 62 L (r.toList ++ st) τ Q) := gk_call rfl (Nat.le_add_left 2 st.length) rfl rfl rfl
theorem g119_62 {L : sl_L} {x : Int32} : sl_Go xs N 119 62 L (.inl x :: st) σ Q ↔ (¬ x = 0 → sl_Go xs N 119 40 L st σ Q) ∧ (x = 0 → sl_Go xs N 119 65 L st σ Q) := gk_zne rfl
theorem g119_65 {L : sl_L} : sl_Go xs N 119 65 L st σ Q ↔ sl_Go xs N 119 66 L (.inl 0 :: st) σ Q := gk_const rfl
theorem g119_66 {L : sl_L} {x : Int32} : sl_Go xs N 119 66 L [.inl x] σ Q ↔ (x = 0 ∨ x = 1) ∧ Q (some (.inl x)) σ := gk_zret rfl
theorem g119_67 {x : sl_R} {a1 a2 a3 a4 a5 : Option sl_V} : sl_Go xs N 119 67 [some (.inr (.inr x)), a1, a2, a3, a4, a5] st σ Q ↔ sl_Go xs N 119 68 [some (.inr (.inr x)), a1, a2, a3, a4, a5] (.inr (.inr x) :: st) σ Q := gk_aload rfl rfl
theorem g119_68 {L : sl_L} {i t : Nat} : sl_Go xs N 119 68 L (.inr (.inr (40, i, t)) :: st) σ Q ↔ sl_Go xs N 119 71 L (.inl (σ 8 0 6) :: st) σ Q := gk_get (g := .inl (8, 0, 6)) rfl rfl rfl
theorem g119_71 {x : Int32} {a0 a1 a3 a4 a5 : Option sl_V} : sl_Go xs N 119 71 [a0, a1, some (.inl x), a3, a4, a5] st σ Q ↔ sl_Go xs N 119 72 [a0, a1, some (.inl x), a3, a4, a5] (.inl x :: st) σ Q := gk_iload rfl rfl
theorem g119_72 {L : sl_L} {x y : Int32} : sl_Go xs N 119 72 L (.inl y :: .inl x :: st) σ Q ↔ sl_Go xs N 119 73 L (.inl (x - y) :: st) σ Q := gk_bin (b := 9) rfl
theorem g119_73n {x : Int32} {a0 a1 a3 a4 a5 : Option sl_V} : sl_Go xs N 119 73 [a0, a1, none, a3, a4, a5] (.inl x :: st) σ Q ↔ sl_Go xs N 119 74 [a0, a1, none, some (.inl x), a4, a5] st σ Q := gk_istore rfl ⟨Nat.le_of_ble_eq_true rfl, rfl⟩ rfl
theorem g119_73i {x : Int32} {z : Int32} {a0 a1 a3 a4 a5 : Option sl_V} : sl_Go xs N 119 73 [a0, a1, some (.inl z), a3, a4, a5] (.inl x :: st) σ Q ↔ sl_Go xs N 119 74 [a0, a1, some (.inl z), some (.inl x), a4, a5] st σ Q := gk_istore rfl ⟨Nat.le_of_ble_eq_true rfl, rfl⟩ rfl
theorem g119_73r {x : Int32} {z : sl_R} {a0 a1 a3 a4 a5 : Option sl_V} : sl_Go xs N 119 73 [a0, a1, some (.inr (.inr z)), a3, a4, a5] (.inl x :: st) σ Q ↔ sl_Go xs N 119 74 [a0, a1, some (.inr (.inr z)), some (.inl x), a4, a5] st σ Q := gk_istore rfl ⟨Nat.le_of_ble_eq_true rfl, rfl⟩ rfl
theorem g119_74 {L : sl_L} : sl_Go xs N 119 74 L st σ Q ↔ sl_Go xs N 119 75 L (.inl 1 :: st) σ Q := gk_const rfl
theorem g119_75n {x : Int32} {a0 a1 a2 a4 a5 : Option sl_V} : sl_Go xs N 119 75 [a0, a1, a2, none, a4, a5] (.inl x :: st) σ Q ↔ sl_Go xs N 119 77 [a0, a1, a2, none, some (.inl x), a5] st σ Q := gk_istore rfl ⟨Nat.le_of_ble_eq_true rfl, rfl⟩ rfl
theorem g119_75i {x : Int32} {z : Int32} {a0 a1 a2 a4 a5 : Option sl_V} : sl_Go xs N 119 75 [a0, a1, a2, some (.inl z), a4, a5] (.inl x :: st) σ Q ↔ sl_Go xs N 119 77 [a0, a1, a2, some (.inl z), some (.inl x), a5] st σ Q := gk_istore rfl ⟨Nat.le_of_ble_eq_true rfl, rfl⟩ rfl
theorem g119_75r {x : Int32} {z : sl_R} {a0 a1 a2 a4 a5 : Option sl_V} : sl_Go xs N 119 75 [a0, a1, a2, some (.inr (.inr z)), a4, a5] (.inl x :: st) σ Q ↔ sl_Go xs N 119 77 [a0, a1, a2, some (.inr (.inr z)), some (.inl x), a5] st σ Q := gk_istore rfl ⟨Nat.le_of_ble_eq_true rfl, rfl⟩ rfl
theorem g119_77 {x : Int32} {a0 a1 a2 a3 a5 : Option sl_V} : sl_Go xs N 119 77 [a0, a1, a2, a3, some (.inl x), a5] st σ Q ↔ sl_Go xs N 119 79 [a0, a1, a2, a3, some (.inl x), a5] (.inl x :: st) σ Q := gk_iload rfl rfl
theorem g119_79 {x : Int32} {a0 a2 a3 a4 a5 : Option sl_V} : sl_Go xs N 119 79 [a0, some (.inl x), a2, a3, a4, a5] st σ Q ↔ sl_Go xs N 119 80 [a0, some (.inl x), a2, a3, a4, a5] (.inl x :: st) σ Q := gk_iload rfl rfl
theorem g119_80 {L : sl_L} {x y : Int32} : sl_Go xs N 119 80 L (.inl y :: .inl x :: st) σ Q ↔ (y ≤ x → sl_Go xs N 119 179 L st σ Q) ∧ (¬ y ≤ x → sl_Go xs N 119 83 L st σ Q) := gk_ige rfl
theorem g119_83 {x : Int32} {a0 a1 a2 a4 a5 : Option sl_V} : sl_Go xs N 119 83 [a0, a1, a2, some (.inl x), a4, a5] st σ Q ↔ sl_Go xs N 119 84 [a0, a1, a2, some (.inl x), a4, a5] (.inl x :: st) σ Q := gk_iload rfl rfl
theorem g119_84 {L : sl_L} {x : Int32} : sl_Go xs N 119 84 L (.inl x :: st) σ Q ↔ (x ≤ 0 → sl_Go xs N 119 179 L st σ Q) ∧ (¬ x ≤ 0 → sl_Go xs N 119 87 L st σ Q) := gk_zle rfl
theorem g119_87 {x : sl_R} {a1 a2 a3 a4 a5 : Option sl_V} : sl_Go xs N 119 87 [some (.inr (.inr x)), a1, a2, a3, a4, a5] st σ Q ↔ sl_Go xs N 119 88 [some (.inr (.inr x)), a1, a2, a3, a4, a5] (.inr (.inr x) :: st) σ Q := gk_aload rfl rfl
theorem g119_88 {L : sl_L} {i t : Nat} : sl_Go xs N 119 88 L (.inr (.inr (40, i, t)) :: st) σ Q ↔ sl_Go xs N 119 91 L (.inl (σ 8 0 6) :: st) σ Q := gk_get (g := .inl (8, 0, 6)) rfl rfl rfl
theorem g119_91 {x : Int32} {a0 a1 a2 a4 a5 : Option sl_V} : sl_Go xs N 119 91 [a0, a1, a2, some (.inl x), a4, a5] st σ Q ↔ sl_Go xs N 119 92 [a0, a1, a2, some (.inl x), a4, a5] (.inl x :: st) σ Q := gk_iload rfl rfl
theorem g119_92 {L : sl_L} {x y : Int32} : sl_Go xs N 119 92 L (.inl y :: .inl x :: st) σ Q ↔ sl_Go xs N 119 93 L (.inl (x + y) :: st) σ Q := gk_bin (b := 8) rfl
theorem g119_93 {L : sl_L} : sl_Go xs N 119 93 L st σ Q ↔ sl_Go xs N 119 95 L (.inl 12 :: st) σ Q := gk_const rfl
theorem g119_95 {L : sl_L} {x y : Int32} : sl_Go xs N 119 95 L (.inl y :: .inl x :: st) σ Q ↔ (x ≤ y → sl_Go xs N 119 100 L st σ Q) ∧ (¬ x ≤ y → sl_Go xs N 119 98 L st σ Q) := gk_ile rfl
theorem g119_98 {L : sl_L} : sl_Go xs N 119 98 L st σ Q ↔ sl_Go xs N 119 99 L (.inl 0 :: st) σ Q := gk_const rfl
theorem g119_99 {L : sl_L} {x : Int32} : sl_Go xs N 119 99 L [.inl x] σ Q ↔ (x = 0 ∨ x = 1) ∧ Q (some (.inl x)) σ := gk_zret rfl
theorem g119_100 {L : sl_L} : sl_Go xs N 119 100 L st σ Q ↔ sl_Go xs N 119 101 L (.inl 0 :: st) σ Q := gk_const rfl
theorem g119_101n {x : Int32} {a0 a1 a2 a3 a5 : Option sl_V} : sl_Go xs N 119 101 [a0, a1, a2, a3, none, a5] (.inl x :: st) σ Q ↔ sl_Go xs N 119 103 [a0, a1, a2, a3, none, some (.inl x)] st σ Q := gk_istore rfl ⟨Nat.le_of_ble_eq_true rfl, rfl⟩ rfl
theorem g119_101i {x : Int32} {z : Int32} {a0 a1 a2 a3 a5 : Option sl_V} : sl_Go xs N 119 101 [a0, a1, a2, a3, some (.inl z), a5] (.inl x :: st) σ Q ↔ sl_Go xs N 119 103 [a0, a1, a2, a3, some (.inl z), some (.inl x)] st σ Q := gk_istore rfl ⟨Nat.le_of_ble_eq_true rfl, rfl⟩ rfl
theorem g119_101r {x : Int32} {z : sl_R} {a0 a1 a2 a3 a5 : Option sl_V} : sl_Go xs N 119 101 [a0, a1, a2, a3, some (.inr (.inr z)), a5] (.inl x :: st) σ Q ↔ sl_Go xs N 119 103 [a0, a1, a2, a3, some (.inr (.inr z)), some (.inl x)] st σ Q := gk_istore rfl ⟨Nat.le_of_ble_eq_true rfl, rfl⟩ rfl
theorem g119_103 {x : Int32} {a0 a1 a2 a3 a4 : Option sl_V} : sl_Go xs N 119 103 [a0, a1, a2, a3, a4, some (.inl x)] st σ Q ↔ sl_Go xs N 119 105 [a0, a1, a2, a3, a4, some (.inl x)] (.inl x :: st) σ Q := gk_iload rfl rfl
theorem g119_105 {x : Int32} {a0 a1 a2 a4 a5 : Option sl_V} : sl_Go xs N 119 105 [a0, a1, a2, some (.inl x), a4, a5] st σ Q ↔ sl_Go xs N 119 106 [a0, a1, a2, some (.inl x), a4, a5] (.inl x :: st) σ Q := gk_iload rfl rfl
theorem g119_106 {L : sl_L} {x y : Int32} : sl_Go xs N 119 106 L (.inl y :: .inl x :: st) σ Q ↔ (y ≤ x → sl_Go xs N 119 173 L st σ Q) ∧ (¬ y ≤ x → sl_Go xs N 119 109 L st σ Q) := gk_ige rfl
theorem g119_109 {x : sl_R} {a1 a2 a3 a4 a5 : Option sl_V} : sl_Go xs N 119 109 [some (.inr (.inr x)), a1, a2, a3, a4, a5] st σ Q ↔ sl_Go xs N 119 110 [some (.inr (.inr x)), a1, a2, a3, a4, a5] (.inr (.inr x) :: st) σ Q := gk_aload rfl rfl
theorem g119_110 {L : sl_L} {i t : Nat} : sl_Go xs N 119 110 L (.inr (.inr (40, i, t)) :: st) σ Q ↔ sl_Go xs N 119 113 L (.inr (.inr (59, 0, 0)) :: st) σ Q := gk_get (g := .inr (59, 0, 0)) rfl rfl rfl
theorem g119_113 {L : sl_L} : sl_Go xs N 119 113 L st σ Q ↔ sl_Go xs N 119 115 L (.inl 72 :: st) σ Q := gk_const rfl
theorem g119_115 {x : sl_R} {a1 a2 a3 a4 a5 : Option sl_V} : sl_Go xs N 119 115 [some (.inr (.inr x)), a1, a2, a3, a4, a5] st σ Q ↔ sl_Go xs N 119 116 [some (.inr (.inr x)), a1, a2, a3, a4, a5] (.inr (.inr x) :: st) σ Q := gk_aload rfl rfl
theorem g119_116 {L : sl_L} {i t : Nat} : sl_Go xs N 119 116 L (.inr (.inr (40, i, t)) :: st) σ Q ↔ sl_Go xs N 119 119 L (.inl (σ 8 0 6) :: st) σ Q := gk_get (g := .inl (8, 0, 6)) rfl rfl rfl
theorem g119_119 {L : sl_L} {x y : Int32} : sl_Go xs N 119 119 L (.inl y :: .inl x :: st) σ Q ↔ sl_Go xs N 119 120 L (.inl (x + y) :: st) σ Q := gk_bin (b := 8) rfl
theorem g119_120 {x : sl_R} {a1 a2 a3 a4 a5 : Option sl_V} : sl_Go xs N 119 120 [some (.inr (.inr x)), a1, a2, a3, a4, a5] st σ Q ↔ sl_Go xs N 119 121 [some (.inr (.inr x)), a1, a2, a3, a4, a5] (.inr (.inr x) :: st) σ Q := gk_aload rfl rfl
theorem g119_121 {L : sl_L} {i t : Nat} : sl_Go xs N 119 121 L (.inr (.inr (40, i, t)) :: st) σ Q ↔ sl_Go xs N 119 124 L (.inr (.inr (59, 0, 0)) :: st) σ Q := gk_get (g := .inr (59, 0, 0)) rfl rfl rfl
theorem g119_124 {L : sl_L} : sl_Go xs N 119 124 L st σ Q ↔ sl_Go xs N 119 126 L (.inl 72 :: st) σ Q := gk_const rfl
theorem g119_126 {x : Int32} {a0 a1 a3 a4 a5 : Option sl_V} : sl_Go xs N 119 126 [a0, a1, some (.inl x), a3, a4, a5] st σ Q ↔ sl_Go xs N 119 127 [a0, a1, some (.inl x), a3, a4, a5] (.inl x :: st) σ Q := gk_iload rfl rfl
theorem g119_127 {L : sl_L} {x y : Int32} : sl_Go xs N 119 127 L (.inl y :: .inl x :: st) σ Q ↔ sl_Go xs N 119 128 L (.inl (x + y) :: st) σ Q := gk_bin (b := 8) rfl
theorem g119_128 {x : Int32} {a0 a1 a2 a3 a4 : Option sl_V} : sl_Go xs N 119 128 [a0, a1, a2, a3, a4, some (.inl x)] st σ Q ↔ sl_Go xs N 119 130 [a0, a1, a2, a3, a4, some (.inl x)] (.inl x :: st) σ Q := gk_iload rfl rfl
theorem g119_130 {L : sl_L} {x y : Int32} : sl_Go xs N 119 130 L (.inl y :: .inl x :: st) σ Q ↔ sl_Go xs N 119 131 L (.inl (x + y) :: st) σ Q := gk_bin (b := 8) rfl
theorem g119_131 {L : sl_L} {j : Int32} {r : sl_R} : sl_Go xs N 119 131 L (.inl j :: .inr (.inr r) :: st) σ Q ↔ (0 ≤ j.toInt ∧ j.toInt < sl_ilen N r) ∧ sl_Go xs N 119 132 L (.inl (sl_rd xs σ r j.toNatClampNeg) :: st) σ Q := gk_iald rfl
theorem g119_132 {L : sl_L} {j x : Int32} {r : sl_R} : sl_Go xs N 119 132 L (.inl x :: .inl j :: .inr (.inr r) :: st) σ Q ↔ (0 ≤ j.toInt ∧ j.toInt < sl_wlen r 0) ∧ sl_Go xs N 119 133 L st (sl_wr σ r j.toNatClampNeg x) Q := gk_iast rfl
theorem g119_133 {x : sl_R} {a1 a2 a3 a4 a5 : Option sl_V} : sl_Go xs N 119 133 [some (.inr (.inr x)), a1, a2, a3, a4, a5] st σ Q ↔ sl_Go xs N 119 134 [some (.inr (.inr x)), a1, a2, a3, a4, a5] (.inr (.inr x) :: st) σ Q := gk_aload rfl rfl
theorem g119_134 {L : sl_L} {i t : Nat} : sl_Go xs N 119 134 L (.inr (.inr (40, i, t)) :: st) σ Q ↔ sl_Go xs N 119 137 L (.inr (.inr (60, 0, 0)) :: st) σ Q := gk_get (g := .inr (60, 0, 0)) rfl rfl rfl
theorem g119_137 {L : sl_L} : sl_Go xs N 119 137 L st σ Q ↔ sl_Go xs N 119 139 L (.inl 72 :: st) σ Q := gk_const rfl
theorem g119_139 {x : sl_R} {a1 a2 a3 a4 a5 : Option sl_V} : sl_Go xs N 119 139 [some (.inr (.inr x)), a1, a2, a3, a4, a5] st σ Q ↔ sl_Go xs N 119 140 [some (.inr (.inr x)), a1, a2, a3, a4, a5] (.inr (.inr x) :: st) σ Q := gk_aload rfl rfl
theorem g119_140 {L : sl_L} {i t : Nat} : sl_Go xs N 119 140 L (.inr (.inr (40, i, t)) :: st) σ Q ↔ sl_Go xs N 119 143 L (.inl (σ 8 0 6) :: st) σ Q := gk_get (g := .inl (8, 0, 6)) rfl rfl rfl
theorem g119_143 {L : sl_L} {x y : Int32} : sl_Go xs N 119 143 L (.inl y :: .inl x :: st) σ Q ↔ sl_Go xs N 119 144 L (.inl (x + y) :: st) σ Q := gk_bin (b := 8) rfl
theorem g119_144 {x : sl_R} {a1 a2 a3 a4 a5 : Option sl_V} : sl_Go xs N 119 144 [some (.inr (.inr x)), a1, a2, a3, a4, a5] st σ Q ↔ sl_Go xs N 119 145 [some (.inr (.inr x)), a1, a2, a3, a4, a5] (.inr (.inr x) :: st) σ Q := gk_aload rfl rfl
theorem g119_145 {L : sl_L} {i t : Nat} : sl_Go xs N 119 145 L (.inr (.inr (40, i, t)) :: st) σ Q ↔ sl_Go xs N 119 148 L (.inr (.inr (60, 0, 0)) :: st) σ Q := gk_get (g := .inr (60, 0, 0)) rfl rfl rfl
theorem g119_148 {L : sl_L} : sl_Go xs N 119 148 L st σ Q ↔ sl_Go xs N 119 150 L (.inl 72 :: st) σ Q := gk_const rfl
theorem g119_150 {x : Int32} {a0 a1 a3 a4 a5 : Option sl_V} : sl_Go xs N 119 150 [a0, a1, some (.inl x), a3, a4, a5] st σ Q ↔ sl_Go xs N 119 151 [a0, a1, some (.inl x), a3, a4, a5] (.inl x :: st) σ Q := gk_iload rfl rfl
theorem g119_151 {L : sl_L} {x y : Int32} : sl_Go xs N 119 151 L (.inl y :: .inl x :: st) σ Q ↔ sl_Go xs N 119 152 L (.inl (x + y) :: st) σ Q := gk_bin (b := 8) rfl
theorem g119_152 {x : Int32} {a0 a1 a2 a3 a4 : Option sl_V} : sl_Go xs N 119 152 [a0, a1, a2, a3, a4, some (.inl x)] st σ Q ↔ sl_Go xs N 119 154 [a0, a1, a2, a3, a4, some (.inl x)] (.inl x :: st) σ Q := gk_iload rfl rfl
theorem g119_154 {L : sl_L} {x y : Int32} : sl_Go xs N 119 154 L (.inl y :: .inl x :: st) σ Q ↔ sl_Go xs N 119 155 L (.inl (x + y) :: st) σ Q := gk_bin (b := 8) rfl
theorem g119_155 {L : sl_L} {j : Int32} {r : sl_R} : sl_Go xs N 119 155 L (.inl j :: .inr (.inr r) :: st) σ Q ↔ (0 ≤ j.toInt ∧ j.toInt < sl_ilen N r) ∧ sl_Go xs N 119 156 L (.inl (sl_rd xs σ r j.toNatClampNeg) :: st) σ Q := gk_iald rfl
theorem g119_156 {L : sl_L} {j x : Int32} {r : sl_R} : sl_Go xs N 119 156 L (.inl x :: .inl j :: .inr (.inr r) :: st) σ Q ↔ (0 ≤ j.toInt ∧ j.toInt < sl_wlen r 0) ∧ sl_Go xs N 119 157 L st (sl_wr σ r j.toNatClampNeg x) Q := gk_iast rfl
theorem g119_157 {x : sl_R} {a1 a2 a3 a4 a5 : Option sl_V} : sl_Go xs N 119 157 [some (.inr (.inr x)), a1, a2, a3, a4, a5] st σ Q ↔ sl_Go xs N 119 158 [some (.inr (.inr x)), a1, a2, a3, a4, a5] (.inr (.inr x) :: st) σ Q := gk_aload rfl rfl
theorem g119_158i {L : sl_L} {x : Int32} : sl_Go xs N 119 158 L (.inl x :: st) σ Q ↔ sl_Go xs N 119 159 L (.inl x :: .inl x :: st) σ Q := gk_dupi rfl
theorem g119_158r {L : sl_L} {x : sl_R} : sl_Go xs N 119 158 L (.inr (.inr x) :: st) σ Q ↔ sl_Go xs N 119 159 L (.inr (.inr x) :: .inr (.inr x) :: st) σ Q := gk_dupr rfl
theorem g119_159 {L : sl_L} {i t : Nat} : sl_Go xs N 119 159 L (.inr (.inr (40, i, t)) :: st) σ Q ↔ sl_Go xs N 119 162 L (.inl (σ 8 0 6) :: st) σ Q := gk_get (g := .inl (8, 0, 6)) rfl rfl rfl
theorem g119_162 {L : sl_L} : sl_Go xs N 119 162 L st σ Q ↔ sl_Go xs N 119 163 L (.inl 1 :: st) σ Q := gk_const rfl
theorem g119_163 {L : sl_L} {x y : Int32} : sl_Go xs N 119 163 L (.inl y :: .inl x :: st) σ Q ↔ sl_Go xs N 119 164 L (.inl (x + y) :: st) σ Q := gk_bin (b := 8) rfl
theorem g119_164 {L : sl_L} {x : Int32} {i t : Nat} : sl_Go xs N 119 164 L (.inl x :: .inr (.inr (40, i, t)) :: st) σ Q ↔ sl_Go xs N 119 167 L st (sl_up σ 8 0 6 x) Q := gk_put0 (q := (8, 0, 6)) rfl rfl rfl
theorem g119_167n {x : Int32} {a0 a1 a2 a3 : Option sl_V} : sl_Go xs N 119 167 [a0, a1, a2, a3, none, some (.inl x)] st σ Q ↔ sl_Go xs N 119 170 [a0, a1, a2, a3, none, some (.inl (x + 1))] st σ Q := gk_iinc rfl rfl rfl rfl
theorem g119_167i {x : Int32} {z : Int32} {a0 a1 a2 a3 : Option sl_V} : sl_Go xs N 119 167 [a0, a1, a2, a3, some (.inl z), some (.inl x)] st σ Q ↔ sl_Go xs N 119 170 [a0, a1, a2, a3, some (.inl z), some (.inl (x + 1))] st σ Q := gk_iinc rfl rfl rfl rfl
theorem g119_167r {x : Int32} {z : sl_R} {a0 a1 a2 a3 : Option sl_V} : sl_Go xs N 119 167 [a0, a1, a2, a3, some (.inr (.inr z)), some (.inl x)] st σ Q ↔ sl_Go xs N 119 170 [a0, a1, a2, a3, some (.inr (.inr z)), some (.inl (x + 1))] st σ Q := gk_iinc rfl rfl rfl rfl
theorem g119_170 {L : sl_L} : sl_Go xs N 119 170 L st σ Q ↔ sl_Go xs N 119 103 L st σ Q := gk_goto rfl
theorem g119_173n {x : Int32} {a0 a1 a2 a5 : Option sl_V} : sl_Go xs N 119 173 [a0, a1, a2, none, some (.inl x), a5] st σ Q ↔ sl_Go xs N 119 176 [a0, a1, a2, none, some (.inl (x + 1)), a5] st σ Q := gk_iinc rfl rfl rfl rfl
theorem g119_173i {x : Int32} {z : Int32} {a0 a1 a2 a5 : Option sl_V} : sl_Go xs N 119 173 [a0, a1, a2, some (.inl z), some (.inl x), a5] st σ Q ↔ sl_Go xs N 119 176 [a0, a1, a2, some (.inl z), some (.inl (x + 1)), a5] st σ Q := gk_iinc rfl rfl rfl rfl
theorem g119_173r {x : Int32} {z : sl_R} {a0 a1 a2 a5 : Option sl_V} : sl_Go xs N 119 173 [a0, a1, a2, some (.inr (.inr z)), some (.inl x), a5] st σ Q ↔ sl_Go xs N 119 176 [a0, a1, a2, some (.inr (.inr z)), some (.inl (x + 1)), a5] st σ Q := gk_iinc rfl rfl rfl rfl
theorem g119_176 {L : sl_L} : sl_Go xs N 119 176 L st σ Q ↔ sl_Go xs N 119 77 L st σ Q := gk_goto rfl
theorem g119_179 {x : sl_R} {a1 a2 a3 a4 a5 : Option sl_V} : sl_Go xs N 119 179 [some (.inr (.inr x)), a1, a2, a3, a4, a5] st σ Q ↔ sl_Go xs N 119 180 [some (.inr (.inr x)), a1, a2, a3, a4, a5] (.inr (.inr x) :: st) σ Q := gk_aload rfl rfl
theorem g119_180i {L : sl_L} {x : Int32} : sl_Go xs N 119 180 L (.inl x :: st) σ Q ↔ sl_Go xs N 119 181 L (.inl x :: .inl x :: st) σ Q := gk_dupi rfl
theorem g119_180r {L : sl_L} {x : sl_R} : sl_Go xs N 119 180 L (.inr (.inr x) :: st) σ Q ↔ sl_Go xs N 119 181 L (.inr (.inr x) :: .inr (.inr x) :: st) σ Q := gk_dupr rfl
theorem g119_181 {L : sl_L} {i t : Nat} : sl_Go xs N 119 181 L (.inr (.inr (40, i, t)) :: st) σ Q ↔ sl_Go xs N 119 184 L (.inl (σ 8 0 4) :: st) σ Q := gk_get (g := .inl (8, 0, 4)) rfl rfl rfl
theorem g119_184 {L : sl_L} : sl_Go xs N 119 184 L st σ Q ↔ sl_Go xs N 119 185 L (.inl 1 :: st) σ Q := gk_const rfl
theorem g119_185 {L : sl_L} {x y : Int32} : sl_Go xs N 119 185 L (.inl y :: .inl x :: st) σ Q ↔ sl_Go xs N 119 186 L (.inl (x + y) :: st) σ Q := gk_bin (b := 8) rfl
theorem g119_186 {L : sl_L} {x : Int32} {i t : Nat} : sl_Go xs N 119 186 L (.inl x :: .inr (.inr (40, i, t)) :: st) σ Q ↔ sl_Go xs N 119 189 L st (sl_up σ 8 0 4 x) Q := gk_put0 (q := (8, 0, 4)) rfl rfl rfl
theorem g119_189 {L : sl_L} : sl_Go xs N 119 189 L st σ Q ↔ sl_Go xs N 119 190 L (.inl 1 :: st) σ Q := gk_const rfl
theorem g119_190 {L : sl_L} {x : Int32} : sl_Go xs N 119 190 L [.inl x] σ Q ↔ (x = 0 ∨ x = 1) ∧ Q (some (.inl x)) σ := gk_zret rfl
theorem g120_0 {x : sl_R} : sl_Go xs N 120 0 [some (.inr (.inr x))] st σ Q ↔ sl_Go xs N 120 1 [some (.inr (.inr x))] (.inr (.inr x) :: st) σ Q := gk_aload rfl rfl
theorem g120_1 {L : sl_L} : sl_Go xs N 120 1 L st σ Q ↔ sl_Go xs N 120 2 L (.inl 0 :: st) σ Q := gk_const rfl
theorem g120_2 {L : sl_L} {x : Int32} {i t : Nat} : sl_Go xs N 120 2 L (.inl x :: .inr (.inr (40, i, t)) :: st) σ Q ↔ sl_Go xs N 120 5 L st (sl_up σ 8 0 4 x) Q := gk_put0 (q := (8, 0, 4)) rfl rfl rfl
theorem g120_5 {x : sl_R} : sl_Go xs N 120 5 [some (.inr (.inr x))] st σ Q ↔ sl_Go xs N 120 6 [some (.inr (.inr x))] (.inr (.inr x) :: st) σ Q := gk_aload rfl rfl
theorem g120_6 {L : sl_L} : sl_Go xs N 120 6 L st σ Q ↔ sl_Go xs N 120 7 L (.inl 0 :: st) σ Q := gk_const rfl
theorem g120_7 {L : sl_L} {x : Int32} {i t : Nat} : sl_Go xs N 120 7 L (.inl x :: .inr (.inr (40, i, t)) :: st) σ Q ↔ sl_Go xs N 120 10 L st (sl_up σ 8 0 6 x) Q := gk_put0 (q := (8, 0, 6)) rfl rfl rfl
theorem g120_10 {x : sl_R} : sl_Go xs N 120 10 [some (.inr (.inr x))] st σ Q ↔ sl_Go xs N 120 11 [some (.inr (.inr x))] (.inr (.inr x) :: st) σ Q := gk_aload rfl rfl
theorem g120_11 {L : sl_L} {i t : Nat} : sl_Go xs N 120 11 L (.inr (.inr (40, i, t)) :: st) σ Q ↔ sl_Go xs N 120 14 L (.inl (σ 8 0 4) :: st) σ Q := gk_get (g := .inl (8, 0, 4)) rfl rfl rfl
theorem g120_14 {x : sl_R} : sl_Go xs N 120 14 [some (.inr (.inr x))] st σ Q ↔ sl_Go xs N 120 15 [some (.inr (.inr x))] (.inr (.inr x) :: st) σ Q := gk_aload rfl rfl
theorem g120_15 {L : sl_L} {i t : Nat} : sl_Go xs N 120 15 L (.inr (.inr (40, i, t)) :: st) σ Q ↔ sl_Go xs N 120 18 L (.inl (σ 8 0 7) :: st) σ Q := gk_get (g := .inl (8, 0, 7)) rfl rfl rfl
theorem g120_18 {L : sl_L} {x y : Int32} : sl_Go xs N 120 18 L (.inl y :: .inl x :: st) σ Q ↔ (y ≤ x → sl_Go xs N 120 50 L st σ Q) ∧ (¬ y ≤ x → sl_Go xs N 120 21 L st σ Q) := gk_ige rfl
theorem g120_21 {x : sl_R} : sl_Go xs N 120 21 [some (.inr (.inr x))] st σ Q ↔ sl_Go xs N 120 22 [some (.inr (.inr x))] (.inr (.inr x) :: st) σ Q := gk_aload rfl rfl
theorem g120_22 {L : sl_L} {o : sl_R} : sl_Go xs N 120 22 L (.inr (.inr o) :: st) σ Q ↔ sl_cw st ≤ 8 ∧ sl_Go xs N 114 0 [some (.inr (.inr o))] [] σ (fun r τ => sl_Go xs N 120 25 L (r.toList ++ st) τ Q) := gk_call rfl (Nat.le_add_left 1 st.length) rfl rfl rfl
theorem g120_25 {L : sl_L} : sl_Go xs N 120 25 L st σ Q ↔ sl_Go xs N 120 27 L (.inl 40 :: st) σ Q := gk_const rfl
theorem g120_27 {L : sl_L} {x y : Int32} : sl_Go xs N 120 27 L (.inl y :: .inl x :: st) σ Q ↔ (¬ x = y → sl_Go xs N 120 40 L st σ Q) ∧ (x = y → sl_Go xs N 120 30 L st σ Q) := gk_ine rfl
theorem g120_30 {x : sl_R} : sl_Go xs N 120 30 [some (.inr (.inr x))] st σ Q ↔ sl_Go xs N 120 31 [some (.inr (.inr x))] (.inr (.inr x) :: st) σ Q := gk_aload rfl rfl
theorem g120_31 {L : sl_L} {o : sl_R} : sl_Go xs N 120 31 L (.inr (.inr o) :: st) σ Q ↔ sl_cw st ≤ 8 ∧ sl_Go xs N 119 0 [some (.inr (.inr o)), none, none, none, none, none] [] σ (fun r τ => sl_Go xs N 120 34 L (r.toList ++ st) τ Q) := gk_call rfl (Nat.le_add_left 1 st.length) rfl rfl rfl
theorem g120_34 {L : sl_L} {x : Int32} : sl_Go xs N 120 34 L (.inl x :: st) σ Q ↔ (¬ x = 0 → sl_Go xs N 120 10 L st σ Q) ∧ (x = 0 → sl_Go xs N 120 37 L st σ Q) := gk_zne rfl
theorem g120_37 {L : sl_L} : sl_Go xs N 120 37 L st σ Q ↔ sl_Go xs N 120 48 L st σ Q := gk_goto rfl
theorem g120_40 {x : sl_R} : sl_Go xs N 120 40 [some (.inr (.inr x))] st σ Q ↔ sl_Go xs N 120 41 [some (.inr (.inr x))] (.inr (.inr x) :: st) σ Q := gk_aload rfl rfl
theorem g120_41 {L : sl_L} : sl_Go xs N 120 41 L st σ Q ↔ sl_Go xs N 120 42 L (.inl 1 :: st) σ Q := gk_const rfl
theorem g120_42 {L : sl_L} {o : sl_R} {x0 : Int32} : sl_Go xs N 120 42 L (.inl x0 :: .inr (.inr o) :: st) σ Q ↔ sl_cw st ≤ 8 ∧ sl_Go xs N 118 0 [some (.inr (.inr o)), some (.inl x0), none, none, none] [] σ (fun r τ => sl_Go xs N 120 45 L (r.toList ++ st) τ Q) := gk_call rfl (Nat.le_add_left 2 st.length) rfl rfl rfl
theorem g120_45 {L : sl_L} {x : Int32} : sl_Go xs N 120 45 L (.inl x :: st) σ Q ↔ (¬ x = 0 → sl_Go xs N 120 10 L st σ Q) ∧ (x = 0 → sl_Go xs N 120 48 L st σ Q) := gk_zne rfl
theorem g120_48 {L : sl_L} : sl_Go xs N 120 48 L st σ Q ↔ sl_Go xs N 120 49 L (.inl 0 :: st) σ Q := gk_const rfl
theorem g120_49 {L : sl_L} {x : Int32} : sl_Go xs N 120 49 L [.inl x] σ Q ↔ (x = 0 ∨ x = 1) ∧ Q (some (.inl x)) σ := gk_zret rfl
theorem g120_50 {L : sl_L} : sl_Go xs N 120 50 L st σ Q ↔ sl_Go xs N 120 51 L (.inl 1 :: st) σ Q := gk_const rfl
theorem g120_51 {L : sl_L} {x : Int32} : sl_Go xs N 120 51 L [.inl x] σ Q ↔ (x = 0 ∨ x = 1) ∧ Q (some (.inl x)) σ := gk_zret rfl
theorem g121_0 {x : sl_R} {a1 : Option sl_V} : sl_Go xs N 121 0 [some (.inr (.inr x)), a1] st σ Q ↔ sl_Go xs N 121 1 [some (.inr (.inr x)), a1] (.inr (.inr x) :: st) σ Q := gk_aload rfl rfl
theorem g121_1 {L : sl_L} {i t : Nat} : sl_Go xs N 121 1 L (.inr (.inr (40, i, t)) :: st) σ Q ↔ sl_Go xs N 121 4 L (.inl (σ 6 0 2) :: st) σ Q := gk_get (g := .inl (6, 0, 2)) rfl rfl rfl
theorem g121_4 {L : sl_L} : sl_Go xs N 121 4 L st σ Q ↔ sl_Go xs N 121 6 L (.inl 6 :: st) σ Q := gk_const rfl
theorem g121_6 {L : sl_L} {x y : Int32} : sl_Go xs N 121 6 L (.inl y :: .inl x :: st) σ Q ↔ (¬ x = y → sl_Go xs N 121 12 L st σ Q) ∧ (x = y → sl_Go xs N 121 9 L st σ Q) := gk_ine rfl
theorem g121_9 {L : sl_L} : sl_Go xs N 121 9 L st σ Q ↔ sl_Go xs N 121 11 L (.inl (-4) :: st) σ Q := gk_const rfl
theorem g121_11 {L : sl_L} {x : Int32} : sl_Go xs N 121 11 L [.inl x] σ Q ↔ Q (some (.inl x)) σ := gk_iret rfl
theorem g121_12 {x : sl_R} {a1 : Option sl_V} : sl_Go xs N 121 12 [some (.inr (.inr x)), a1] st σ Q ↔ sl_Go xs N 121 13 [some (.inr (.inr x)), a1] (.inr (.inr x) :: st) σ Q := gk_aload rfl rfl
theorem g121_13 {x : sl_R} {a1 : Option sl_V} : sl_Go xs N 121 13 [some (.inr (.inr x)), a1] st σ Q ↔ sl_Go xs N 121 14 [some (.inr (.inr x)), a1] (.inr (.inr x) :: st) σ Q := gk_aload rfl rfl
theorem g121_14 {L : sl_L} {i t : Nat} : sl_Go xs N 121 14 L (.inr (.inr (40, i, t)) :: st) σ Q ↔ sl_Go xs N 121 17 L (.inl (σ 8 0 3) :: st) σ Q := gk_get (g := .inl (8, 0, 3)) rfl rfl rfl
theorem g121_17 {L : sl_L} {x : Int32} {i t : Nat} : sl_Go xs N 121 17 L (.inl x :: .inr (.inr (40, i, t)) :: st) σ Q ↔ sl_Go xs N 121 20 L st (sl_up σ 8 0 7 x) Q := gk_put0 (q := (8, 0, 7)) rfl rfl rfl
theorem g121_20 {x : sl_R} {a1 : Option sl_V} : sl_Go xs N 121 20 [some (.inr (.inr x)), a1] st σ Q ↔ sl_Go xs N 121 21 [some (.inr (.inr x)), a1] (.inr (.inr x) :: st) σ Q := gk_aload rfl rfl
theorem g121_21 {L : sl_L} : sl_Go xs N 121 21 L st σ Q ↔ sl_Go xs N 121 22 L (.inl 0 :: st) σ Q := gk_const rfl
theorem g121_22 {L : sl_L} {x : Int32} {i t : Nat} : sl_Go xs N 121 22 L (.inl x :: .inr (.inr (40, i, t)) :: st) σ Q ↔ sl_Go xs N 121 25 L st (sl_up σ 8 0 3 x) Q := gk_put0 (q := (8, 0, 3)) rfl rfl rfl
theorem g121_25 {x : sl_R} {a1 : Option sl_V} : sl_Go xs N 121 25 [some (.inr (.inr x)), a1] st σ Q ↔ sl_Go xs N 121 26 [some (.inr (.inr x)), a1] (.inr (.inr x) :: st) σ Q := gk_aload rfl rfl
theorem g121_26 {L : sl_L} {o : sl_R} : sl_Go xs N 121 26 L (.inr (.inr o) :: st) σ Q ↔ sl_cw st ≤ 8 ∧ sl_Go xs N 120 0 [some (.inr (.inr o))] [] σ (fun r τ => sl_Go xs N 121 29 L (r.toList ++ st) τ Q) := gk_call rfl (Nat.le_add_left 1 st.length) rfl rfl rfl
theorem g121_29 {L : sl_L} {x : Int32} : sl_Go xs N 121 29 L (.inl x :: st) σ Q ↔ (¬ x = 0 → sl_Go xs N 121 40 L st σ Q) ∧ (x = 0 → sl_Go xs N 121 32 L st σ Q) := gk_zne rfl
theorem g121_32 {L : sl_L} : sl_Go xs N 121 32 L st σ Q ↔ sl_Go xs N 121 34 L (.inl (-100) :: st) σ Q := gk_const rfl
theorem g121_34 {x : sl_R} {a1 : Option sl_V} : sl_Go xs N 121 34 [some (.inr (.inr x)), a1] st σ Q ↔ sl_Go xs N 121 35 [some (.inr (.inr x)), a1] (.inr (.inr x) :: st) σ Q := gk_aload rfl rfl
theorem g121_35 {L : sl_L} {i t : Nat} : sl_Go xs N 121 35 L (.inr (.inr (40, i, t)) :: st) σ Q ↔ sl_Go xs N 121 38 L (.inl (σ 8 0 4) :: st) σ Q := gk_get (g := .inl (8, 0, 4)) rfl rfl rfl
theorem g121_38 {L : sl_L} {x y : Int32} : sl_Go xs N 121 38 L (.inl y :: .inl x :: st) σ Q ↔ sl_Go xs N 121 39 L (.inl (x - y) :: st) σ Q := gk_bin (b := 9) rfl
theorem g121_39 {L : sl_L} {x : Int32} : sl_Go xs N 121 39 L [.inl x] σ Q ↔ Q (some (.inl x)) σ := gk_iret rfl
theorem g121_40 {x : sl_R} {a1 : Option sl_V} : sl_Go xs N 121 40 [some (.inr (.inr x)), a1] st σ Q ↔ sl_Go xs N 121 41 [some (.inr (.inr x)), a1] (.inr (.inr x) :: st) σ Q := gk_aload rfl rfl
theorem g121_41 {L : sl_L} {i t : Nat} : sl_Go xs N 121 41 L (.inr (.inr (40, i, t)) :: st) σ Q ↔ sl_Go xs N 121 44 L (.inr (.inr (58, 0, 0)) :: st) σ Q := gk_get (g := .inr (58, 0, 0)) rfl rfl rfl
theorem g121_44 {x : sl_R} {a1 : Option sl_V} : sl_Go xs N 121 44 [some (.inr (.inr x)), a1] st σ Q ↔ sl_Go xs N 121 45 [some (.inr (.inr x)), a1] (.inr (.inr x) :: st) σ Q := gk_aload rfl rfl
theorem g121_45 {L : sl_L} {i t : Nat} : sl_Go xs N 121 45 L (.inr (.inr (40, i, t)) :: st) σ Q ↔ sl_Go xs N 121 48 L (.inl (σ 6 0 2) :: st) σ Q := gk_get (g := .inl (6, 0, 2)) rfl rfl rfl
theorem g121_48 {x : sl_R} {a1 : Option sl_V} : sl_Go xs N 121 48 [some (.inr (.inr x)), a1] st σ Q ↔ sl_Go xs N 121 49 [some (.inr (.inr x)), a1] (.inr (.inr x) :: st) σ Q := gk_aload rfl rfl
theorem g121_49 {L : sl_L} {i t : Nat} : sl_Go xs N 121 49 L (.inr (.inr (40, i, t)) :: st) σ Q ↔ sl_Go xs N 121 52 L (.inl (σ 8 0 6) :: st) σ Q := gk_get (g := .inl (8, 0, 6)) rfl rfl rfl
theorem g121_52 {L : sl_L} {j x : Int32} {r : sl_R} : sl_Go xs N 121 52 L (.inl x :: .inl j :: .inr (.inr r) :: st) σ Q ↔ (0 ≤ j.toInt ∧ j.toInt < sl_wlen r 0) ∧ sl_Go xs N 121 53 L st (sl_wr σ r j.toNatClampNeg x) Q := gk_iast rfl
theorem g121_53 {L : sl_L} : sl_Go xs N 121 53 L st σ Q ↔ sl_Go xs N 121 54 L (.inl 0 :: st) σ Q := gk_const rfl
theorem g121_54n {x : Int32} {a1 : Option sl_V} : sl_Go xs N 121 54 [none, a1] (.inl x :: st) σ Q ↔ sl_Go xs N 121 55 [none, some (.inl x)] st σ Q := gk_istore rfl ⟨Nat.le_of_ble_eq_true rfl, rfl⟩ rfl
theorem g121_54i {x : Int32} {z : Int32} {a1 : Option sl_V} : sl_Go xs N 121 54 [some (.inl z), a1] (.inl x :: st) σ Q ↔ sl_Go xs N 121 55 [some (.inl z), some (.inl x)] st σ Q := gk_istore rfl ⟨Nat.le_of_ble_eq_true rfl, rfl⟩ rfl
theorem g121_54r {x : Int32} {z : sl_R} {a1 : Option sl_V} : sl_Go xs N 121 54 [some (.inr (.inr z)), a1] (.inl x :: st) σ Q ↔ sl_Go xs N 121 55 [some (.inr (.inr z)), some (.inl x)] st σ Q := gk_istore rfl ⟨Nat.le_of_ble_eq_true rfl, rfl⟩ rfl
theorem g121_55 {x : Int32} {a0 : Option sl_V} : sl_Go xs N 121 55 [a0, some (.inl x)] st σ Q ↔ sl_Go xs N 121 56 [a0, some (.inl x)] (.inl x :: st) σ Q := gk_iload rfl rfl
theorem g121_56 {x : sl_R} {a1 : Option sl_V} : sl_Go xs N 121 56 [some (.inr (.inr x)), a1] st σ Q ↔ sl_Go xs N 121 57 [some (.inr (.inr x)), a1] (.inr (.inr x) :: st) σ Q := gk_aload rfl rfl
theorem g121_57 {L : sl_L} {i t : Nat} : sl_Go xs N 121 57 L (.inr (.inr (40, i, t)) :: st) σ Q ↔ sl_Go xs N 121 60 L (.inl (σ 8 0 6) :: st) σ Q := gk_get (g := .inl (8, 0, 6)) rfl rfl rfl
theorem g121_60 {L : sl_L} {x y : Int32} : sl_Go xs N 121 60 L (.inl y :: .inl x :: st) σ Q ↔ (y ≤ x → sl_Go xs N 121 115 L st σ Q) ∧ (¬ y ≤ x → sl_Go xs N 121 63 L st σ Q) := gk_ige rfl
theorem g121_63 {x : sl_R} {a1 : Option sl_V} : sl_Go xs N 121 63 [some (.inr (.inr x)), a1] st σ Q ↔ sl_Go xs N 121 64 [some (.inr (.inr x)), a1] (.inr (.inr x) :: st) σ Q := gk_aload rfl rfl
theorem g121_64 {L : sl_L} {i t : Nat} : sl_Go xs N 121 64 L (.inr (.inr (40, i, t)) :: st) σ Q ↔ sl_Go xs N 121 67 L (.inr (.inr (59, 0, 0)) :: st) σ Q := gk_get (g := .inr (59, 0, 0)) rfl rfl rfl
theorem g121_67 {L : sl_L} : sl_Go xs N 121 67 L st σ Q ↔ sl_Go xs N 121 69 L (.inl 12 :: st) σ Q := gk_const rfl
theorem g121_69 {x : sl_R} {a1 : Option sl_V} : sl_Go xs N 121 69 [some (.inr (.inr x)), a1] st σ Q ↔ sl_Go xs N 121 70 [some (.inr (.inr x)), a1] (.inr (.inr x) :: st) σ Q := gk_aload rfl rfl
theorem g121_70 {L : sl_L} {i t : Nat} : sl_Go xs N 121 70 L (.inr (.inr (40, i, t)) :: st) σ Q ↔ sl_Go xs N 121 73 L (.inl (σ 6 0 2) :: st) σ Q := gk_get (g := .inl (6, 0, 2)) rfl rfl rfl
theorem g121_73 {L : sl_L} {x y : Int32} : sl_Go xs N 121 73 L (.inl y :: .inl x :: st) σ Q ↔ sl_Go xs N 121 74 L (.inl (x * y) :: st) σ Q := gk_bin (b := 10) rfl
theorem g121_74 {x : Int32} {a0 : Option sl_V} : sl_Go xs N 121 74 [a0, some (.inl x)] st σ Q ↔ sl_Go xs N 121 75 [a0, some (.inl x)] (.inl x :: st) σ Q := gk_iload rfl rfl
theorem g121_75 {L : sl_L} {x y : Int32} : sl_Go xs N 121 75 L (.inl y :: .inl x :: st) σ Q ↔ sl_Go xs N 121 76 L (.inl (x + y) :: st) σ Q := gk_bin (b := 8) rfl
theorem g121_76 {x : sl_R} {a1 : Option sl_V} : sl_Go xs N 121 76 [some (.inr (.inr x)), a1] st σ Q ↔ sl_Go xs N 121 77 [some (.inr (.inr x)), a1] (.inr (.inr x) :: st) σ Q := gk_aload rfl rfl
theorem g121_77 {L : sl_L} {i t : Nat} : sl_Go xs N 121 77 L (.inr (.inr (40, i, t)) :: st) σ Q ↔ sl_Go xs N 121 80 L (.inr (.inr (59, 0, 0)) :: st) σ Q := gk_get (g := .inr (59, 0, 0)) rfl rfl rfl
theorem g121_80 {L : sl_L} : sl_Go xs N 121 80 L st σ Q ↔ sl_Go xs N 121 82 L (.inl 72 :: st) σ Q := gk_const rfl
theorem g121_82 {x : Int32} {a0 : Option sl_V} : sl_Go xs N 121 82 [a0, some (.inl x)] st σ Q ↔ sl_Go xs N 121 83 [a0, some (.inl x)] (.inl x :: st) σ Q := gk_iload rfl rfl
theorem g121_83 {L : sl_L} {x y : Int32} : sl_Go xs N 121 83 L (.inl y :: .inl x :: st) σ Q ↔ sl_Go xs N 121 84 L (.inl (x + y) :: st) σ Q := gk_bin (b := 8) rfl
theorem g121_84 {L : sl_L} {j : Int32} {r : sl_R} : sl_Go xs N 121 84 L (.inl j :: .inr (.inr r) :: st) σ Q ↔ (0 ≤ j.toInt ∧ j.toInt < sl_ilen N r) ∧ sl_Go xs N 121 85 L (.inl (sl_rd xs σ r j.toNatClampNeg) :: st) σ Q := gk_iald rfl
theorem g121_85 {L : sl_L} {j x : Int32} {r : sl_R} : sl_Go xs N 121 85 L (.inl x :: .inl j :: .inr (.inr r) :: st) σ Q ↔ (0 ≤ j.toInt ∧ j.toInt < sl_wlen r 0) ∧ sl_Go xs N 121 86 L st (sl_wr σ r j.toNatClampNeg x) Q := gk_iast rfl
theorem g121_86 {x : sl_R} {a1 : Option sl_V} : sl_Go xs N 121 86 [some (.inr (.inr x)), a1] st σ Q ↔ sl_Go xs N 121 87 [some (.inr (.inr x)), a1] (.inr (.inr x) :: st) σ Q := gk_aload rfl rfl
theorem g121_87 {L : sl_L} {i t : Nat} : sl_Go xs N 121 87 L (.inr (.inr (40, i, t)) :: st) σ Q ↔ sl_Go xs N 121 90 L (.inr (.inr (60, 0, 0)) :: st) σ Q := gk_get (g := .inr (60, 0, 0)) rfl rfl rfl
theorem g121_90 {L : sl_L} : sl_Go xs N 121 90 L st σ Q ↔ sl_Go xs N 121 92 L (.inl 12 :: st) σ Q := gk_const rfl
theorem g121_92 {x : sl_R} {a1 : Option sl_V} : sl_Go xs N 121 92 [some (.inr (.inr x)), a1] st σ Q ↔ sl_Go xs N 121 93 [some (.inr (.inr x)), a1] (.inr (.inr x) :: st) σ Q := gk_aload rfl rfl
theorem g121_93 {L : sl_L} {i t : Nat} : sl_Go xs N 121 93 L (.inr (.inr (40, i, t)) :: st) σ Q ↔ sl_Go xs N 121 96 L (.inl (σ 6 0 2) :: st) σ Q := gk_get (g := .inl (6, 0, 2)) rfl rfl rfl
theorem g121_96 {L : sl_L} {x y : Int32} : sl_Go xs N 121 96 L (.inl y :: .inl x :: st) σ Q ↔ sl_Go xs N 121 97 L (.inl (x * y) :: st) σ Q := gk_bin (b := 10) rfl
theorem g121_97 {x : Int32} {a0 : Option sl_V} : sl_Go xs N 121 97 [a0, some (.inl x)] st σ Q ↔ sl_Go xs N 121 98 [a0, some (.inl x)] (.inl x :: st) σ Q := gk_iload rfl rfl
theorem g121_98 {L : sl_L} {x y : Int32} : sl_Go xs N 121 98 L (.inl y :: .inl x :: st) σ Q ↔ sl_Go xs N 121 99 L (.inl (x + y) :: st) σ Q := gk_bin (b := 8) rfl
theorem g121_99 {x : sl_R} {a1 : Option sl_V} : sl_Go xs N 121 99 [some (.inr (.inr x)), a1] st σ Q ↔ sl_Go xs N 121 100 [some (.inr (.inr x)), a1] (.inr (.inr x) :: st) σ Q := gk_aload rfl rfl
theorem g121_100 {L : sl_L} {i t : Nat} : sl_Go xs N 121 100 L (.inr (.inr (40, i, t)) :: st) σ Q ↔ sl_Go xs N 121 103 L (.inr (.inr (60, 0, 0)) :: st) σ Q := gk_get (g := .inr (60, 0, 0)) rfl rfl rfl
theorem g121_103 {L : sl_L} : sl_Go xs N 121 103 L st σ Q ↔ sl_Go xs N 121 105 L (.inl 72 :: st) σ Q := gk_const rfl
theorem g121_105 {x : Int32} {a0 : Option sl_V} : sl_Go xs N 121 105 [a0, some (.inl x)] st σ Q ↔ sl_Go xs N 121 106 [a0, some (.inl x)] (.inl x :: st) σ Q := gk_iload rfl rfl
theorem g121_106 {L : sl_L} {x y : Int32} : sl_Go xs N 121 106 L (.inl y :: .inl x :: st) σ Q ↔ sl_Go xs N 121 107 L (.inl (x + y) :: st) σ Q := gk_bin (b := 8) rfl
theorem g121_107 {L : sl_L} {j : Int32} {r : sl_R} : sl_Go xs N 121 107 L (.inl j :: .inr (.inr r) :: st) σ Q ↔ (0 ≤ j.toInt ∧ j.toInt < sl_ilen N r) ∧ sl_Go xs N 121 108 L (.inl (sl_rd xs σ r j.toNatClampNeg) :: st) σ Q := gk_iald rfl
theorem g121_108 {L : sl_L} {j x : Int32} {r : sl_R} : sl_Go xs N 121 108 L (.inl x :: .inl j :: .inr (.inr r) :: st) σ Q ↔ (0 ≤ j.toInt ∧ j.toInt < sl_wlen r 0) ∧ sl_Go xs N 121 109 L st (sl_wr σ r j.toNatClampNeg x) Q := gk_iast rfl
theorem g121_109n {x : Int32} : sl_Go xs N 121 109 [none, some (.inl x)] st σ Q ↔ sl_Go xs N 121 112 [none, some (.inl (x + 1))] st σ Q := gk_iinc rfl rfl rfl rfl
theorem g121_109i {x : Int32} {z : Int32} : sl_Go xs N 121 109 [some (.inl z), some (.inl x)] st σ Q ↔ sl_Go xs N 121 112 [some (.inl z), some (.inl (x + 1))] st σ Q := gk_iinc rfl rfl rfl rfl
theorem g121_109r {x : Int32} {z : sl_R} : sl_Go xs N 121 109 [some (.inr (.inr z)), some (.inl x)] st σ Q ↔ sl_Go xs N 121 112 [some (.inr (.inr z)), some (.inl (x + 1))] st σ Q := gk_iinc rfl rfl rfl rfl
theorem g121_112 {L : sl_L} : sl_Go xs N 121 112 L st σ Q ↔ sl_Go xs N 121 55 L st σ Q := gk_goto rfl
theorem g121_115 {x : sl_R} {a1 : Option sl_V} : sl_Go xs N 121 115 [some (.inr (.inr x)), a1] st σ Q ↔ sl_Go xs N 121 116 [some (.inr (.inr x)), a1] (.inr (.inr x) :: st) σ Q := gk_aload rfl rfl
theorem g121_116i {L : sl_L} {x : Int32} : sl_Go xs N 121 116 L (.inl x :: st) σ Q ↔ sl_Go xs N 121 117 L (.inl x :: .inl x :: st) σ Q := gk_dupi rfl
theorem g121_116r {L : sl_L} {x : sl_R} : sl_Go xs N 121 116 L (.inr (.inr x) :: st) σ Q ↔ sl_Go xs N 121 117 L (.inr (.inr x) :: .inr (.inr x) :: st) σ Q := gk_dupr rfl
theorem g121_117 {L : sl_L} {i t : Nat} : sl_Go xs N 121 117 L (.inr (.inr (40, i, t)) :: st) σ Q ↔ sl_Go xs N 121 120 L (.inl (σ 6 0 2) :: st) σ Q := gk_get (g := .inl (6, 0, 2)) rfl rfl rfl
theorem g121_120 {L : sl_L} : sl_Go xs N 121 120 L st σ Q ↔ sl_Go xs N 121 121 L (.inl 1 :: st) σ Q := gk_const rfl
theorem g121_121 {L : sl_L} {x y : Int32} : sl_Go xs N 121 121 L (.inl y :: .inl x :: st) σ Q ↔ sl_Go xs N 121 122 L (.inl (x + y) :: st) σ Q := gk_bin (b := 8) rfl
theorem g121_122 {L : sl_L} {x : Int32} {i t : Nat} : sl_Go xs N 121 122 L (.inl x :: .inr (.inr (40, i, t)) :: st) σ Q ↔ sl_Go xs N 121 125 L st (sl_up σ 6 0 2 x) Q := gk_put0 (q := (6, 0, 2)) rfl rfl rfl
theorem g121_125 {x : sl_R} {a1 : Option sl_V} : sl_Go xs N 121 125 [some (.inr (.inr x)), a1] st σ Q ↔ sl_Go xs N 121 126 [some (.inr (.inr x)), a1] (.inr (.inr x) :: st) σ Q := gk_aload rfl rfl
theorem g121_126 {L : sl_L} {i t : Nat} : sl_Go xs N 121 126 L (.inr (.inr (40, i, t)) :: st) σ Q ↔ sl_Go xs N 121 129 L (.inl (σ 6 0 2) :: st) σ Q := gk_get (g := .inl (6, 0, 2)) rfl rfl rfl
theorem g121_129 {L : sl_L} : sl_Go xs N 121 129 L st σ Q ↔ sl_Go xs N 121 130 L (.inl 1 :: st) σ Q := gk_const rfl
theorem g121_130 {L : sl_L} {x y : Int32} : sl_Go xs N 121 130 L (.inl y :: .inl x :: st) σ Q ↔ sl_Go xs N 121 131 L (.inl (x - y) :: st) σ Q := gk_bin (b := 9) rfl
theorem g121_131 {L : sl_L} {x : Int32} : sl_Go xs N 121 131 L [.inl x] σ Q ↔ Q (some (.inl x)) σ := gk_iret rfl
theorem g122_0 {x : sl_R} {a1 : Option sl_V} : sl_Go xs N 122 0 [some (.inr (.inr x)), a1] st σ Q ↔ sl_Go xs N 122 1 [some (.inr (.inr x)), a1] (.inr (.inr x) :: st) σ Q := gk_aload rfl rfl
theorem g122_1 {x : Int32} {a0 : Option sl_V} : sl_Go xs N 122 1 [a0, some (.inl x)] st σ Q ↔ sl_Go xs N 122 2 [a0, some (.inl x)] (.inl x :: st) σ Q := gk_iload rfl rfl
theorem g122_2 {L : sl_L} : sl_Go xs N 122 2 L st σ Q ↔ sl_Go xs N 122 3 L (.inl 0 :: st) σ Q := gk_const rfl
theorem g122_3 {x : sl_R} {a1 : Option sl_V} : sl_Go xs N 122 3 [some (.inr (.inr x)), a1] st σ Q ↔ sl_Go xs N 122 4 [some (.inr (.inr x)), a1] (.inr (.inr x) :: st) σ Q := gk_aload rfl rfl
theorem g122_4 {L : sl_L} {i t : Nat} : sl_Go xs N 122 4 L (.inr (.inr (40, i, t)) :: st) σ Q ↔ sl_Go xs N 122 7 L (.inl (σ 6 0 2) :: st) σ Q := gk_get (g := .inl (6, 0, 2)) rfl rfl rfl
theorem g122_7 {L : sl_L} : sl_Go xs N 122 7 L st σ Q ↔ sl_Go xs N 122 8 L (.inl 1 :: st) σ Q := gk_const rfl
theorem g122_8 {L : sl_L} {x y : Int32} : sl_Go xs N 122 8 L (.inl y :: .inl x :: st) σ Q ↔ sl_Go xs N 122 9 L (.inl (x - y) :: st) σ Q := gk_bin (b := 9) rfl
theorem g122_9 {L : sl_L} {o : sl_R} {x0 : Int32} {x1 : Int32} {x2 : Int32} : sl_Go xs N 122 9 L (.inl x2 :: .inl x1 :: .inl x0 :: .inr (.inr o) :: st) σ Q ↔ sl_cw st ≤ 8 ∧ sl_Go xs N 91 0 [some (.inr (.inr o)), some (.inl x0), some (.inl x1), some (.inl x2)] [] σ (fun r τ => sl_Go xs N 122 12 L (r.toList ++ st) τ Q) := gk_call rfl (Nat.le_add_left 4 st.length) rfl rfl rfl
theorem g122_12 {L : sl_L} {x : Int32} : sl_Go xs N 122 12 L [.inl x] σ Q ↔ (x = 0 ∨ x = 1) ∧ Q (some (.inl x)) σ := gk_zret rfl
theorem g123_0 {x : sl_R} {a1 a2 a3 : Option sl_V} : sl_Go xs N 123 0 [some (.inr (.inr x)), a1, a2, a3] st σ Q ↔ sl_Go xs N 123 1 [some (.inr (.inr x)), a1, a2, a3] (.inr (.inr x) :: st) σ Q := gk_aload rfl rfl
theorem g123_1 {x : Int32} {a0 a2 a3 : Option sl_V} : sl_Go xs N 123 1 [a0, some (.inl x), a2, a3] st σ Q ↔ sl_Go xs N 123 2 [a0, some (.inl x), a2, a3] (.inl x :: st) σ Q := gk_iload rfl rfl
theorem g123_2 {L : sl_L} {o : sl_R} {x0 : Int32} : sl_Go xs N 123 2 L (.inl x0 :: .inr (.inr o) :: st) σ Q ↔ sl_cw st ≤ 8 ∧ sl_Go xs N 122 0 [some (.inr (.inr o)), some (.inl x0)] [] σ (fun r τ => sl_Go xs N 123 5 L (r.toList ++ st) τ Q) := gk_call rfl (Nat.le_add_left 2 st.length) rfl rfl rfl
theorem g123_5 {L : sl_L} {x : Int32} : sl_Go xs N 123 5 L (.inl x :: st) σ Q ↔ (¬ x = 0 → sl_Go xs N 123 11 L st σ Q) ∧ (x = 0 → sl_Go xs N 123 8 L st σ Q) := gk_zne rfl
theorem g123_8 {L : sl_L} : sl_Go xs N 123 8 L st σ Q ↔ sl_Go xs N 123 10 L (.inl (-100) :: st) σ Q := gk_const rfl
theorem g123_10 {L : sl_L} {x : Int32} : sl_Go xs N 123 10 L [.inl x] σ Q ↔ Q (some (.inl x)) σ := gk_iret rfl
theorem g123_11 {x : Int32} {a0 a1 a2 : Option sl_V} : sl_Go xs N 123 11 [a0, a1, a2, some (.inl x)] st σ Q ↔ sl_Go xs N 123 12 [a0, a1, a2, some (.inl x)] (.inl x :: st) σ Q := gk_iload rfl rfl
theorem g123_12 {L : sl_L} {x : Int32} : sl_Go xs N 123 12 L (.inl x :: st) σ Q ↔ (¬ x = 0 → sl_Go xs N 123 22 L st σ Q) ∧ (x = 0 → sl_Go xs N 123 15 L st σ Q) := gk_zne rfl
theorem g123_15 {x : sl_R} {a1 a2 a3 : Option sl_V} : sl_Go xs N 123 15 [some (.inr (.inr x)), a1, a2, a3] st σ Q ↔ sl_Go xs N 123 16 [some (.inr (.inr x)), a1, a2, a3] (.inr (.inr x) :: st) σ Q := gk_aload rfl rfl
theorem g123_16 {L : sl_L} {i t : Nat} : sl_Go xs N 123 16 L (.inr (.inr (40, i, t)) :: st) σ Q ↔ sl_Go xs N 123 19 L (.inr (.inr (58, 0, 0)) :: st) σ Q := gk_get (g := .inr (58, 0, 0)) rfl rfl rfl
theorem g123_19 {x : Int32} {a0 a2 a3 : Option sl_V} : sl_Go xs N 123 19 [a0, some (.inl x), a2, a3] st σ Q ↔ sl_Go xs N 123 20 [a0, some (.inl x), a2, a3] (.inl x :: st) σ Q := gk_iload rfl rfl
theorem g123_20 {L : sl_L} {j : Int32} {r : sl_R} : sl_Go xs N 123 20 L (.inl j :: .inr (.inr r) :: st) σ Q ↔ (0 ≤ j.toInt ∧ j.toInt < sl_ilen N r) ∧ sl_Go xs N 123 21 L (.inl (sl_rd xs σ r j.toNatClampNeg) :: st) σ Q := gk_iald rfl
theorem g123_21 {L : sl_L} {x : Int32} : sl_Go xs N 123 21 L [.inl x] σ Q ↔ Q (some (.inl x)) σ := gk_iret rfl
theorem g123_22 {x : sl_R} {a1 a2 a3 : Option sl_V} : sl_Go xs N 123 22 [some (.inr (.inr x)), a1, a2, a3] st σ Q ↔ sl_Go xs N 123 23 [some (.inr (.inr x)), a1, a2, a3] (.inr (.inr x) :: st) σ Q := gk_aload rfl rfl
theorem g123_23 {x : Int32} {a0 a1 a2 : Option sl_V} : sl_Go xs N 123 23 [a0, a1, a2, some (.inl x)] st σ Q ↔ sl_Go xs N 123 24 [a0, a1, a2, some (.inl x)] (.inl x :: st) σ Q := gk_iload rfl rfl
theorem g123_24 {L : sl_L} : sl_Go xs N 123 24 L st σ Q ↔ sl_Go xs N 123 25 L (.inl 1 :: st) σ Q := gk_const rfl
theorem g123_25 {L : sl_L} : sl_Go xs N 123 25 L st σ Q ↔ sl_Go xs N 123 26 L (.inl 2 :: st) σ Q := gk_const rfl
theorem g123_26 {L : sl_L} {o : sl_R} {x0 : Int32} {x1 : Int32} {x2 : Int32} : sl_Go xs N 123 26 L (.inl x2 :: .inl x1 :: .inl x0 :: .inr (.inr o) :: st) σ Q ↔ sl_cw st ≤ 8 ∧ sl_Go xs N 91 0 [some (.inr (.inr o)), some (.inl x0), some (.inl x1), some (.inl x2)] [] σ (fun r τ => sl_Go xs N 123 29 L (r.toList ++ st) τ Q) := gk_call rfl (Nat.le_add_left 4 st.length) rfl rfl rfl
theorem g123_29 {L : sl_L} {x : Int32} : sl_Go xs N 123 29 L (.inl x :: st) σ Q ↔ (x = 0 → sl_Go xs N 123 49 L st σ Q) ∧ (¬ x = 0 → sl_Go xs N 123 32 L st σ Q) := gk_zeq rfl
theorem g123_32 {x : sl_R} {a1 a2 a3 : Option sl_V} : sl_Go xs N 123 32 [some (.inr (.inr x)), a1, a2, a3] st σ Q ↔ sl_Go xs N 123 33 [some (.inr (.inr x)), a1, a2, a3] (.inr (.inr x) :: st) σ Q := gk_aload rfl rfl
theorem g123_33 {x : Int32} {a0 a1 a3 : Option sl_V} : sl_Go xs N 123 33 [a0, a1, some (.inl x), a3] st σ Q ↔ sl_Go xs N 123 34 [a0, a1, some (.inl x), a3] (.inl x :: st) σ Q := gk_iload rfl rfl
theorem g123_34 {L : sl_L} : sl_Go xs N 123 34 L st σ Q ↔ sl_Go xs N 123 35 L (.inl 0 :: st) σ Q := gk_const rfl
theorem g123_35 {x : sl_R} {a1 a2 a3 : Option sl_V} : sl_Go xs N 123 35 [some (.inr (.inr x)), a1, a2, a3] st σ Q ↔ sl_Go xs N 123 36 [some (.inr (.inr x)), a1, a2, a3] (.inr (.inr x) :: st) σ Q := gk_aload rfl rfl
theorem g123_36 {L : sl_L} {i t : Nat} : sl_Go xs N 123 36 L (.inr (.inr (40, i, t)) :: st) σ Q ↔ sl_Go xs N 123 39 L (.inr (.inr (58, 0, 0)) :: st) σ Q := gk_get (g := .inr (58, 0, 0)) rfl rfl rfl
theorem g123_39 {x : Int32} {a0 a2 a3 : Option sl_V} : sl_Go xs N 123 39 [a0, some (.inl x), a2, a3] st σ Q ↔ sl_Go xs N 123 40 [a0, some (.inl x), a2, a3] (.inl x :: st) σ Q := gk_iload rfl rfl
theorem g123_40 {L : sl_L} {j : Int32} {r : sl_R} : sl_Go xs N 123 40 L (.inl j :: .inr (.inr r) :: st) σ Q ↔ (0 ≤ j.toInt ∧ j.toInt < sl_ilen N r) ∧ sl_Go xs N 123 41 L (.inl (sl_rd xs σ r j.toNatClampNeg) :: st) σ Q := gk_iald rfl
theorem g123_41 {L : sl_L} : sl_Go xs N 123 41 L st σ Q ↔ sl_Go xs N 123 42 L (.inl 1 :: st) σ Q := gk_const rfl
theorem g123_42 {L : sl_L} {x y : Int32} : sl_Go xs N 123 42 L (.inl y :: .inl x :: st) σ Q ↔ sl_Go xs N 123 43 L (.inl (x - y) :: st) σ Q := gk_bin (b := 9) rfl
theorem g123_43 {L : sl_L} {o : sl_R} {x0 : Int32} {x1 : Int32} {x2 : Int32} : sl_Go xs N 123 43 L (.inl x2 :: .inl x1 :: .inl x0 :: .inr (.inr o) :: st) σ Q ↔ sl_cw st ≤ 8 ∧ sl_Go xs N 91 0 [some (.inr (.inr o)), some (.inl x0), some (.inl x1), some (.inl x2)] [] σ (fun r τ => sl_Go xs N 123 46 L (r.toList ++ st) τ Q) := gk_call rfl (Nat.le_add_left 4 st.length) rfl rfl rfl
theorem g123_46 {L : sl_L} {x : Int32} : sl_Go xs N 123 46 L (.inl x :: st) σ Q ↔ (¬ x = 0 → sl_Go xs N 123 52 L st σ Q) ∧ (x = 0 → sl_Go xs N 123 49 L st σ Q) := gk_zne rfl
theorem g123_49 {L : sl_L} : sl_Go xs N 123 49 L st σ Q ↔ sl_Go xs N 123 51 L (.inl (-101) :: st) σ Q := gk_const rfl
theorem g123_51 {L : sl_L} {x : Int32} : sl_Go xs N 123 51 L [.inl x] σ Q ↔ Q (some (.inl x)) σ := gk_iret rfl
theorem g123_52 {x : Int32} {a0 a1 a2 : Option sl_V} : sl_Go xs N 123 52 [a0, a1, a2, some (.inl x)] st σ Q ↔ sl_Go xs N 123 53 [a0, a1, a2, some (.inl x)] (.inl x :: st) σ Q := gk_iload rfl rfl
theorem g123_53 {L : sl_L} : sl_Go xs N 123 53 L st σ Q ↔ sl_Go xs N 123 54 L (.inl 1 :: st) σ Q := gk_const rfl
theorem g123_54 {L : sl_L} {x y : Int32} : sl_Go xs N 123 54 L (.inl y :: .inl x :: st) σ Q ↔ (¬ x = y → sl_Go xs N 123 71 L st σ Q) ∧ (x = y → sl_Go xs N 123 57 L st σ Q) := gk_ine rfl
theorem g123_57 {x : sl_R} {a1 a2 a3 : Option sl_V} : sl_Go xs N 123 57 [some (.inr (.inr x)), a1, a2, a3] st σ Q ↔ sl_Go xs N 123 58 [some (.inr (.inr x)), a1, a2, a3] (.inr (.inr x) :: st) σ Q := gk_aload rfl rfl
theorem g123_58 {L : sl_L} {i t : Nat} : sl_Go xs N 123 58 L (.inr (.inr (40, i, t)) :: st) σ Q ↔ sl_Go xs N 123 61 L (.inr (.inr (59, 0, 0)) :: st) σ Q := gk_get (g := .inr (59, 0, 0)) rfl rfl rfl
theorem g123_61 {L : sl_L} : sl_Go xs N 123 61 L st σ Q ↔ sl_Go xs N 123 63 L (.inl 12 :: st) σ Q := gk_const rfl
theorem g123_63 {x : Int32} {a0 a2 a3 : Option sl_V} : sl_Go xs N 123 63 [a0, some (.inl x), a2, a3] st σ Q ↔ sl_Go xs N 123 64 [a0, some (.inl x), a2, a3] (.inl x :: st) σ Q := gk_iload rfl rfl
theorem g123_64 {L : sl_L} {x y : Int32} : sl_Go xs N 123 64 L (.inl y :: .inl x :: st) σ Q ↔ sl_Go xs N 123 65 L (.inl (x * y) :: st) σ Q := gk_bin (b := 10) rfl
theorem g123_65 {x : Int32} {a0 a1 a3 : Option sl_V} : sl_Go xs N 123 65 [a0, a1, some (.inl x), a3] st σ Q ↔ sl_Go xs N 123 66 [a0, a1, some (.inl x), a3] (.inl x :: st) σ Q := gk_iload rfl rfl
theorem g123_66 {L : sl_L} {x y : Int32} : sl_Go xs N 123 66 L (.inl y :: .inl x :: st) σ Q ↔ sl_Go xs N 123 67 L (.inl (x + y) :: st) σ Q := gk_bin (b := 8) rfl
theorem g123_67 {L : sl_L} {j : Int32} {r : sl_R} : sl_Go xs N 123 67 L (.inl j :: .inr (.inr r) :: st) σ Q ↔ (0 ≤ j.toInt ∧ j.toInt < sl_ilen N r) ∧ sl_Go xs N 123 68 L (.inl (sl_rd xs σ r j.toNatClampNeg) :: st) σ Q := gk_iald rfl
theorem g123_68 {L : sl_L} : sl_Go xs N 123 68 L st σ Q ↔ sl_Go xs N 123 82 L st σ Q := gk_goto rfl
theorem g123_71 {x : sl_R} {a1 a2 a3 : Option sl_V} : sl_Go xs N 123 71 [some (.inr (.inr x)), a1, a2, a3] st σ Q ↔ sl_Go xs N 123 72 [some (.inr (.inr x)), a1, a2, a3] (.inr (.inr x) :: st) σ Q := gk_aload rfl rfl
theorem g123_72 {L : sl_L} {i t : Nat} : sl_Go xs N 123 72 L (.inr (.inr (40, i, t)) :: st) σ Q ↔ sl_Go xs N 123 75 L (.inr (.inr (60, 0, 0)) :: st) σ Q := gk_get (g := .inr (60, 0, 0)) rfl rfl rfl
theorem g123_75 {L : sl_L} : sl_Go xs N 123 75 L st σ Q ↔ sl_Go xs N 123 77 L (.inl 12 :: st) σ Q := gk_const rfl
theorem g123_77 {x : Int32} {a0 a2 a3 : Option sl_V} : sl_Go xs N 123 77 [a0, some (.inl x), a2, a3] st σ Q ↔ sl_Go xs N 123 78 [a0, some (.inl x), a2, a3] (.inl x :: st) σ Q := gk_iload rfl rfl
theorem g123_78 {L : sl_L} {x y : Int32} : sl_Go xs N 123 78 L (.inl y :: .inl x :: st) σ Q ↔ sl_Go xs N 123 79 L (.inl (x * y) :: st) σ Q := gk_bin (b := 10) rfl
theorem g123_79 {x : Int32} {a0 a1 a3 : Option sl_V} : sl_Go xs N 123 79 [a0, a1, some (.inl x), a3] st σ Q ↔ sl_Go xs N 123 80 [a0, a1, some (.inl x), a3] (.inl x :: st) σ Q := gk_iload rfl rfl
theorem g123_80 {L : sl_L} {x y : Int32} : sl_Go xs N 123 80 L (.inl y :: .inl x :: st) σ Q ↔ sl_Go xs N 123 81 L (.inl (x + y) :: st) σ Q := gk_bin (b := 8) rfl
theorem g123_81 {L : sl_L} {j : Int32} {r : sl_R} : sl_Go xs N 123 81 L (.inl j :: .inr (.inr r) :: st) σ Q ↔ (0 ≤ j.toInt ∧ j.toInt < sl_ilen N r) ∧ sl_Go xs N 123 82 L (.inl (sl_rd xs σ r j.toNatClampNeg) :: st) σ Q := gk_iald rfl
theorem g123_82 {L : sl_L} {x : Int32} : sl_Go xs N 123 82 L [.inl x] σ Q ↔ Q (some (.inl x)) σ := gk_iret rfl
theorem g124_0 {x : sl_R} {a1 : Option sl_V} : sl_Go xs N 124 0 [some (.inr (.inr x)), a1] st σ Q ↔ sl_Go xs N 124 1 [some (.inr (.inr x)), a1] (.inr (.inr x) :: st) σ Q := gk_aload rfl rfl
theorem g124_1 {x : Int32} {a0 : Option sl_V} : sl_Go xs N 124 1 [a0, some (.inl x)] st σ Q ↔ sl_Go xs N 124 2 [a0, some (.inl x)] (.inl x :: st) σ Q := gk_iload rfl rfl
theorem g124_2 {L : sl_L} {x : Int32} {i t : Nat} : sl_Go xs N 124 2 L (.inl x :: .inr (.inr (40, i, t)) :: st) σ Q ↔ sl_Go xs N 124 5 L st (sl_up σ 4 0 2 x) Q := gk_put0 (q := (4, 0, 2)) rfl rfl rfl
theorem g124_5 {x : sl_R} {a1 : Option sl_V} : sl_Go xs N 124 5 [some (.inr (.inr x)), a1] st σ Q ↔ sl_Go xs N 124 6 [some (.inr (.inr x)), a1] (.inr (.inr x) :: st) σ Q := gk_aload rfl rfl
theorem g124_6 {L : sl_L} : sl_Go xs N 124 6 L st σ Q ↔ sl_Go xs N 124 7 L (.inl (-1) :: st) σ Q := gk_const rfl
theorem g124_7 {L : sl_L} {x : Int32} {i t : Nat} : sl_Go xs N 124 7 L (.inl x :: .inr (.inr (40, i, t)) :: st) σ Q ↔ sl_Go xs N 124 10 L st (sl_up σ 4 9 0 x) Q := gk_put0 (q := (4, 9, 0)) rfl rfl rfl
theorem g124_10 {x : sl_R} {a1 : Option sl_V} : sl_Go xs N 124 10 [some (.inr (.inr x)), a1] st σ Q ↔ sl_Go xs N 124 11 [some (.inr (.inr x)), a1] (.inr (.inr x) :: st) σ Q := gk_aload rfl rfl
theorem g124_11 {L : sl_L} : sl_Go xs N 124 11 L st σ Q ↔ sl_Go xs N 124 12 L (.inl 0 :: st) σ Q := gk_const rfl
theorem g124_12 {L : sl_L} {x : Int32} {i t : Nat} : sl_Go xs N 124 12 L (.inl x :: .inr (.inr (40, i, t)) :: st) σ Q ↔ sl_Go xs N 124 15 L st (sl_up σ 4 9 1 x) Q := gk_put0 (q := (4, 9, 1)) rfl rfl rfl
theorem g124_15 {L : sl_L} : sl_Go xs N 124 15 L [] σ Q ↔ Q none σ := gk_vret rfl
theorem g125_0 {x : sl_R} {a1 : Option sl_V} : sl_Go xs N 125 0 [some (.inr (.inr x)), a1] st σ Q ↔ sl_Go xs N 125 1 [some (.inr (.inr x)), a1] (.inr (.inr x) :: st) σ Q := gk_aload rfl rfl
theorem g125_1 {x : Int32} {a0 : Option sl_V} : sl_Go xs N 125 1 [a0, some (.inl x)] st σ Q ↔ sl_Go xs N 125 2 [a0, some (.inl x)] (.inl x :: st) σ Q := gk_iload rfl rfl
theorem g125_2 {L : sl_L} {o : sl_R} {x0 : Int32} : sl_Go xs N 125 2 L (.inl x0 :: .inr (.inr o) :: st) σ Q ↔ sl_cw st ≤ 8 ∧ sl_Go xs N 122 0 [some (.inr (.inr o)), some (.inl x0)] [] σ (fun r τ => sl_Go xs N 125 5 L (r.toList ++ st) τ Q) := gk_call rfl (Nat.le_add_left 2 st.length) rfl rfl rfl
theorem g125_5 {L : sl_L} {x : Int32} : sl_Go xs N 125 5 L (.inl x :: st) σ Q ↔ (¬ x = 0 → sl_Go xs N 125 10 L st σ Q) ∧ (x = 0 → sl_Go xs N 125 8 L st σ Q) := gk_zne rfl
theorem g125_8 {L : sl_L} : sl_Go xs N 125 8 L st σ Q ↔ sl_Go xs N 125 9 L (.inl (-1) :: st) σ Q := gk_const rfl
theorem g125_9 {L : sl_L} {x : Int32} : sl_Go xs N 125 9 L [.inl x] σ Q ↔ Q (some (.inl x)) σ := gk_iret rfl
theorem g125_10 {x : sl_R} {a1 : Option sl_V} : sl_Go xs N 125 10 [some (.inr (.inr x)), a1] st σ Q ↔ sl_Go xs N 125 11 [some (.inr (.inr x)), a1] (.inr (.inr x) :: st) σ Q := gk_aload rfl rfl
theorem g125_11 {L : sl_L} {i t : Nat} : sl_Go xs N 125 11 L (.inr (.inr (40, i, t)) :: st) σ Q ↔ sl_Go xs N 125 14 L (.inl (σ 4 0 2) :: st) σ Q := gk_get (g := .inl (4, 0, 2)) rfl rfl rfl
theorem g125_14 {L : sl_L} {x : Int32} : sl_Go xs N 125 14 L (.inl x :: st) σ Q ↔ (x < 0 → sl_Go xs N 125 20 L st σ Q) ∧ (¬ x < 0 → sl_Go xs N 125 17 L st σ Q) := gk_zlt rfl
theorem g125_17 {L : sl_L} : sl_Go xs N 125 17 L st σ Q ↔ sl_Go xs N 125 19 L (.inl (-3) :: st) σ Q := gk_const rfl
theorem g125_19 {L : sl_L} {x : Int32} : sl_Go xs N 125 19 L [.inl x] σ Q ↔ Q (some (.inl x)) σ := gk_iret rfl
theorem g125_20 {x : sl_R} {a1 : Option sl_V} : sl_Go xs N 125 20 [some (.inr (.inr x)), a1] st σ Q ↔ sl_Go xs N 125 21 [some (.inr (.inr x)), a1] (.inr (.inr x) :: st) σ Q := gk_aload rfl rfl
theorem g125_21 {x : Int32} {a0 : Option sl_V} : sl_Go xs N 125 21 [a0, some (.inl x)] st σ Q ↔ sl_Go xs N 125 22 [a0, some (.inl x)] (.inl x :: st) σ Q := gk_iload rfl rfl
theorem g125_22 {L : sl_L} {o : sl_R} {x0 : Int32} : sl_Go xs N 125 22 L (.inl x0 :: .inr (.inr o) :: st) σ Q ↔ sl_cw st ≤ 8 ∧ sl_Go xs N 124 0 [some (.inr (.inr o)), some (.inl x0)] [] σ (fun r τ => sl_Go xs N 125 25 L (r.toList ++ st) τ Q) := gk_call rfl (Nat.le_add_left 2 st.length) rfl rfl rfl
theorem g125_25 {x : Int32} {a0 : Option sl_V} : sl_Go xs N 125 25 [a0, some (.inl x)] st σ Q ↔ sl_Go xs N 125 26 [a0, some (.inl x)] (.inl x :: st) σ Q := gk_iload rfl rfl
theorem g125_26 {L : sl_L} {x : Int32} : sl_Go xs N 125 26 L [.inl x] σ Q ↔ Q (some (.inl x)) σ := gk_iret rfl
theorem g126_0 {x : sl_R} {a1 a2 : Option sl_V} : sl_Go xs N 126 0 [some (.inr (.inr x)), a1, a2] st σ Q ↔ sl_Go xs N 126 1 [some (.inr (.inr x)), a1, a2] (.inr (.inr x) :: st) σ Q := gk_aload rfl rfl
theorem g126_1 {x : Int32} {a0 a2 : Option sl_V} : sl_Go xs N 126 1 [a0, some (.inl x), a2] st σ Q ↔ sl_Go xs N 126 2 [a0, some (.inl x), a2] (.inl x :: st) σ Q := gk_iload rfl rfl
theorem g126_2 {L : sl_L} {o : sl_R} {x0 : Int32} : sl_Go xs N 126 2 L (.inl x0 :: .inr (.inr o) :: st) σ Q ↔ sl_cw st ≤ 8 ∧ sl_Go xs N 93 0 [some (.inr (.inr o)), some (.inl x0)] [] σ (fun r τ => sl_Go xs N 126 5 L (r.toList ++ st) τ Q) := gk_call rfl (Nat.le_add_left 2 st.length) rfl rfl rfl
theorem g126_5 {L : sl_L} {x : Int32} : sl_Go xs N 126 5 L (.inl x :: st) σ Q ↔ (¬ x = 0 → sl_Go xs N 126 12 L st σ Q) ∧ (x = 0 → sl_Go xs N 126 8 L st σ Q) := gk_zne rfl
theorem g126_8 {L : sl_L} : sl_Go xs N 126 8 L st σ Q ↔ sl_Go xs N 126 9 L (.inl (-1) :: st) σ Q := gk_const rfl
theorem g126_9 {L : sl_L} : sl_Go xs N 126 9 L st σ Q ↔ sl_Go xs N 126 45 L st σ Q := gk_goto rfl
theorem g126_12 {x : sl_R} {a1 a2 : Option sl_V} : sl_Go xs N 126 12 [some (.inr (.inr x)), a1, a2] st σ Q ↔ sl_Go xs N 126 13 [some (.inr (.inr x)), a1, a2] (.inr (.inr x) :: st) σ Q := gk_aload rfl rfl
theorem g126_13 {x : Int32} {a0 a1 : Option sl_V} : sl_Go xs N 126 13 [a0, a1, some (.inl x)] st σ Q ↔ sl_Go xs N 126 14 [a0, a1, some (.inl x)] (.inl x :: st) σ Q := gk_iload rfl rfl
theorem g126_14 {L : sl_L} : sl_Go xs N 126 14 L st σ Q ↔ sl_Go xs N 126 15 L (.inl 0 :: st) σ Q := gk_const rfl
theorem g126_15 {x : sl_R} {a1 a2 : Option sl_V} : sl_Go xs N 126 15 [some (.inr (.inr x)), a1, a2] st σ Q ↔ sl_Go xs N 126 16 [some (.inr (.inr x)), a1, a2] (.inr (.inr x) :: st) σ Q := gk_aload rfl rfl
theorem g126_16 {L : sl_L} {i t : Nat} : sl_Go xs N 126 16 L (.inr (.inr (40, i, t)) :: st) σ Q ↔ sl_Go xs N 126 19 L (.inr (.inr (42, 0, 0)) :: st) σ Q := gk_get (g := .inr (42, 0, 0)) rfl rfl rfl
theorem g126_19 {x : Int32} {a0 a2 : Option sl_V} : sl_Go xs N 126 19 [a0, some (.inl x), a2] st σ Q ↔ sl_Go xs N 126 20 [a0, some (.inl x), a2] (.inl x :: st) σ Q := gk_iload rfl rfl
theorem g126_20 {L : sl_L} {j : Int32} {r : sl_R} : sl_Go xs N 126 20 L (.inl j :: .inr (.inr r) :: st) σ Q ↔ (0 ≤ j.toInt ∧ j.toInt < sl_ilen N r) ∧ sl_Go xs N 126 21 L (.inl (sl_rd xs σ r j.toNatClampNeg) :: st) σ Q := gk_iald rfl
theorem g126_21 {L : sl_L} : sl_Go xs N 126 21 L st σ Q ↔ sl_Go xs N 126 22 L (.inl 1 :: st) σ Q := gk_const rfl
theorem g126_22 {L : sl_L} {x y : Int32} : sl_Go xs N 126 22 L (.inl y :: .inl x :: st) σ Q ↔ sl_Go xs N 126 23 L (.inl (x - y) :: st) σ Q := gk_bin (b := 9) rfl
theorem g126_23 {L : sl_L} {o : sl_R} {x0 : Int32} {x1 : Int32} {x2 : Int32} : sl_Go xs N 126 23 L (.inl x2 :: .inl x1 :: .inl x0 :: .inr (.inr o) :: st) σ Q ↔ sl_cw st ≤ 8 ∧ sl_Go xs N 91 0 [some (.inr (.inr o)), some (.inl x0), some (.inl x1), some (.inl x2)] [] σ (fun r τ => sl_Go xs N 126 26 L (r.toList ++ st) τ Q) := gk_call rfl (Nat.le_add_left 4 st.length) rfl rfl rfl
theorem g126_26 {L : sl_L} {x : Int32} : sl_Go xs N 126 26 L (.inl x :: st) σ Q ↔ (x = 0 → sl_Go xs N 126 43 L st σ Q) ∧ (¬ x = 0 → sl_Go xs N 126 29 L st σ Q) := gk_zeq rfl
theorem g126_29 {x : sl_R} {a1 a2 : Option sl_V} : sl_Go xs N 126 29 [some (.inr (.inr x)), a1, a2] st σ Q ↔ sl_Go xs N 126 30 [some (.inr (.inr x)), a1, a2] (.inr (.inr x) :: st) σ Q := gk_aload rfl rfl
theorem g126_30 {L : sl_L} {i t : Nat} : sl_Go xs N 126 30 L (.inr (.inr (40, i, t)) :: st) σ Q ↔ sl_Go xs N 126 33 L (.inr (.inr (47, 0, 0)) :: st) σ Q := gk_get (g := .inr (47, 0, 0)) rfl rfl rfl
theorem g126_33 {L : sl_L} : sl_Go xs N 126 33 L st σ Q ↔ sl_Go xs N 126 35 L (.inl 12 :: st) σ Q := gk_const rfl
theorem g126_35 {x : Int32} {a0 a2 : Option sl_V} : sl_Go xs N 126 35 [a0, some (.inl x), a2] st σ Q ↔ sl_Go xs N 126 36 [a0, some (.inl x), a2] (.inl x :: st) σ Q := gk_iload rfl rfl
theorem g126_36 {L : sl_L} {x y : Int32} : sl_Go xs N 126 36 L (.inl y :: .inl x :: st) σ Q ↔ sl_Go xs N 126 37 L (.inl (x * y) :: st) σ Q := gk_bin (b := 10) rfl
theorem g126_37 {x : Int32} {a0 a1 : Option sl_V} : sl_Go xs N 126 37 [a0, a1, some (.inl x)] st σ Q ↔ sl_Go xs N 126 38 [a0, a1, some (.inl x)] (.inl x :: st) σ Q := gk_iload rfl rfl
theorem g126_38 {L : sl_L} {x y : Int32} : sl_Go xs N 126 38 L (.inl y :: .inl x :: st) σ Q ↔ sl_Go xs N 126 39 L (.inl (x + y) :: st) σ Q := gk_bin (b := 8) rfl
theorem g126_39 {L : sl_L} {j : Int32} {r : sl_R} : sl_Go xs N 126 39 L (.inl j :: .inr (.inr r) :: st) σ Q ↔ (0 ≤ j.toInt ∧ j.toInt < sl_ilen N r) ∧ sl_Go xs N 126 40 L (.inl (sl_rd xs σ r j.toNatClampNeg) :: st) σ Q := gk_iald rfl
theorem g126_40 {L : sl_L} : sl_Go xs N 126 40 L st σ Q ↔ sl_Go xs N 126 45 L st σ Q := gk_goto rfl
theorem g126_43 {L : sl_L} : sl_Go xs N 126 43 L st σ Q ↔ sl_Go xs N 126 45 L (.inl (-2) :: st) σ Q := gk_const rfl
theorem g126_45 {L : sl_L} {x : Int32} : sl_Go xs N 126 45 L [.inl x] σ Q ↔ Q (some (.inl x)) σ := gk_iret rfl
theorem g127_0 {x : sl_R} {a1 a2 : Option sl_V} : sl_Go xs N 127 0 [some (.inr (.inr x)), a1, a2] st σ Q ↔ sl_Go xs N 127 1 [some (.inr (.inr x)), a1, a2] (.inr (.inr x) :: st) σ Q := gk_aload rfl rfl
theorem g127_1 {x : Int32} {a0 a2 : Option sl_V} : sl_Go xs N 127 1 [a0, some (.inl x), a2] st σ Q ↔ sl_Go xs N 127 2 [a0, some (.inl x), a2] (.inl x :: st) σ Q := gk_iload rfl rfl
theorem g127_2 {L : sl_L} {o : sl_R} {x0 : Int32} : sl_Go xs N 127 2 L (.inl x0 :: .inr (.inr o) :: st) σ Q ↔ sl_cw st ≤ 8 ∧ sl_Go xs N 93 0 [some (.inr (.inr o)), some (.inl x0)] [] σ (fun r τ => sl_Go xs N 127 5 L (r.toList ++ st) τ Q) := gk_call rfl (Nat.le_add_left 2 st.length) rfl rfl rfl
theorem g127_5 {L : sl_L} {x : Int32} : sl_Go xs N 127 5 L (.inl x :: st) σ Q ↔ (¬ x = 0 → sl_Go xs N 127 14 L st σ Q) ∧ (x = 0 → sl_Go xs N 127 8 L st σ Q) := gk_zne rfl
theorem g127_8 {L : sl_L} : sl_Go xs N 127 8 L st σ Q ↔ sl_Go xs N 127 11 L (.inl (-1000000) :: st) σ Q := gk_const rfl
theorem g127_11 {L : sl_L} : sl_Go xs N 127 11 L st σ Q ↔ sl_Go xs N 127 40 L st σ Q := gk_goto rfl
theorem g127_14 {x : sl_R} {a1 a2 : Option sl_V} : sl_Go xs N 127 14 [some (.inr (.inr x)), a1, a2] st σ Q ↔ sl_Go xs N 127 15 [some (.inr (.inr x)), a1, a2] (.inr (.inr x) :: st) σ Q := gk_aload rfl rfl
theorem g127_15 {x : Int32} {a0 a2 : Option sl_V} : sl_Go xs N 127 15 [a0, some (.inl x), a2] st σ Q ↔ sl_Go xs N 127 16 [a0, some (.inl x), a2] (.inl x :: st) σ Q := gk_iload rfl rfl
theorem g127_16 {x : Int32} {a0 a1 : Option sl_V} : sl_Go xs N 127 16 [a0, a1, some (.inl x)] st σ Q ↔ sl_Go xs N 127 17 [a0, a1, some (.inl x)] (.inl x :: st) σ Q := gk_iload rfl rfl
theorem g127_17 {L : sl_L} {o : sl_R} {x0 : Int32} {x1 : Int32} : sl_Go xs N 127 17 L (.inl x1 :: .inl x0 :: .inr (.inr o) :: st) σ Q ↔ sl_cw st ≤ 8 ∧ sl_Go xs N 100 0 [some (.inr (.inr o)), some (.inl x0), some (.inl x1)] [] σ (fun r τ => sl_Go xs N 127 20 L (r.toList ++ st) τ Q) := gk_call rfl (Nat.le_add_left 3 st.length) rfl rfl rfl
theorem g127_20 {L : sl_L} {x : Int32} : sl_Go xs N 127 20 L (.inl x :: st) σ Q ↔ (x = 0 → sl_Go xs N 127 37 L st σ Q) ∧ (¬ x = 0 → sl_Go xs N 127 23 L st σ Q) := gk_zeq rfl
theorem g127_23 {x : sl_R} {a1 a2 : Option sl_V} : sl_Go xs N 127 23 [some (.inr (.inr x)), a1, a2] st σ Q ↔ sl_Go xs N 127 24 [some (.inr (.inr x)), a1, a2] (.inr (.inr x) :: st) σ Q := gk_aload rfl rfl
theorem g127_24 {L : sl_L} {i t : Nat} : sl_Go xs N 127 24 L (.inr (.inr (40, i, t)) :: st) σ Q ↔ sl_Go xs N 127 27 L (.inr (.inr (48, 0, 0)) :: st) σ Q := gk_get (g := .inr (48, 0, 0)) rfl rfl rfl
theorem g127_27 {L : sl_L} : sl_Go xs N 127 27 L st σ Q ↔ sl_Go xs N 127 29 L (.inl 12 :: st) σ Q := gk_const rfl
theorem g127_29 {x : Int32} {a0 a2 : Option sl_V} : sl_Go xs N 127 29 [a0, some (.inl x), a2] st σ Q ↔ sl_Go xs N 127 30 [a0, some (.inl x), a2] (.inl x :: st) σ Q := gk_iload rfl rfl
theorem g127_30 {L : sl_L} {x y : Int32} : sl_Go xs N 127 30 L (.inl y :: .inl x :: st) σ Q ↔ sl_Go xs N 127 31 L (.inl (x * y) :: st) σ Q := gk_bin (b := 10) rfl
theorem g127_31 {x : Int32} {a0 a1 : Option sl_V} : sl_Go xs N 127 31 [a0, a1, some (.inl x)] st σ Q ↔ sl_Go xs N 127 32 [a0, a1, some (.inl x)] (.inl x :: st) σ Q := gk_iload rfl rfl
theorem g127_32 {L : sl_L} {x y : Int32} : sl_Go xs N 127 32 L (.inl y :: .inl x :: st) σ Q ↔ sl_Go xs N 127 33 L (.inl (x + y) :: st) σ Q := gk_bin (b := 8) rfl
theorem g127_33 {L : sl_L} {j : Int32} {r : sl_R} : sl_Go xs N 127 33 L (.inl j :: .inr (.inr r) :: st) σ Q ↔ (0 ≤ j.toInt ∧ j.toInt < sl_ilen N r) ∧ sl_Go xs N 127 34 L (.inl (sl_rd xs σ r j.toNatClampNeg) :: st) σ Q := gk_iald rfl
theorem g127_34 {L : sl_L} : sl_Go xs N 127 34 L st σ Q ↔ sl_Go xs N 127 40 L st σ Q := gk_goto rfl
theorem g127_37 {L : sl_L} : sl_Go xs N 127 37 L st σ Q ↔ sl_Go xs N 127 40 L (.inl (-1000001) :: st) σ Q := gk_const rfl
theorem g127_40 {L : sl_L} {x : Int32} : sl_Go xs N 127 40 L [.inl x] σ Q ↔ Q (some (.inl x)) σ := gk_iret rfl
theorem g128_0 {x : sl_R} {a1 a2 : Option sl_V} : sl_Go xs N 128 0 [some (.inr (.inr x)), a1, a2] st σ Q ↔ sl_Go xs N 128 1 [some (.inr (.inr x)), a1, a2] (.inr (.inr x) :: st) σ Q := gk_aload rfl rfl
theorem g128_1 {x : Int32} {a0 a2 : Option sl_V} : sl_Go xs N 128 1 [a0, some (.inl x), a2] st σ Q ↔ sl_Go xs N 128 2 [a0, some (.inl x), a2] (.inl x :: st) σ Q := gk_iload rfl rfl
theorem g128_2 {L : sl_L} {o : sl_R} {x0 : Int32} : sl_Go xs N 128 2 L (.inl x0 :: .inr (.inr o) :: st) σ Q ↔ sl_cw st ≤ 8 ∧ sl_Go xs N 93 0 [some (.inr (.inr o)), some (.inl x0)] [] σ (fun r τ => sl_Go xs N 128 5 L (r.toList ++ st) τ Q) := gk_call rfl (Nat.le_add_left 2 st.length) rfl rfl rfl
theorem g128_5 {L : sl_L} {x : Int32} : sl_Go xs N 128 5 L (.inl x :: st) σ Q ↔ (¬ x = 0 → sl_Go xs N 128 10 L st σ Q) ∧ (x = 0 → sl_Go xs N 128 8 L st σ Q) := gk_zne rfl
theorem g128_8 {L : sl_L} : sl_Go xs N 128 8 L st σ Q ↔ sl_Go xs N 128 9 L (.inl (-1) :: st) σ Q := gk_const rfl
theorem g128_9 {L : sl_L} {x : Int32} : sl_Go xs N 128 9 L [.inl x] σ Q ↔ Q (some (.inl x)) σ := gk_iret rfl
theorem g128_10 {x : Int32} {a0 a1 : Option sl_V} : sl_Go xs N 128 10 [a0, a1, some (.inl x)] st σ Q ↔ sl_Go xs N 128 11 [a0, a1, some (.inl x)] (.inl x :: st) σ Q := gk_iload rfl rfl
theorem g128_11 {L : sl_L} {x : Int32} : sl_Go xs N 128 11 L (.inl x :: st) σ Q ↔ (x = 0 → sl_Go xs N 128 44 L st σ Q) ∧ (¬ x = 0 → (x = 1 → sl_Go xs N 128 51 L st σ Q) ∧ (¬ x = 1 → (x = 2 → sl_Go xs N 128 57 L st σ Q) ∧ (¬ x = 2 → (x = 3 → sl_Go xs N 128 64 L st σ Q) ∧ (¬ x = 3 → (x = 4 → sl_Go xs N 128 71 L st σ Q) ∧ (¬ x = 4 → sl_Go xs N 128 77 L st σ Q))))) := gk_sw (ts := sl_sw 6) rfl rfl (Nat.le_of_ble_eq_true rfl)
theorem g128_44 {x : sl_R} {a1 a2 : Option sl_V} : sl_Go xs N 128 44 [some (.inr (.inr x)), a1, a2] st σ Q ↔ sl_Go xs N 128 45 [some (.inr (.inr x)), a1, a2] (.inr (.inr x) :: st) σ Q := gk_aload rfl rfl
theorem g128_45 {L : sl_L} {i t : Nat} : sl_Go xs N 128 45 L (.inr (.inr (40, i, t)) :: st) σ Q ↔ sl_Go xs N 128 48 L (.inr (.inr (41, 0, 0)) :: st) σ Q := gk_get (g := .inr (41, 0, 0)) rfl rfl rfl
theorem g128_48 {x : Int32} {a0 a2 : Option sl_V} : sl_Go xs N 128 48 [a0, some (.inl x), a2] st σ Q ↔ sl_Go xs N 128 49 [a0, some (.inl x), a2] (.inl x :: st) σ Q := gk_iload rfl rfl
theorem g128_49 {L : sl_L} {j : Int32} {r : sl_R} : sl_Go xs N 128 49 L (.inl j :: .inr (.inr r) :: st) σ Q ↔ (0 ≤ j.toInt ∧ j.toInt < sl_ilen N r) ∧ sl_Go xs N 128 50 L (.inl (sl_rd xs σ r j.toNatClampNeg) :: st) σ Q := gk_iald rfl
theorem g128_50 {L : sl_L} {x : Int32} : sl_Go xs N 128 50 L [.inl x] σ Q ↔ Q (some (.inl x)) σ := gk_iret rfl
theorem g128_51 {x : sl_R} {a1 a2 : Option sl_V} : sl_Go xs N 128 51 [some (.inr (.inr x)), a1, a2] st σ Q ↔ sl_Go xs N 128 52 [some (.inr (.inr x)), a1, a2] (.inr (.inr x) :: st) σ Q := gk_aload rfl rfl
theorem g128_52 {x : Int32} {a0 a2 : Option sl_V} : sl_Go xs N 128 52 [a0, some (.inl x), a2] st σ Q ↔ sl_Go xs N 128 53 [a0, some (.inl x), a2] (.inl x :: st) σ Q := gk_iload rfl rfl
theorem g128_53 {L : sl_L} {o : sl_R} {x0 : Int32} : sl_Go xs N 128 53 L (.inl x0 :: .inr (.inr o) :: st) σ Q ↔ sl_cw st ≤ 8 ∧ sl_Go xs N 97 0 [some (.inr (.inr o)), some (.inl x0), none, none] [] σ (fun r τ => sl_Go xs N 128 56 L (r.toList ++ st) τ Q) := gk_call rfl (Nat.le_add_left 2 st.length) rfl rfl rfl
theorem g128_56 {L : sl_L} {x : Int32} : sl_Go xs N 128 56 L [.inl x] σ Q ↔ Q (some (.inl x)) σ := gk_iret rfl
theorem g128_57 {x : sl_R} {a1 a2 : Option sl_V} : sl_Go xs N 128 57 [some (.inr (.inr x)), a1, a2] st σ Q ↔ sl_Go xs N 128 58 [some (.inr (.inr x)), a1, a2] (.inr (.inr x) :: st) σ Q := gk_aload rfl rfl
theorem g128_58 {L : sl_L} {i t : Nat} : sl_Go xs N 128 58 L (.inr (.inr (40, i, t)) :: st) σ Q ↔ sl_Go xs N 128 61 L (.inr (.inr (45, 0, 0)) :: st) σ Q := gk_get (g := .inr (45, 0, 0)) rfl rfl rfl
theorem g128_61 {x : Int32} {a0 a2 : Option sl_V} : sl_Go xs N 128 61 [a0, some (.inl x), a2] st σ Q ↔ sl_Go xs N 128 62 [a0, some (.inl x), a2] (.inl x :: st) σ Q := gk_iload rfl rfl
theorem g128_62 {L : sl_L} {j : Int32} {r : sl_R} : sl_Go xs N 128 62 L (.inl j :: .inr (.inr r) :: st) σ Q ↔ (0 ≤ j.toInt ∧ j.toInt < sl_ilen N r) ∧ sl_Go xs N 128 63 L (.inl (sl_rd xs σ r j.toNatClampNeg) :: st) σ Q := gk_iald rfl
theorem g128_63 {L : sl_L} {x : Int32} : sl_Go xs N 128 63 L [.inl x] σ Q ↔ Q (some (.inl x)) σ := gk_iret rfl
theorem g128_64 {x : sl_R} {a1 a2 : Option sl_V} : sl_Go xs N 128 64 [some (.inr (.inr x)), a1, a2] st σ Q ↔ sl_Go xs N 128 65 [some (.inr (.inr x)), a1, a2] (.inr (.inr x) :: st) σ Q := gk_aload rfl rfl
theorem g128_65 {L : sl_L} {i t : Nat} : sl_Go xs N 128 65 L (.inr (.inr (40, i, t)) :: st) σ Q ↔ sl_Go xs N 128 68 L (.inr (.inr (46, 0, 0)) :: st) σ Q := gk_get (g := .inr (46, 0, 0)) rfl rfl rfl
theorem g128_68 {x : Int32} {a0 a2 : Option sl_V} : sl_Go xs N 128 68 [a0, some (.inl x), a2] st σ Q ↔ sl_Go xs N 128 69 [a0, some (.inl x), a2] (.inl x :: st) σ Q := gk_iload rfl rfl
theorem g128_69 {L : sl_L} {j : Int32} {r : sl_R} : sl_Go xs N 128 69 L (.inl j :: .inr (.inr r) :: st) σ Q ↔ (0 ≤ j.toInt ∧ j.toInt < sl_ilen N r) ∧ sl_Go xs N 128 70 L (.inl (sl_rd xs σ r j.toNatClampNeg) :: st) σ Q := gk_iald rfl
theorem g128_70 {L : sl_L} {x : Int32} : sl_Go xs N 128 70 L [.inl x] σ Q ↔ Q (some (.inl x)) σ := gk_iret rfl
theorem g128_71 {x : sl_R} {a1 a2 : Option sl_V} : sl_Go xs N 128 71 [some (.inr (.inr x)), a1, a2] st σ Q ↔ sl_Go xs N 128 72 [some (.inr (.inr x)), a1, a2] (.inr (.inr x) :: st) σ Q := gk_aload rfl rfl
theorem g128_72 {x : Int32} {a0 a2 : Option sl_V} : sl_Go xs N 128 72 [a0, some (.inl x), a2] st σ Q ↔ sl_Go xs N 128 73 [a0, some (.inl x), a2] (.inl x :: st) σ Q := gk_iload rfl rfl
theorem g128_73 {L : sl_L} {o : sl_R} {x0 : Int32} : sl_Go xs N 128 73 L (.inl x0 :: .inr (.inr o) :: st) σ Q ↔ sl_cw st ≤ 8 ∧ sl_Go xs N 96 0 [some (.inr (.inr o)), some (.inl x0)] [] σ (fun r τ => sl_Go xs N 128 76 L (r.toList ++ st) τ Q) := gk_call rfl (Nat.le_add_left 2 st.length) rfl rfl rfl
theorem g128_76 {L : sl_L} {x : Int32} : sl_Go xs N 128 76 L [.inl x] σ Q ↔ Q (some (.inl x)) σ := gk_iret rfl
theorem g128_77 {L : sl_L} : sl_Go xs N 128 77 L st σ Q ↔ sl_Go xs N 128 79 L (.inl (-2) :: st) σ Q := gk_const rfl
theorem g128_79 {L : sl_L} {x : Int32} : sl_Go xs N 128 79 L [.inl x] σ Q ↔ Q (some (.inl x)) σ := gk_iret rfl
theorem g129_0 {x : sl_R} {a1 a2 a3 : Option sl_V} : sl_Go xs N 129 0 [some (.inr (.inr x)), a1, a2, a3] st σ Q ↔ sl_Go xs N 129 1 [some (.inr (.inr x)), a1, a2, a3] (.inr (.inr x) :: st) σ Q := gk_aload rfl rfl
theorem g129_1 {x : Int32} {a0 a2 a3 : Option sl_V} : sl_Go xs N 129 1 [a0, some (.inl x), a2, a3] st σ Q ↔ sl_Go xs N 129 2 [a0, some (.inl x), a2, a3] (.inl x :: st) σ Q := gk_iload rfl rfl
theorem g129_2 {L : sl_L} : sl_Go xs N 129 2 L st σ Q ↔ sl_Go xs N 129 3 L (.inl 0 :: st) σ Q := gk_const rfl
theorem g129_3 {L : sl_L} : sl_Go xs N 129 3 L st σ Q ↔ sl_Go xs N 129 4 L (.inl 5 :: st) σ Q := gk_const rfl
theorem g129_4 {L : sl_L} {o : sl_R} {x0 : Int32} {x1 : Int32} {x2 : Int32} : sl_Go xs N 129 4 L (.inl x2 :: .inl x1 :: .inl x0 :: .inr (.inr o) :: st) σ Q ↔ sl_cw st ≤ 8 ∧ sl_Go xs N 91 0 [some (.inr (.inr o)), some (.inl x0), some (.inl x1), some (.inl x2)] [] σ (fun r τ => sl_Go xs N 129 7 L (r.toList ++ st) τ Q) := gk_call rfl (Nat.le_add_left 4 st.length) rfl rfl rfl
theorem g129_7 {L : sl_L} {x : Int32} : sl_Go xs N 129 7 L (.inl x :: st) σ Q ↔ (x = 0 → sl_Go xs N 129 31 L st σ Q) ∧ (¬ x = 0 → sl_Go xs N 129 10 L st σ Q) := gk_zeq rfl
theorem g129_10 {x : sl_R} {a1 a2 a3 : Option sl_V} : sl_Go xs N 129 10 [some (.inr (.inr x)), a1, a2, a3] st σ Q ↔ sl_Go xs N 129 11 [some (.inr (.inr x)), a1, a2, a3] (.inr (.inr x) :: st) σ Q := gk_aload rfl rfl
theorem g129_11 {x : Int32} {a0 a1 a2 : Option sl_V} : sl_Go xs N 129 11 [a0, a1, a2, some (.inl x)] st σ Q ↔ sl_Go xs N 129 12 [a0, a1, a2, some (.inl x)] (.inl x :: st) σ Q := gk_iload rfl rfl
theorem g129_12 {L : sl_L} : sl_Go xs N 129 12 L st σ Q ↔ sl_Go xs N 129 13 L (.inl 0 :: st) σ Q := gk_const rfl
theorem g129_13 {L : sl_L} : sl_Go xs N 129 13 L st σ Q ↔ sl_Go xs N 129 15 L (.inl 50 :: st) σ Q := gk_const rfl
theorem g129_15 {L : sl_L} {o : sl_R} {x0 : Int32} {x1 : Int32} {x2 : Int32} : sl_Go xs N 129 15 L (.inl x2 :: .inl x1 :: .inl x0 :: .inr (.inr o) :: st) σ Q ↔ sl_cw st ≤ 8 ∧ sl_Go xs N 91 0 [some (.inr (.inr o)), some (.inl x0), some (.inl x1), some (.inl x2)] [] σ (fun r τ => sl_Go xs N 129 18 L (r.toList ++ st) τ Q) := gk_call rfl (Nat.le_add_left 4 st.length) rfl rfl rfl
theorem g129_18 {L : sl_L} {x : Int32} : sl_Go xs N 129 18 L (.inl x :: st) σ Q ↔ (x = 0 → sl_Go xs N 129 31 L st σ Q) ∧ (¬ x = 0 → sl_Go xs N 129 21 L st σ Q) := gk_zeq rfl
theorem g129_21 {x : sl_R} {a1 a2 a3 : Option sl_V} : sl_Go xs N 129 21 [some (.inr (.inr x)), a1, a2, a3] st σ Q ↔ sl_Go xs N 129 22 [some (.inr (.inr x)), a1, a2, a3] (.inr (.inr x) :: st) σ Q := gk_aload rfl rfl
theorem g129_22 {x : Int32} {a0 a1 a3 : Option sl_V} : sl_Go xs N 129 22 [a0, a1, some (.inl x), a3] st σ Q ↔ sl_Go xs N 129 23 [a0, a1, some (.inl x), a3] (.inl x :: st) σ Q := gk_iload rfl rfl
theorem g129_23 {L : sl_L} : sl_Go xs N 129 23 L st σ Q ↔ sl_Go xs N 129 24 L (.inl 0 :: st) σ Q := gk_const rfl
theorem g129_24 {L : sl_L} : sl_Go xs N 129 24 L st σ Q ↔ sl_Go xs N 129 25 L (.inl 3 :: st) σ Q := gk_const rfl
theorem g129_25 {L : sl_L} {o : sl_R} {x0 : Int32} {x1 : Int32} {x2 : Int32} : sl_Go xs N 129 25 L (.inl x2 :: .inl x1 :: .inl x0 :: .inr (.inr o) :: st) σ Q ↔ sl_cw st ≤ 8 ∧ sl_Go xs N 91 0 [some (.inr (.inr o)), some (.inl x0), some (.inl x1), some (.inl x2)] [] σ (fun r τ => sl_Go xs N 129 28 L (r.toList ++ st) τ Q) := gk_call rfl (Nat.le_add_left 4 st.length) rfl rfl rfl
theorem g129_28 {L : sl_L} {x : Int32} : sl_Go xs N 129 28 L (.inl x :: st) σ Q ↔ (¬ x = 0 → sl_Go xs N 129 34 L st σ Q) ∧ (x = 0 → sl_Go xs N 129 31 L st σ Q) := gk_zne rfl
theorem g129_31 {L : sl_L} : sl_Go xs N 129 31 L st σ Q ↔ sl_Go xs N 129 33 L (.inl (-2) :: st) σ Q := gk_const rfl
theorem g129_33 {L : sl_L} {x : Int32} : sl_Go xs N 129 33 L [.inl x] σ Q ↔ Q (some (.inl x)) σ := gk_iret rfl
theorem g129_34 {x : Int32} {a0 a1 a3 : Option sl_V} : sl_Go xs N 129 34 [a0, a1, some (.inl x), a3] st σ Q ↔ sl_Go xs N 129 35 [a0, a1, some (.inl x), a3] (.inl x :: st) σ Q := gk_iload rfl rfl
theorem g129_35 {L : sl_L} {x : Int32} : sl_Go xs N 129 35 L (.inl x :: st) σ Q ↔ (¬ x = 0 → sl_Go xs N 129 47 L st σ Q) ∧ (x = 0 → sl_Go xs N 129 38 L st σ Q) := gk_zne rfl
theorem g129_38 {x : sl_R} {a1 a2 a3 : Option sl_V} : sl_Go xs N 129 38 [some (.inr (.inr x)), a1, a2, a3] st σ Q ↔ sl_Go xs N 129 39 [some (.inr (.inr x)), a1, a2, a3] (.inr (.inr x) :: st) σ Q := gk_aload rfl rfl
theorem g129_39 {L : sl_L} {i t : Nat} : sl_Go xs N 129 39 L (.inr (.inr (40, i, t)) :: st) σ Q ↔ sl_Go xs N 129 42 L (.inr (.inr (49, 0, 0)) :: st) σ Q := gk_get (g := .inr (49, 0, 0)) rfl rfl rfl
theorem g129_42 {x : Int32} {a0 a2 a3 : Option sl_V} : sl_Go xs N 129 42 [a0, some (.inl x), a2, a3] st σ Q ↔ sl_Go xs N 129 43 [a0, some (.inl x), a2, a3] (.inl x :: st) σ Q := gk_iload rfl rfl
theorem g129_43 {L : sl_L} {j : Int32} {r : sl_R} : sl_Go xs N 129 43 L (.inl j :: .inr (.inr r) :: st) σ Q ↔ (0 ≤ j.toInt ∧ j.toInt < sl_ilen N r) ∧ sl_Go xs N 129 44 L (.inl (sl_rd xs σ r j.toNatClampNeg) :: st) σ Q := gk_iald rfl
theorem g129_44 {L : sl_L} : sl_Go xs N 129 44 L st σ Q ↔ sl_Go xs N 129 88 L st σ Q := gk_goto rfl
theorem g129_47 {x : Int32} {a0 a1 a3 : Option sl_V} : sl_Go xs N 129 47 [a0, a1, some (.inl x), a3] st σ Q ↔ sl_Go xs N 129 48 [a0, a1, some (.inl x), a3] (.inl x :: st) σ Q := gk_iload rfl rfl
theorem g129_48 {L : sl_L} : sl_Go xs N 129 48 L st σ Q ↔ sl_Go xs N 129 49 L (.inl 1 :: st) σ Q := gk_const rfl
theorem g129_49 {L : sl_L} {x y : Int32} : sl_Go xs N 129 49 L (.inl y :: .inl x :: st) σ Q ↔ (¬ x = y → sl_Go xs N 129 61 L st σ Q) ∧ (x = y → sl_Go xs N 129 52 L st σ Q) := gk_ine rfl
theorem g129_52 {x : sl_R} {a1 a2 a3 : Option sl_V} : sl_Go xs N 129 52 [some (.inr (.inr x)), a1, a2, a3] st σ Q ↔ sl_Go xs N 129 53 [some (.inr (.inr x)), a1, a2, a3] (.inr (.inr x) :: st) σ Q := gk_aload rfl rfl
theorem g129_53 {L : sl_L} {i t : Nat} : sl_Go xs N 129 53 L (.inr (.inr (40, i, t)) :: st) σ Q ↔ sl_Go xs N 129 56 L (.inr (.inr (50, 0, 0)) :: st) σ Q := gk_get (g := .inr (50, 0, 0)) rfl rfl rfl
theorem g129_56 {x : Int32} {a0 a2 a3 : Option sl_V} : sl_Go xs N 129 56 [a0, some (.inl x), a2, a3] st σ Q ↔ sl_Go xs N 129 57 [a0, some (.inl x), a2, a3] (.inl x :: st) σ Q := gk_iload rfl rfl
theorem g129_57 {L : sl_L} {j : Int32} {r : sl_R} : sl_Go xs N 129 57 L (.inl j :: .inr (.inr r) :: st) σ Q ↔ (0 ≤ j.toInt ∧ j.toInt < sl_ilen N r) ∧ sl_Go xs N 129 58 L (.inl (sl_rd xs σ r j.toNatClampNeg) :: st) σ Q := gk_iald rfl
theorem g129_58 {L : sl_L} : sl_Go xs N 129 58 L st σ Q ↔ sl_Go xs N 129 88 L st σ Q := gk_goto rfl
theorem g129_61 {x : Int32} {a0 a1 a3 : Option sl_V} : sl_Go xs N 129 61 [a0, a1, some (.inl x), a3] st σ Q ↔ sl_Go xs N 129 62 [a0, a1, some (.inl x), a3] (.inl x :: st) σ Q := gk_iload rfl rfl
theorem g129_62 {L : sl_L} : sl_Go xs N 129 62 L st σ Q ↔ sl_Go xs N 129 63 L (.inl 2 :: st) σ Q := gk_const rfl
theorem g129_63 {L : sl_L} {x y : Int32} : sl_Go xs N 129 63 L (.inl y :: .inl x :: st) σ Q ↔ (¬ x = y → sl_Go xs N 129 75 L st σ Q) ∧ (x = y → sl_Go xs N 129 66 L st σ Q) := gk_ine rfl
theorem g129_66 {x : sl_R} {a1 a2 a3 : Option sl_V} : sl_Go xs N 129 66 [some (.inr (.inr x)), a1, a2, a3] st σ Q ↔ sl_Go xs N 129 67 [some (.inr (.inr x)), a1, a2, a3] (.inr (.inr x) :: st) σ Q := gk_aload rfl rfl
theorem g129_67 {x : Int32} {a0 a2 a3 : Option sl_V} : sl_Go xs N 129 67 [a0, some (.inl x), a2, a3] st σ Q ↔ sl_Go xs N 129 68 [a0, some (.inl x), a2, a3] (.inl x :: st) σ Q := gk_iload rfl rfl
theorem g129_68 {x : Int32} {a0 a1 a2 : Option sl_V} : sl_Go xs N 129 68 [a0, a1, a2, some (.inl x)] st σ Q ↔ sl_Go xs N 129 69 [a0, a1, a2, some (.inl x)] (.inl x :: st) σ Q := gk_iload rfl rfl
theorem g129_69 {L : sl_L} {o : sl_R} {x0 : Int32} {x1 : Int32} : sl_Go xs N 129 69 L (.inl x1 :: .inl x0 :: .inr (.inr o) :: st) σ Q ↔ sl_cw st ≤ 8 ∧ sl_Go xs N 95 0 [some (.inr (.inr o)), some (.inl x0), some (.inl x1)] [] σ (fun r τ => sl_Go xs N 129 72 L (r.toList ++ st) τ Q) := gk_call rfl (Nat.le_add_left 3 st.length) rfl rfl rfl
theorem g129_72 {L : sl_L} : sl_Go xs N 129 72 L st σ Q ↔ sl_Go xs N 129 88 L st σ Q := gk_goto rfl
theorem g129_75 {x : sl_R} {a1 a2 a3 : Option sl_V} : sl_Go xs N 129 75 [some (.inr (.inr x)), a1, a2, a3] st σ Q ↔ sl_Go xs N 129 76 [some (.inr (.inr x)), a1, a2, a3] (.inr (.inr x) :: st) σ Q := gk_aload rfl rfl
theorem g129_76 {x : Int32} {a0 a2 a3 : Option sl_V} : sl_Go xs N 129 76 [a0, some (.inl x), a2, a3] st σ Q ↔ sl_Go xs N 129 77 [a0, some (.inl x), a2, a3] (.inl x :: st) σ Q := gk_iload rfl rfl
theorem g129_77 {L : sl_L} {o : sl_R} {x0 : Int32} : sl_Go xs N 129 77 L (.inl x0 :: .inr (.inr o) :: st) σ Q ↔ sl_cw st ≤ 8 ∧ sl_Go xs N 94 0 [some (.inr (.inr o)), some (.inl x0)] [] σ (fun r τ => sl_Go xs N 129 80 L (r.toList ++ st) τ Q) := gk_call rfl (Nat.le_add_left 2 st.length) rfl rfl rfl
theorem g129_80 {L : sl_L} {x : Int32} : sl_Go xs N 129 80 L (.inl x :: st) σ Q ↔ (x = 0 → sl_Go xs N 129 87 L st σ Q) ∧ (¬ x = 0 → sl_Go xs N 129 83 L st σ Q) := gk_zeq rfl
theorem g129_83 {L : sl_L} : sl_Go xs N 129 83 L st σ Q ↔ sl_Go xs N 129 84 L (.inl 1 :: st) σ Q := gk_const rfl
theorem g129_84 {L : sl_L} : sl_Go xs N 129 84 L st σ Q ↔ sl_Go xs N 129 88 L st σ Q := gk_goto rfl
theorem g129_87 {L : sl_L} : sl_Go xs N 129 87 L st σ Q ↔ sl_Go xs N 129 88 L (.inl 0 :: st) σ Q := gk_const rfl
theorem g129_88 {L : sl_L} {x : Int32} : sl_Go xs N 129 88 L [.inl x] σ Q ↔ Q (some (.inl x)) σ := gk_iret rfl
theorem g130_0 {x : sl_R} {a1 a2 : Option sl_V} : sl_Go xs N 130 0 [some (.inr (.inr x)), a1, a2] st σ Q ↔ sl_Go xs N 130 1 [some (.inr (.inr x)), a1, a2] (.inr (.inr x) :: st) σ Q := gk_aload rfl rfl
theorem g130_1 {x : Int32} {a0 a2 : Option sl_V} : sl_Go xs N 130 1 [a0, some (.inl x), a2] st σ Q ↔ sl_Go xs N 130 2 [a0, some (.inl x), a2] (.inl x :: st) σ Q := gk_iload rfl rfl
theorem g130_2 {L : sl_L} : sl_Go xs N 130 2 L st σ Q ↔ sl_Go xs N 130 3 L (.inl 0 :: st) σ Q := gk_const rfl
theorem g130_3 {x : sl_R} {a1 a2 : Option sl_V} : sl_Go xs N 130 3 [some (.inr (.inr x)), a1, a2] st σ Q ↔ sl_Go xs N 130 4 [some (.inr (.inr x)), a1, a2] (.inr (.inr x) :: st) σ Q := gk_aload rfl rfl
theorem g130_4 {L : sl_L} {i t : Nat} : sl_Go xs N 130 4 L (.inr (.inr (40, i, t)) :: st) σ Q ↔ sl_Go xs N 130 7 L (.inl (σ 6 0 1) :: st) σ Q := gk_get (g := .inl (6, 0, 1)) rfl rfl rfl
theorem g130_7 {L : sl_L} : sl_Go xs N 130 7 L st σ Q ↔ sl_Go xs N 130 8 L (.inl 1 :: st) σ Q := gk_const rfl
theorem g130_8 {L : sl_L} {x y : Int32} : sl_Go xs N 130 8 L (.inl y :: .inl x :: st) σ Q ↔ sl_Go xs N 130 9 L (.inl (x - y) :: st) σ Q := gk_bin (b := 9) rfl
theorem g130_9 {L : sl_L} {o : sl_R} {x0 : Int32} {x1 : Int32} {x2 : Int32} : sl_Go xs N 130 9 L (.inl x2 :: .inl x1 :: .inl x0 :: .inr (.inr o) :: st) σ Q ↔ sl_cw st ≤ 8 ∧ sl_Go xs N 91 0 [some (.inr (.inr o)), some (.inl x0), some (.inl x1), some (.inl x2)] [] σ (fun r τ => sl_Go xs N 130 12 L (r.toList ++ st) τ Q) := gk_call rfl (Nat.le_add_left 4 st.length) rfl rfl rfl
theorem g130_12 {L : sl_L} {x : Int32} : sl_Go xs N 130 12 L (.inl x :: st) σ Q ↔ (¬ x = 0 → sl_Go xs N 130 18 L st σ Q) ∧ (x = 0 → sl_Go xs N 130 15 L st σ Q) := gk_zne rfl
theorem g130_15 {L : sl_L} : sl_Go xs N 130 15 L st σ Q ↔ sl_Go xs N 130 17 L (.inl (-5) :: st) σ Q := gk_const rfl
theorem g130_17 {L : sl_L} {x : Int32} : sl_Go xs N 130 17 L [.inl x] σ Q ↔ Q (some (.inl x)) σ := gk_iret rfl
theorem g130_18 {x : Int32} {a0 a1 : Option sl_V} : sl_Go xs N 130 18 [a0, a1, some (.inl x)] st σ Q ↔ sl_Go xs N 130 19 [a0, a1, some (.inl x)] (.inl x :: st) σ Q := gk_iload rfl rfl
theorem g130_19 {L : sl_L} {x : Int32} : sl_Go xs N 130 19 L (.inl x :: st) σ Q ↔ (x = 0 → sl_Go xs N 130 52 L st σ Q) ∧ (¬ x = 0 → (x = 1 → sl_Go xs N 130 59 L st σ Q) ∧ (¬ x = 1 → (x = 2 → sl_Go xs N 130 66 L st σ Q) ∧ (¬ x = 2 → (x = 3 → sl_Go xs N 130 73 L st σ Q) ∧ (¬ x = 3 → (x = 4 → sl_Go xs N 130 80 L st σ Q) ∧ (¬ x = 4 → sl_Go xs N 130 87 L st σ Q))))) := gk_sw (ts := sl_sw 7) rfl rfl (Nat.le_of_ble_eq_true rfl)
theorem g130_52 {x : sl_R} {a1 a2 : Option sl_V} : sl_Go xs N 130 52 [some (.inr (.inr x)), a1, a2] st σ Q ↔ sl_Go xs N 130 53 [some (.inr (.inr x)), a1, a2] (.inr (.inr x) :: st) σ Q := gk_aload rfl rfl
theorem g130_53 {L : sl_L} {i t : Nat} : sl_Go xs N 130 53 L (.inr (.inr (40, i, t)) :: st) σ Q ↔ sl_Go xs N 130 56 L (.inr (.inr (52, 0, 0)) :: st) σ Q := gk_get (g := .inr (52, 0, 0)) rfl rfl rfl
theorem g130_56 {x : Int32} {a0 a2 : Option sl_V} : sl_Go xs N 130 56 [a0, some (.inl x), a2] st σ Q ↔ sl_Go xs N 130 57 [a0, some (.inl x), a2] (.inl x :: st) σ Q := gk_iload rfl rfl
theorem g130_57 {L : sl_L} {j : Int32} {r : sl_R} : sl_Go xs N 130 57 L (.inl j :: .inr (.inr r) :: st) σ Q ↔ (0 ≤ j.toInt ∧ j.toInt < sl_ilen N r) ∧ sl_Go xs N 130 58 L (.inl (sl_rd xs σ r j.toNatClampNeg) :: st) σ Q := gk_iald rfl
theorem g130_58 {L : sl_L} {x : Int32} : sl_Go xs N 130 58 L [.inl x] σ Q ↔ Q (some (.inl x)) σ := gk_iret rfl
theorem g130_59 {x : sl_R} {a1 a2 : Option sl_V} : sl_Go xs N 130 59 [some (.inr (.inr x)), a1, a2] st σ Q ↔ sl_Go xs N 130 60 [some (.inr (.inr x)), a1, a2] (.inr (.inr x) :: st) σ Q := gk_aload rfl rfl
theorem g130_60 {L : sl_L} {i t : Nat} : sl_Go xs N 130 60 L (.inr (.inr (40, i, t)) :: st) σ Q ↔ sl_Go xs N 130 63 L (.inr (.inr (53, 0, 0)) :: st) σ Q := gk_get (g := .inr (53, 0, 0)) rfl rfl rfl
theorem g130_63 {x : Int32} {a0 a2 : Option sl_V} : sl_Go xs N 130 63 [a0, some (.inl x), a2] st σ Q ↔ sl_Go xs N 130 64 [a0, some (.inl x), a2] (.inl x :: st) σ Q := gk_iload rfl rfl
theorem g130_64 {L : sl_L} {j : Int32} {r : sl_R} : sl_Go xs N 130 64 L (.inl j :: .inr (.inr r) :: st) σ Q ↔ (0 ≤ j.toInt ∧ j.toInt < sl_ilen N r) ∧ sl_Go xs N 130 65 L (.inl (sl_rd xs σ r j.toNatClampNeg) :: st) σ Q := gk_iald rfl
theorem g130_65 {L : sl_L} {x : Int32} : sl_Go xs N 130 65 L [.inl x] σ Q ↔ Q (some (.inl x)) σ := gk_iret rfl
theorem g130_66 {x : sl_R} {a1 a2 : Option sl_V} : sl_Go xs N 130 66 [some (.inr (.inr x)), a1, a2] st σ Q ↔ sl_Go xs N 130 67 [some (.inr (.inr x)), a1, a2] (.inr (.inr x) :: st) σ Q := gk_aload rfl rfl
theorem g130_67 {L : sl_L} {i t : Nat} : sl_Go xs N 130 67 L (.inr (.inr (40, i, t)) :: st) σ Q ↔ sl_Go xs N 130 70 L (.inr (.inr (54, 0, 0)) :: st) σ Q := gk_get (g := .inr (54, 0, 0)) rfl rfl rfl
theorem g130_70 {x : Int32} {a0 a2 : Option sl_V} : sl_Go xs N 130 70 [a0, some (.inl x), a2] st σ Q ↔ sl_Go xs N 130 71 [a0, some (.inl x), a2] (.inl x :: st) σ Q := gk_iload rfl rfl
theorem g130_71 {L : sl_L} {j : Int32} {r : sl_R} : sl_Go xs N 130 71 L (.inl j :: .inr (.inr r) :: st) σ Q ↔ (0 ≤ j.toInt ∧ j.toInt < sl_ilen N r) ∧ sl_Go xs N 130 72 L (.inl (sl_rd xs σ r j.toNatClampNeg) :: st) σ Q := gk_iald rfl
theorem g130_72 {L : sl_L} {x : Int32} : sl_Go xs N 130 72 L [.inl x] σ Q ↔ Q (some (.inl x)) σ := gk_iret rfl
theorem g130_73 {x : sl_R} {a1 a2 : Option sl_V} : sl_Go xs N 130 73 [some (.inr (.inr x)), a1, a2] st σ Q ↔ sl_Go xs N 130 74 [some (.inr (.inr x)), a1, a2] (.inr (.inr x) :: st) σ Q := gk_aload rfl rfl
theorem g130_74 {L : sl_L} {i t : Nat} : sl_Go xs N 130 74 L (.inr (.inr (40, i, t)) :: st) σ Q ↔ sl_Go xs N 130 77 L (.inr (.inr (55, 0, 0)) :: st) σ Q := gk_get (g := .inr (55, 0, 0)) rfl rfl rfl
theorem g130_77 {x : Int32} {a0 a2 : Option sl_V} : sl_Go xs N 130 77 [a0, some (.inl x), a2] st σ Q ↔ sl_Go xs N 130 78 [a0, some (.inl x), a2] (.inl x :: st) σ Q := gk_iload rfl rfl
theorem g130_78 {L : sl_L} {j : Int32} {r : sl_R} : sl_Go xs N 130 78 L (.inl j :: .inr (.inr r) :: st) σ Q ↔ (0 ≤ j.toInt ∧ j.toInt < sl_ilen N r) ∧ sl_Go xs N 130 79 L (.inl (sl_rd xs σ r j.toNatClampNeg) :: st) σ Q := gk_iald rfl
theorem g130_79 {L : sl_L} {x : Int32} : sl_Go xs N 130 79 L [.inl x] σ Q ↔ Q (some (.inl x)) σ := gk_iret rfl
theorem g130_80 {x : sl_R} {a1 a2 : Option sl_V} : sl_Go xs N 130 80 [some (.inr (.inr x)), a1, a2] st σ Q ↔ sl_Go xs N 130 81 [some (.inr (.inr x)), a1, a2] (.inr (.inr x) :: st) σ Q := gk_aload rfl rfl
theorem g130_81 {L : sl_L} {i t : Nat} : sl_Go xs N 130 81 L (.inr (.inr (40, i, t)) :: st) σ Q ↔ sl_Go xs N 130 84 L (.inr (.inr (56, 0, 0)) :: st) σ Q := gk_get (g := .inr (56, 0, 0)) rfl rfl rfl
theorem g130_84 {x : Int32} {a0 a2 : Option sl_V} : sl_Go xs N 130 84 [a0, some (.inl x), a2] st σ Q ↔ sl_Go xs N 130 85 [a0, some (.inl x), a2] (.inl x :: st) σ Q := gk_iload rfl rfl
theorem g130_85 {L : sl_L} {j : Int32} {r : sl_R} : sl_Go xs N 130 85 L (.inl j :: .inr (.inr r) :: st) σ Q ↔ (0 ≤ j.toInt ∧ j.toInt < sl_ilen N r) ∧ sl_Go xs N 130 86 L (.inl (sl_rd xs σ r j.toNatClampNeg) :: st) σ Q := gk_iald rfl
theorem g130_86 {L : sl_L} {x : Int32} : sl_Go xs N 130 86 L [.inl x] σ Q ↔ Q (some (.inl x)) σ := gk_iret rfl
theorem g130_87 {L : sl_L} : sl_Go xs N 130 87 L st σ Q ↔ sl_Go xs N 130 89 L (.inl (-7) :: st) σ Q := gk_const rfl
theorem g130_89 {L : sl_L} {x : Int32} : sl_Go xs N 130 89 L [.inl x] σ Q ↔ Q (some (.inl x)) σ := gk_iret rfl
theorem g131_0 {x : Int32} {a0 : Option sl_V} : sl_Go xs N 131 0 [a0, some (.inl x)] st σ Q ↔ sl_Go xs N 131 1 [a0, some (.inl x)] (.inl x :: st) σ Q := gk_iload rfl rfl
theorem g131_1 {L : sl_L} {x : Int32} : sl_Go xs N 131 1 L (.inl x :: st) σ Q ↔ (¬ x = 0 → sl_Go xs N 131 11 L st σ Q) ∧ (x = 0 → sl_Go xs N 131 4 L st σ Q) := gk_zne rfl
theorem g131_4 {x : sl_R} {a1 : Option sl_V} : sl_Go xs N 131 4 [some (.inr (.inr x)), a1] st σ Q ↔ sl_Go xs N 131 5 [some (.inr (.inr x)), a1] (.inr (.inr x) :: st) σ Q := gk_aload rfl rfl
theorem g131_5 {L : sl_L} {o : sl_R} : sl_Go xs N 131 5 L (.inr (.inr o) :: st) σ Q ↔ sl_cw st ≤ 8 ∧ sl_Go xs N 107 0 [some (.inr (.inr o)), none, none, none] [] σ (fun r τ => sl_Go xs N 131 8 L (r.toList ++ st) τ Q) := gk_call rfl (Nat.le_add_left 1 st.length) rfl rfl rfl
theorem g131_8 {L : sl_L} : sl_Go xs N 131 8 L st σ Q ↔ sl_Go xs N 131 26 L st σ Q := gk_goto rfl
theorem g131_11 {x : Int32} {a0 : Option sl_V} : sl_Go xs N 131 11 [a0, some (.inl x)] st σ Q ↔ sl_Go xs N 131 12 [a0, some (.inl x)] (.inl x :: st) σ Q := gk_iload rfl rfl
theorem g131_12 {L : sl_L} : sl_Go xs N 131 12 L st σ Q ↔ sl_Go xs N 131 13 L (.inl 1 :: st) σ Q := gk_const rfl
theorem g131_13 {L : sl_L} {x y : Int32} : sl_Go xs N 131 13 L (.inl y :: .inl x :: st) σ Q ↔ (¬ x = y → sl_Go xs N 131 23 L st σ Q) ∧ (x = y → sl_Go xs N 131 16 L st σ Q) := gk_ine rfl
theorem g131_16 {x : sl_R} {a1 : Option sl_V} : sl_Go xs N 131 16 [some (.inr (.inr x)), a1] st σ Q ↔ sl_Go xs N 131 17 [some (.inr (.inr x)), a1] (.inr (.inr x) :: st) σ Q := gk_aload rfl rfl
theorem g131_17 {L : sl_L} {o : sl_R} : sl_Go xs N 131 17 L (.inr (.inr o) :: st) σ Q ↔ sl_cw st ≤ 8 ∧ sl_Go xs N 108 0 [some (.inr (.inr o))] [] σ (fun r τ => sl_Go xs N 131 20 L (r.toList ++ st) τ Q) := gk_call rfl (Nat.le_add_left 1 st.length) rfl rfl rfl
theorem g131_20 {L : sl_L} : sl_Go xs N 131 20 L st σ Q ↔ sl_Go xs N 131 26 L st σ Q := gk_goto rfl
theorem g131_23 {L : sl_L} : sl_Go xs N 131 23 L st σ Q ↔ sl_Go xs N 131 26 L (.inl (-1000000) :: st) σ Q := gk_const rfl
theorem g131_26 {L : sl_L} {x : Int32} : sl_Go xs N 131 26 L [.inl x] σ Q ↔ Q (some (.inl x)) σ := gk_iret rfl
theorem g132_0 {x : Int32} {a0 : Option sl_V} : sl_Go xs N 132 0 [a0, some (.inl x)] st σ Q ↔ sl_Go xs N 132 1 [a0, some (.inl x)] (.inl x :: st) σ Q := gk_iload rfl rfl
theorem g132_1 {L : sl_L} {x : Int32} : sl_Go xs N 132 1 L (.inl x :: st) σ Q ↔ (x = 0 → sl_Go xs N 132 56 L st σ Q) ∧ (¬ x = 0 → (x = 1 → sl_Go xs N 132 61 L st σ Q) ∧ (¬ x = 1 → (x = 2 → sl_Go xs N 132 66 L st σ Q) ∧ (¬ x = 2 → (x = 3 → sl_Go xs N 132 71 L st σ Q) ∧ (¬ x = 3 → (x = 4 → sl_Go xs N 132 76 L st σ Q) ∧ (¬ x = 4 → (x = 5 → sl_Go xs N 132 81 L st σ Q) ∧ (¬ x = 5 → (x = 6 → sl_Go xs N 132 86 L st σ Q) ∧ (¬ x = 6 → (x = 7 → sl_Go xs N 132 91 L st σ Q) ∧ (¬ x = 7 → (x = 8 → sl_Go xs N 132 96 L st σ Q) ∧ (¬ x = 8 → (x = 9 → sl_Go xs N 132 101 L st σ Q) ∧ (¬ x = 9 → sl_Go xs N 132 106 L st σ Q)))))))))) := gk_sw (ts := sl_sw 8) rfl rfl (Nat.le_of_ble_eq_true rfl)
theorem g132_56 {x : sl_R} {a1 : Option sl_V} : sl_Go xs N 132 56 [some (.inr (.inr x)), a1] st σ Q ↔ sl_Go xs N 132 57 [some (.inr (.inr x)), a1] (.inr (.inr x) :: st) σ Q := gk_aload rfl rfl
theorem g132_57 {L : sl_L} {i t : Nat} : sl_Go xs N 132 57 L (.inr (.inr (40, i, t)) :: st) σ Q ↔ sl_Go xs N 132 60 L (.inl (σ 4 0 0) :: st) σ Q := gk_get (g := .inl (4, 0, 0)) rfl rfl rfl
theorem g132_60 {L : sl_L} {x : Int32} : sl_Go xs N 132 60 L [.inl x] σ Q ↔ Q (some (.inl x)) σ := gk_iret rfl
theorem g132_61 {x : sl_R} {a1 : Option sl_V} : sl_Go xs N 132 61 [some (.inr (.inr x)), a1] st σ Q ↔ sl_Go xs N 132 62 [some (.inr (.inr x)), a1] (.inr (.inr x) :: st) σ Q := gk_aload rfl rfl
theorem g132_62 {L : sl_L} {i t : Nat} : sl_Go xs N 132 62 L (.inr (.inr (40, i, t)) :: st) σ Q ↔ sl_Go xs N 132 65 L (.inl (σ 6 0 0) :: st) σ Q := gk_get (g := .inl (6, 0, 0)) rfl rfl rfl
theorem g132_65 {L : sl_L} {x : Int32} : sl_Go xs N 132 65 L [.inl x] σ Q ↔ Q (some (.inl x)) σ := gk_iret rfl
theorem g132_66 {x : sl_R} {a1 : Option sl_V} : sl_Go xs N 132 66 [some (.inr (.inr x)), a1] st σ Q ↔ sl_Go xs N 132 67 [some (.inr (.inr x)), a1] (.inr (.inr x) :: st) σ Q := gk_aload rfl rfl
theorem g132_67 {L : sl_L} {i t : Nat} : sl_Go xs N 132 67 L (.inr (.inr (40, i, t)) :: st) σ Q ↔ sl_Go xs N 132 70 L (.inl (σ 6 0 1) :: st) σ Q := gk_get (g := .inl (6, 0, 1)) rfl rfl rfl
theorem g132_70 {L : sl_L} {x : Int32} : sl_Go xs N 132 70 L [.inl x] σ Q ↔ Q (some (.inl x)) σ := gk_iret rfl
theorem g132_71 {x : sl_R} {a1 : Option sl_V} : sl_Go xs N 132 71 [some (.inr (.inr x)), a1] st σ Q ↔ sl_Go xs N 132 72 [some (.inr (.inr x)), a1] (.inr (.inr x) :: st) σ Q := gk_aload rfl rfl
theorem g132_72 {L : sl_L} {i t : Nat} : sl_Go xs N 132 72 L (.inr (.inr (40, i, t)) :: st) σ Q ↔ sl_Go xs N 132 75 L (.inl (σ 4 0 5) :: st) σ Q := gk_get (g := .inl (4, 0, 5)) rfl rfl rfl
theorem g132_75 {L : sl_L} {x : Int32} : sl_Go xs N 132 75 L [.inl x] σ Q ↔ Q (some (.inl x)) σ := gk_iret rfl
theorem g132_76 {x : sl_R} {a1 : Option sl_V} : sl_Go xs N 132 76 [some (.inr (.inr x)), a1] st σ Q ↔ sl_Go xs N 132 77 [some (.inr (.inr x)), a1] (.inr (.inr x) :: st) σ Q := gk_aload rfl rfl
theorem g132_77 {L : sl_L} {i t : Nat} : sl_Go xs N 132 77 L (.inr (.inr (40, i, t)) :: st) σ Q ↔ sl_Go xs N 132 80 L (.inl (σ 4 0 6) :: st) σ Q := gk_get (g := .inl (4, 0, 6)) rfl rfl rfl
theorem g132_80 {L : sl_L} {x : Int32} : sl_Go xs N 132 80 L [.inl x] σ Q ↔ Q (some (.inl x)) σ := gk_iret rfl
theorem g132_81 {x : sl_R} {a1 : Option sl_V} : sl_Go xs N 132 81 [some (.inr (.inr x)), a1] st σ Q ↔ sl_Go xs N 132 82 [some (.inr (.inr x)), a1] (.inr (.inr x) :: st) σ Q := gk_aload rfl rfl
theorem g132_82 {L : sl_L} {i t : Nat} : sl_Go xs N 132 82 L (.inr (.inr (40, i, t)) :: st) σ Q ↔ sl_Go xs N 132 85 L (.inl (σ 4 0 7) :: st) σ Q := gk_get (g := .inl (4, 0, 7)) rfl rfl rfl
theorem g132_85 {L : sl_L} {x : Int32} : sl_Go xs N 132 85 L [.inl x] σ Q ↔ Q (some (.inl x)) σ := gk_iret rfl
theorem g132_86 {x : sl_R} {a1 : Option sl_V} : sl_Go xs N 132 86 [some (.inr (.inr x)), a1] st σ Q ↔ sl_Go xs N 132 87 [some (.inr (.inr x)), a1] (.inr (.inr x) :: st) σ Q := gk_aload rfl rfl
theorem g132_87 {L : sl_L} {i t : Nat} : sl_Go xs N 132 87 L (.inr (.inr (40, i, t)) :: st) σ Q ↔ sl_Go xs N 132 90 L (.inl (σ 4 0 8) :: st) σ Q := gk_get (g := .inl (4, 0, 8)) rfl rfl rfl
theorem g132_90 {L : sl_L} {x : Int32} : sl_Go xs N 132 90 L [.inl x] σ Q ↔ Q (some (.inl x)) σ := gk_iret rfl
theorem g132_91 {x : sl_R} {a1 : Option sl_V} : sl_Go xs N 132 91 [some (.inr (.inr x)), a1] st σ Q ↔ sl_Go xs N 132 92 [some (.inr (.inr x)), a1] (.inr (.inr x) :: st) σ Q := gk_aload rfl rfl
theorem g132_92 {L : sl_L} {i t : Nat} : sl_Go xs N 132 92 L (.inr (.inr (40, i, t)) :: st) σ Q ↔ sl_Go xs N 132 95 L (.inl (σ 6 0 2) :: st) σ Q := gk_get (g := .inl (6, 0, 2)) rfl rfl rfl
theorem g132_95 {L : sl_L} {x : Int32} : sl_Go xs N 132 95 L [.inl x] σ Q ↔ Q (some (.inl x)) σ := gk_iret rfl
theorem g132_96 {x : sl_R} {a1 : Option sl_V} : sl_Go xs N 132 96 [some (.inr (.inr x)), a1] st σ Q ↔ sl_Go xs N 132 97 [some (.inr (.inr x)), a1] (.inr (.inr x) :: st) σ Q := gk_aload rfl rfl
theorem g132_97 {L : sl_L} {i t : Nat} : sl_Go xs N 132 97 L (.inr (.inr (40, i, t)) :: st) σ Q ↔ sl_Go xs N 132 100 L (.inl (σ 8 0 3) :: st) σ Q := gk_get (g := .inl (8, 0, 3)) rfl rfl rfl
theorem g132_100 {L : sl_L} {x : Int32} : sl_Go xs N 132 100 L [.inl x] σ Q ↔ Q (some (.inl x)) σ := gk_iret rfl
theorem g132_101 {x : sl_R} {a1 : Option sl_V} : sl_Go xs N 132 101 [some (.inr (.inr x)), a1] st σ Q ↔ sl_Go xs N 132 102 [some (.inr (.inr x)), a1] (.inr (.inr x) :: st) σ Q := gk_aload rfl rfl
theorem g132_102 {L : sl_L} {i t : Nat} : sl_Go xs N 132 102 L (.inr (.inr (40, i, t)) :: st) σ Q ↔ sl_Go xs N 132 105 L (.inl (σ 8 0 1) :: st) σ Q := gk_get (g := .inl (8, 0, 1)) rfl rfl rfl
theorem g132_105 {L : sl_L} {x : Int32} : sl_Go xs N 132 105 L [.inl x] σ Q ↔ Q (some (.inl x)) σ := gk_iret rfl
theorem g132_106 {L : sl_L} : sl_Go xs N 132 106 L st σ Q ↔ sl_Go xs N 132 108 L (.inl (-2) :: st) σ Q := gk_const rfl
theorem g132_108 {L : sl_L} {x : Int32} : sl_Go xs N 132 108 L [.inl x] σ Q ↔ Q (some (.inl x)) σ := gk_iret rfl
theorem g133_0 {x : sl_R} {a1 a2 : Option sl_V} : sl_Go xs N 133 0 [some (.inr (.inr x)), a1, a2] st σ Q ↔ sl_Go xs N 133 1 [some (.inr (.inr x)), a1, a2] (.inr (.inr x) :: st) σ Q := gk_aload rfl rfl
theorem g133_1 {L : sl_L} {i t : Nat} : sl_Go xs N 133 1 L (.inr (.inr (40, i, t)) :: st) σ Q ↔ sl_Go xs N 133 4 L (.inr (.inr (61, 0, 0)) :: st) σ Q := gk_get (g := .inr (61, 0, 0)) rfl rfl rfl
theorem g133_4 {x : Int32} {a0 a2 : Option sl_V} : sl_Go xs N 133 4 [a0, some (.inl x), a2] st σ Q ↔ sl_Go xs N 133 5 [a0, some (.inl x), a2] (.inl x :: st) σ Q := gk_iload rfl rfl
theorem g133_5 {x : sl_R} {a1 a2 : Option sl_V} : sl_Go xs N 133 5 [some (.inr (.inr x)), a1, a2] st σ Q ↔ sl_Go xs N 133 6 [some (.inr (.inr x)), a1, a2] (.inr (.inr x) :: st) σ Q := gk_aload rfl rfl
theorem g133_6 {L : sl_L} {i t : Nat} : sl_Go xs N 133 6 L (.inr (.inr (40, i, t)) :: st) σ Q ↔ sl_Go xs N 133 9 L (.inl (σ 4 0 0) :: st) σ Q := gk_get (g := .inl (4, 0, 0)) rfl rfl rfl
theorem g133_9 {L : sl_L} {j x : Int32} {r : sl_R} : sl_Go xs N 133 9 L (.inl x :: .inl j :: .inr (.inr r) :: st) σ Q ↔ (0 ≤ j.toInt ∧ j.toInt < sl_wlen r 0) ∧ sl_Go xs N 133 10 L st (sl_wr σ r j.toNatClampNeg x) Q := gk_iast rfl
theorem g133_10 {x : sl_R} {a1 a2 : Option sl_V} : sl_Go xs N 133 10 [some (.inr (.inr x)), a1, a2] st σ Q ↔ sl_Go xs N 133 11 [some (.inr (.inr x)), a1, a2] (.inr (.inr x) :: st) σ Q := gk_aload rfl rfl
theorem g133_11 {L : sl_L} {i t : Nat} : sl_Go xs N 133 11 L (.inr (.inr (40, i, t)) :: st) σ Q ↔ sl_Go xs N 133 14 L (.inr (.inr (61, 0, 0)) :: st) σ Q := gk_get (g := .inr (61, 0, 0)) rfl rfl rfl
theorem g133_14 {x : Int32} {a0 a2 : Option sl_V} : sl_Go xs N 133 14 [a0, some (.inl x), a2] st σ Q ↔ sl_Go xs N 133 15 [a0, some (.inl x), a2] (.inl x :: st) σ Q := gk_iload rfl rfl
theorem g133_15 {L : sl_L} : sl_Go xs N 133 15 L st σ Q ↔ sl_Go xs N 133 16 L (.inl 1 :: st) σ Q := gk_const rfl
theorem g133_16 {L : sl_L} {x y : Int32} : sl_Go xs N 133 16 L (.inl y :: .inl x :: st) σ Q ↔ sl_Go xs N 133 17 L (.inl (x + y) :: st) σ Q := gk_bin (b := 8) rfl
theorem g133_17 {x : sl_R} {a1 a2 : Option sl_V} : sl_Go xs N 133 17 [some (.inr (.inr x)), a1, a2] st σ Q ↔ sl_Go xs N 133 18 [some (.inr (.inr x)), a1, a2] (.inr (.inr x) :: st) σ Q := gk_aload rfl rfl
theorem g133_18 {L : sl_L} {i t : Nat} : sl_Go xs N 133 18 L (.inr (.inr (40, i, t)) :: st) σ Q ↔ sl_Go xs N 133 21 L (.inl (σ 4 0 1) :: st) σ Q := gk_get (g := .inl (4, 0, 1)) rfl rfl rfl
theorem g133_21 {L : sl_L} {j x : Int32} {r : sl_R} : sl_Go xs N 133 21 L (.inl x :: .inl j :: .inr (.inr r) :: st) σ Q ↔ (0 ≤ j.toInt ∧ j.toInt < sl_wlen r 0) ∧ sl_Go xs N 133 22 L st (sl_wr σ r j.toNatClampNeg x) Q := gk_iast rfl
theorem g133_22 {x : sl_R} {a1 a2 : Option sl_V} : sl_Go xs N 133 22 [some (.inr (.inr x)), a1, a2] st σ Q ↔ sl_Go xs N 133 23 [some (.inr (.inr x)), a1, a2] (.inr (.inr x) :: st) σ Q := gk_aload rfl rfl
theorem g133_23 {L : sl_L} {i t : Nat} : sl_Go xs N 133 23 L (.inr (.inr (40, i, t)) :: st) σ Q ↔ sl_Go xs N 133 26 L (.inr (.inr (61, 0, 0)) :: st) σ Q := gk_get (g := .inr (61, 0, 0)) rfl rfl rfl
theorem g133_26 {x : Int32} {a0 a2 : Option sl_V} : sl_Go xs N 133 26 [a0, some (.inl x), a2] st σ Q ↔ sl_Go xs N 133 27 [a0, some (.inl x), a2] (.inl x :: st) σ Q := gk_iload rfl rfl
theorem g133_27 {L : sl_L} : sl_Go xs N 133 27 L st σ Q ↔ sl_Go xs N 133 28 L (.inl 2 :: st) σ Q := gk_const rfl
theorem g133_28 {L : sl_L} {x y : Int32} : sl_Go xs N 133 28 L (.inl y :: .inl x :: st) σ Q ↔ sl_Go xs N 133 29 L (.inl (x + y) :: st) σ Q := gk_bin (b := 8) rfl
theorem g133_29 {x : sl_R} {a1 a2 : Option sl_V} : sl_Go xs N 133 29 [some (.inr (.inr x)), a1, a2] st σ Q ↔ sl_Go xs N 133 30 [some (.inr (.inr x)), a1, a2] (.inr (.inr x) :: st) σ Q := gk_aload rfl rfl
theorem g133_30 {L : sl_L} {i t : Nat} : sl_Go xs N 133 30 L (.inr (.inr (40, i, t)) :: st) σ Q ↔ sl_Go xs N 133 33 L (.inl (σ 4 0 2) :: st) σ Q := gk_get (g := .inl (4, 0, 2)) rfl rfl rfl
theorem g133_33 {L : sl_L} {j x : Int32} {r : sl_R} : sl_Go xs N 133 33 L (.inl x :: .inl j :: .inr (.inr r) :: st) σ Q ↔ (0 ≤ j.toInt ∧ j.toInt < sl_wlen r 0) ∧ sl_Go xs N 133 34 L st (sl_wr σ r j.toNatClampNeg x) Q := gk_iast rfl
theorem g133_34 {x : sl_R} {a1 a2 : Option sl_V} : sl_Go xs N 133 34 [some (.inr (.inr x)), a1, a2] st σ Q ↔ sl_Go xs N 133 35 [some (.inr (.inr x)), a1, a2] (.inr (.inr x) :: st) σ Q := gk_aload rfl rfl
theorem g133_35 {L : sl_L} {i t : Nat} : sl_Go xs N 133 35 L (.inr (.inr (40, i, t)) :: st) σ Q ↔ sl_Go xs N 133 38 L (.inr (.inr (61, 0, 0)) :: st) σ Q := gk_get (g := .inr (61, 0, 0)) rfl rfl rfl
theorem g133_38 {x : Int32} {a0 a2 : Option sl_V} : sl_Go xs N 133 38 [a0, some (.inl x), a2] st σ Q ↔ sl_Go xs N 133 39 [a0, some (.inl x), a2] (.inl x :: st) σ Q := gk_iload rfl rfl
theorem g133_39 {L : sl_L} : sl_Go xs N 133 39 L st σ Q ↔ sl_Go xs N 133 40 L (.inl 3 :: st) σ Q := gk_const rfl
theorem g133_40 {L : sl_L} {x y : Int32} : sl_Go xs N 133 40 L (.inl y :: .inl x :: st) σ Q ↔ sl_Go xs N 133 41 L (.inl (x + y) :: st) σ Q := gk_bin (b := 8) rfl
theorem g133_41 {x : sl_R} {a1 a2 : Option sl_V} : sl_Go xs N 133 41 [some (.inr (.inr x)), a1, a2] st σ Q ↔ sl_Go xs N 133 42 [some (.inr (.inr x)), a1, a2] (.inr (.inr x) :: st) σ Q := gk_aload rfl rfl
theorem g133_42 {L : sl_L} {i t : Nat} : sl_Go xs N 133 42 L (.inr (.inr (40, i, t)) :: st) σ Q ↔ sl_Go xs N 133 45 L (.inl (σ 4 9 0) :: st) σ Q := gk_get (g := .inl (4, 9, 0)) rfl rfl rfl
theorem g133_45 {L : sl_L} {j x : Int32} {r : sl_R} : sl_Go xs N 133 45 L (.inl x :: .inl j :: .inr (.inr r) :: st) σ Q ↔ (0 ≤ j.toInt ∧ j.toInt < sl_wlen r 0) ∧ sl_Go xs N 133 46 L st (sl_wr σ r j.toNatClampNeg x) Q := gk_iast rfl
theorem g133_46 {x : sl_R} {a1 a2 : Option sl_V} : sl_Go xs N 133 46 [some (.inr (.inr x)), a1, a2] st σ Q ↔ sl_Go xs N 133 47 [some (.inr (.inr x)), a1, a2] (.inr (.inr x) :: st) σ Q := gk_aload rfl rfl
theorem g133_47 {L : sl_L} {i t : Nat} : sl_Go xs N 133 47 L (.inr (.inr (40, i, t)) :: st) σ Q ↔ sl_Go xs N 133 50 L (.inr (.inr (61, 0, 0)) :: st) σ Q := gk_get (g := .inr (61, 0, 0)) rfl rfl rfl
theorem g133_50 {x : Int32} {a0 a2 : Option sl_V} : sl_Go xs N 133 50 [a0, some (.inl x), a2] st σ Q ↔ sl_Go xs N 133 51 [a0, some (.inl x), a2] (.inl x :: st) σ Q := gk_iload rfl rfl
theorem g133_51 {L : sl_L} : sl_Go xs N 133 51 L st σ Q ↔ sl_Go xs N 133 52 L (.inl 4 :: st) σ Q := gk_const rfl
theorem g133_52 {L : sl_L} {x y : Int32} : sl_Go xs N 133 52 L (.inl y :: .inl x :: st) σ Q ↔ sl_Go xs N 133 53 L (.inl (x + y) :: st) σ Q := gk_bin (b := 8) rfl
theorem g133_53 {x : sl_R} {a1 a2 : Option sl_V} : sl_Go xs N 133 53 [some (.inr (.inr x)), a1, a2] st σ Q ↔ sl_Go xs N 133 54 [some (.inr (.inr x)), a1, a2] (.inr (.inr x) :: st) σ Q := gk_aload rfl rfl
theorem g133_54 {L : sl_L} {i t : Nat} : sl_Go xs N 133 54 L (.inr (.inr (40, i, t)) :: st) σ Q ↔ sl_Go xs N 133 57 L (.inl (σ 4 9 1) :: st) σ Q := gk_get (g := .inl (4, 9, 1)) rfl rfl rfl
theorem g133_57 {L : sl_L} {j x : Int32} {r : sl_R} : sl_Go xs N 133 57 L (.inl x :: .inl j :: .inr (.inr r) :: st) σ Q ↔ (0 ≤ j.toInt ∧ j.toInt < sl_wlen r 0) ∧ sl_Go xs N 133 58 L st (sl_wr σ r j.toNatClampNeg x) Q := gk_iast rfl
theorem g133_58 {x : sl_R} {a1 a2 : Option sl_V} : sl_Go xs N 133 58 [some (.inr (.inr x)), a1, a2] st σ Q ↔ sl_Go xs N 133 59 [some (.inr (.inr x)), a1, a2] (.inr (.inr x) :: st) σ Q := gk_aload rfl rfl
theorem g133_59 {L : sl_L} {i t : Nat} : sl_Go xs N 133 59 L (.inr (.inr (40, i, t)) :: st) σ Q ↔ sl_Go xs N 133 62 L (.inr (.inr (61, 0, 0)) :: st) σ Q := gk_get (g := .inr (61, 0, 0)) rfl rfl rfl
theorem g133_62 {x : Int32} {a0 a2 : Option sl_V} : sl_Go xs N 133 62 [a0, some (.inl x), a2] st σ Q ↔ sl_Go xs N 133 63 [a0, some (.inl x), a2] (.inl x :: st) σ Q := gk_iload rfl rfl
theorem g133_63 {L : sl_L} : sl_Go xs N 133 63 L st σ Q ↔ sl_Go xs N 133 64 L (.inl 5 :: st) σ Q := gk_const rfl
theorem g133_64 {L : sl_L} {x y : Int32} : sl_Go xs N 133 64 L (.inl y :: .inl x :: st) σ Q ↔ sl_Go xs N 133 65 L (.inl (x + y) :: st) σ Q := gk_bin (b := 8) rfl
theorem g133_65 {x : sl_R} {a1 a2 : Option sl_V} : sl_Go xs N 133 65 [some (.inr (.inr x)), a1, a2] st σ Q ↔ sl_Go xs N 133 66 [some (.inr (.inr x)), a1, a2] (.inr (.inr x) :: st) σ Q := gk_aload rfl rfl
theorem g133_66 {L : sl_L} {i t : Nat} : sl_Go xs N 133 66 L (.inr (.inr (40, i, t)) :: st) σ Q ↔ sl_Go xs N 133 69 L (.inl (σ 4 0 5) :: st) σ Q := gk_get (g := .inl (4, 0, 5)) rfl rfl rfl
theorem g133_69 {L : sl_L} {j x : Int32} {r : sl_R} : sl_Go xs N 133 69 L (.inl x :: .inl j :: .inr (.inr r) :: st) σ Q ↔ (0 ≤ j.toInt ∧ j.toInt < sl_wlen r 0) ∧ sl_Go xs N 133 70 L st (sl_wr σ r j.toNatClampNeg x) Q := gk_iast rfl
theorem g133_70 {x : sl_R} {a1 a2 : Option sl_V} : sl_Go xs N 133 70 [some (.inr (.inr x)), a1, a2] st σ Q ↔ sl_Go xs N 133 71 [some (.inr (.inr x)), a1, a2] (.inr (.inr x) :: st) σ Q := gk_aload rfl rfl
theorem g133_71 {L : sl_L} {i t : Nat} : sl_Go xs N 133 71 L (.inr (.inr (40, i, t)) :: st) σ Q ↔ sl_Go xs N 133 74 L (.inr (.inr (61, 0, 0)) :: st) σ Q := gk_get (g := .inr (61, 0, 0)) rfl rfl rfl
theorem g133_74 {x : Int32} {a0 a2 : Option sl_V} : sl_Go xs N 133 74 [a0, some (.inl x), a2] st σ Q ↔ sl_Go xs N 133 75 [a0, some (.inl x), a2] (.inl x :: st) σ Q := gk_iload rfl rfl
theorem g133_75 {L : sl_L} : sl_Go xs N 133 75 L st σ Q ↔ sl_Go xs N 133 77 L (.inl 6 :: st) σ Q := gk_const rfl
theorem g133_77 {L : sl_L} {x y : Int32} : sl_Go xs N 133 77 L (.inl y :: .inl x :: st) σ Q ↔ sl_Go xs N 133 78 L (.inl (x + y) :: st) σ Q := gk_bin (b := 8) rfl
theorem g133_78 {x : sl_R} {a1 a2 : Option sl_V} : sl_Go xs N 133 78 [some (.inr (.inr x)), a1, a2] st σ Q ↔ sl_Go xs N 133 79 [some (.inr (.inr x)), a1, a2] (.inr (.inr x) :: st) σ Q := gk_aload rfl rfl
theorem g133_79 {L : sl_L} {i t : Nat} : sl_Go xs N 133 79 L (.inr (.inr (40, i, t)) :: st) σ Q ↔ sl_Go xs N 133 82 L (.inl (σ 4 0 6) :: st) σ Q := gk_get (g := .inl (4, 0, 6)) rfl rfl rfl
theorem g133_82 {L : sl_L} {j x : Int32} {r : sl_R} : sl_Go xs N 133 82 L (.inl x :: .inl j :: .inr (.inr r) :: st) σ Q ↔ (0 ≤ j.toInt ∧ j.toInt < sl_wlen r 0) ∧ sl_Go xs N 133 83 L st (sl_wr σ r j.toNatClampNeg x) Q := gk_iast rfl
theorem g133_83 {x : sl_R} {a1 a2 : Option sl_V} : sl_Go xs N 133 83 [some (.inr (.inr x)), a1, a2] st σ Q ↔ sl_Go xs N 133 84 [some (.inr (.inr x)), a1, a2] (.inr (.inr x) :: st) σ Q := gk_aload rfl rfl
theorem g133_84 {L : sl_L} {i t : Nat} : sl_Go xs N 133 84 L (.inr (.inr (40, i, t)) :: st) σ Q ↔ sl_Go xs N 133 87 L (.inr (.inr (61, 0, 0)) :: st) σ Q := gk_get (g := .inr (61, 0, 0)) rfl rfl rfl
theorem g133_87 {x : Int32} {a0 a2 : Option sl_V} : sl_Go xs N 133 87 [a0, some (.inl x), a2] st σ Q ↔ sl_Go xs N 133 88 [a0, some (.inl x), a2] (.inl x :: st) σ Q := gk_iload rfl rfl
theorem g133_88 {L : sl_L} : sl_Go xs N 133 88 L st σ Q ↔ sl_Go xs N 133 90 L (.inl 7 :: st) σ Q := gk_const rfl
theorem g133_90 {L : sl_L} {x y : Int32} : sl_Go xs N 133 90 L (.inl y :: .inl x :: st) σ Q ↔ sl_Go xs N 133 91 L (.inl (x + y) :: st) σ Q := gk_bin (b := 8) rfl
theorem g133_91 {x : sl_R} {a1 a2 : Option sl_V} : sl_Go xs N 133 91 [some (.inr (.inr x)), a1, a2] st σ Q ↔ sl_Go xs N 133 92 [some (.inr (.inr x)), a1, a2] (.inr (.inr x) :: st) σ Q := gk_aload rfl rfl
theorem g133_92 {L : sl_L} {i t : Nat} : sl_Go xs N 133 92 L (.inr (.inr (40, i, t)) :: st) σ Q ↔ sl_Go xs N 133 95 L (.inl (σ 4 0 7) :: st) σ Q := gk_get (g := .inl (4, 0, 7)) rfl rfl rfl
theorem g133_95 {L : sl_L} {j x : Int32} {r : sl_R} : sl_Go xs N 133 95 L (.inl x :: .inl j :: .inr (.inr r) :: st) σ Q ↔ (0 ≤ j.toInt ∧ j.toInt < sl_wlen r 0) ∧ sl_Go xs N 133 96 L st (sl_wr σ r j.toNatClampNeg x) Q := gk_iast rfl
theorem g133_96 {x : sl_R} {a1 a2 : Option sl_V} : sl_Go xs N 133 96 [some (.inr (.inr x)), a1, a2] st σ Q ↔ sl_Go xs N 133 97 [some (.inr (.inr x)), a1, a2] (.inr (.inr x) :: st) σ Q := gk_aload rfl rfl
theorem g133_97 {L : sl_L} {i t : Nat} : sl_Go xs N 133 97 L (.inr (.inr (40, i, t)) :: st) σ Q ↔ sl_Go xs N 133 100 L (.inr (.inr (61, 0, 0)) :: st) σ Q := gk_get (g := .inr (61, 0, 0)) rfl rfl rfl
theorem g133_100 {x : Int32} {a0 a2 : Option sl_V} : sl_Go xs N 133 100 [a0, some (.inl x), a2] st σ Q ↔ sl_Go xs N 133 101 [a0, some (.inl x), a2] (.inl x :: st) σ Q := gk_iload rfl rfl
theorem g133_101 {L : sl_L} : sl_Go xs N 133 101 L st σ Q ↔ sl_Go xs N 133 103 L (.inl 8 :: st) σ Q := gk_const rfl
theorem g133_103 {L : sl_L} {x y : Int32} : sl_Go xs N 133 103 L (.inl y :: .inl x :: st) σ Q ↔ sl_Go xs N 133 104 L (.inl (x + y) :: st) σ Q := gk_bin (b := 8) rfl
theorem g133_104 {x : sl_R} {a1 a2 : Option sl_V} : sl_Go xs N 133 104 [some (.inr (.inr x)), a1, a2] st σ Q ↔ sl_Go xs N 133 105 [some (.inr (.inr x)), a1, a2] (.inr (.inr x) :: st) σ Q := gk_aload rfl rfl
theorem g133_105 {L : sl_L} {i t : Nat} : sl_Go xs N 133 105 L (.inr (.inr (40, i, t)) :: st) σ Q ↔ sl_Go xs N 133 108 L (.inl (σ 4 0 8) :: st) σ Q := gk_get (g := .inl (4, 0, 8)) rfl rfl rfl
theorem g133_108 {L : sl_L} {j x : Int32} {r : sl_R} : sl_Go xs N 133 108 L (.inl x :: .inl j :: .inr (.inr r) :: st) σ Q ↔ (0 ≤ j.toInt ∧ j.toInt < sl_wlen r 0) ∧ sl_Go xs N 133 109 L st (sl_wr σ r j.toNatClampNeg x) Q := gk_iast rfl
theorem g133_109 {L : sl_L} : sl_Go xs N 133 109 L st σ Q ↔ sl_Go xs N 133 110 L (.inl 0 :: st) σ Q := gk_const rfl
theorem g133_110n {x : Int32} {a0 a2 : Option sl_V} : sl_Go xs N 133 110 [a0, none, a2] (.inl x :: st) σ Q ↔ sl_Go xs N 133 111 [a0, none, some (.inl x)] st σ Q := gk_istore rfl ⟨Nat.le_of_ble_eq_true rfl, rfl⟩ rfl
theorem g133_110i {x : Int32} {z : Int32} {a0 a2 : Option sl_V} : sl_Go xs N 133 110 [a0, some (.inl z), a2] (.inl x :: st) σ Q ↔ sl_Go xs N 133 111 [a0, some (.inl z), some (.inl x)] st σ Q := gk_istore rfl ⟨Nat.le_of_ble_eq_true rfl, rfl⟩ rfl
theorem g133_110r {x : Int32} {z : sl_R} {a0 a2 : Option sl_V} : sl_Go xs N 133 110 [a0, some (.inr (.inr z)), a2] (.inl x :: st) σ Q ↔ sl_Go xs N 133 111 [a0, some (.inr (.inr z)), some (.inl x)] st σ Q := gk_istore rfl ⟨Nat.le_of_ble_eq_true rfl, rfl⟩ rfl
theorem g133_111 {x : Int32} {a0 a1 : Option sl_V} : sl_Go xs N 133 111 [a0, a1, some (.inl x)] st σ Q ↔ sl_Go xs N 133 112 [a0, a1, some (.inl x)] (.inl x :: st) σ Q := gk_iload rfl rfl
theorem g133_112 {L : sl_L} : sl_Go xs N 133 112 L st σ Q ↔ sl_Go xs N 133 114 L (.inl 60 :: st) σ Q := gk_const rfl
theorem g133_114 {L : sl_L} {x y : Int32} : sl_Go xs N 133 114 L (.inl y :: .inl x :: st) σ Q ↔ (y ≤ x → sl_Go xs N 133 157 L st σ Q) ∧ (¬ y ≤ x → sl_Go xs N 133 117 L st σ Q) := gk_ige rfl
theorem g133_117 {x : sl_R} {a1 a2 : Option sl_V} : sl_Go xs N 133 117 [some (.inr (.inr x)), a1, a2] st σ Q ↔ sl_Go xs N 133 118 [some (.inr (.inr x)), a1, a2] (.inr (.inr x) :: st) σ Q := gk_aload rfl rfl
theorem g133_118 {L : sl_L} {i t : Nat} : sl_Go xs N 133 118 L (.inr (.inr (40, i, t)) :: st) σ Q ↔ sl_Go xs N 133 121 L (.inr (.inr (61, 0, 0)) :: st) σ Q := gk_get (g := .inr (61, 0, 0)) rfl rfl rfl
theorem g133_121 {x : Int32} {a0 a2 : Option sl_V} : sl_Go xs N 133 121 [a0, some (.inl x), a2] st σ Q ↔ sl_Go xs N 133 122 [a0, some (.inl x), a2] (.inl x :: st) σ Q := gk_iload rfl rfl
theorem g133_122 {L : sl_L} : sl_Go xs N 133 122 L st σ Q ↔ sl_Go xs N 133 124 L (.inl 10 :: st) σ Q := gk_const rfl
theorem g133_124 {L : sl_L} {x y : Int32} : sl_Go xs N 133 124 L (.inl y :: .inl x :: st) σ Q ↔ sl_Go xs N 133 125 L (.inl (x + y) :: st) σ Q := gk_bin (b := 8) rfl
theorem g133_125 {x : Int32} {a0 a1 : Option sl_V} : sl_Go xs N 133 125 [a0, a1, some (.inl x)] st σ Q ↔ sl_Go xs N 133 126 [a0, a1, some (.inl x)] (.inl x :: st) σ Q := gk_iload rfl rfl
theorem g133_126 {L : sl_L} {x y : Int32} : sl_Go xs N 133 126 L (.inl y :: .inl x :: st) σ Q ↔ sl_Go xs N 133 127 L (.inl (x + y) :: st) σ Q := gk_bin (b := 8) rfl
theorem g133_127 {x : sl_R} {a1 a2 : Option sl_V} : sl_Go xs N 133 127 [some (.inr (.inr x)), a1, a2] st σ Q ↔ sl_Go xs N 133 128 [some (.inr (.inr x)), a1, a2] (.inr (.inr x) :: st) σ Q := gk_aload rfl rfl
theorem g133_128 {L : sl_L} {i t : Nat} : sl_Go xs N 133 128 L (.inr (.inr (40, i, t)) :: st) σ Q ↔ sl_Go xs N 133 131 L (.inr (.inr (47, 0, 0)) :: st) σ Q := gk_get (g := .inr (47, 0, 0)) rfl rfl rfl
theorem g133_131 {x : Int32} {a0 a1 : Option sl_V} : sl_Go xs N 133 131 [a0, a1, some (.inl x)] st σ Q ↔ sl_Go xs N 133 132 [a0, a1, some (.inl x)] (.inl x :: st) σ Q := gk_iload rfl rfl
theorem g133_132 {L : sl_L} {j : Int32} {r : sl_R} : sl_Go xs N 133 132 L (.inl j :: .inr (.inr r) :: st) σ Q ↔ (0 ≤ j.toInt ∧ j.toInt < sl_ilen N r) ∧ sl_Go xs N 133 133 L (.inl (sl_rd xs σ r j.toNatClampNeg) :: st) σ Q := gk_iald rfl
theorem g133_133 {L : sl_L} {j x : Int32} {r : sl_R} : sl_Go xs N 133 133 L (.inl x :: .inl j :: .inr (.inr r) :: st) σ Q ↔ (0 ≤ j.toInt ∧ j.toInt < sl_wlen r 0) ∧ sl_Go xs N 133 134 L st (sl_wr σ r j.toNatClampNeg x) Q := gk_iast rfl
theorem g133_134 {x : sl_R} {a1 a2 : Option sl_V} : sl_Go xs N 133 134 [some (.inr (.inr x)), a1, a2] st σ Q ↔ sl_Go xs N 133 135 [some (.inr (.inr x)), a1, a2] (.inr (.inr x) :: st) σ Q := gk_aload rfl rfl
theorem g133_135 {L : sl_L} {i t : Nat} : sl_Go xs N 133 135 L (.inr (.inr (40, i, t)) :: st) σ Q ↔ sl_Go xs N 133 138 L (.inr (.inr (61, 0, 0)) :: st) σ Q := gk_get (g := .inr (61, 0, 0)) rfl rfl rfl
theorem g133_138 {x : Int32} {a0 a2 : Option sl_V} : sl_Go xs N 133 138 [a0, some (.inl x), a2] st σ Q ↔ sl_Go xs N 133 139 [a0, some (.inl x), a2] (.inl x :: st) σ Q := gk_iload rfl rfl
theorem g133_139 {L : sl_L} : sl_Go xs N 133 139 L st σ Q ↔ sl_Go xs N 133 141 L (.inl 70 :: st) σ Q := gk_const rfl
theorem g133_141 {L : sl_L} {x y : Int32} : sl_Go xs N 133 141 L (.inl y :: .inl x :: st) σ Q ↔ sl_Go xs N 133 142 L (.inl (x + y) :: st) σ Q := gk_bin (b := 8) rfl
theorem g133_142 {x : Int32} {a0 a1 : Option sl_V} : sl_Go xs N 133 142 [a0, a1, some (.inl x)] st σ Q ↔ sl_Go xs N 133 143 [a0, a1, some (.inl x)] (.inl x :: st) σ Q := gk_iload rfl rfl
theorem g133_143 {L : sl_L} {x y : Int32} : sl_Go xs N 133 143 L (.inl y :: .inl x :: st) σ Q ↔ sl_Go xs N 133 144 L (.inl (x + y) :: st) σ Q := gk_bin (b := 8) rfl
theorem g133_144 {x : sl_R} {a1 a2 : Option sl_V} : sl_Go xs N 133 144 [some (.inr (.inr x)), a1, a2] st σ Q ↔ sl_Go xs N 133 145 [some (.inr (.inr x)), a1, a2] (.inr (.inr x) :: st) σ Q := gk_aload rfl rfl
theorem g133_145 {L : sl_L} {i t : Nat} : sl_Go xs N 133 145 L (.inr (.inr (40, i, t)) :: st) σ Q ↔ sl_Go xs N 133 148 L (.inr (.inr (48, 0, 0)) :: st) σ Q := gk_get (g := .inr (48, 0, 0)) rfl rfl rfl
theorem g133_148 {x : Int32} {a0 a1 : Option sl_V} : sl_Go xs N 133 148 [a0, a1, some (.inl x)] st σ Q ↔ sl_Go xs N 133 149 [a0, a1, some (.inl x)] (.inl x :: st) σ Q := gk_iload rfl rfl
theorem g133_149 {L : sl_L} {j : Int32} {r : sl_R} : sl_Go xs N 133 149 L (.inl j :: .inr (.inr r) :: st) σ Q ↔ (0 ≤ j.toInt ∧ j.toInt < sl_ilen N r) ∧ sl_Go xs N 133 150 L (.inl (sl_rd xs σ r j.toNatClampNeg) :: st) σ Q := gk_iald rfl
theorem g133_150 {L : sl_L} {j x : Int32} {r : sl_R} : sl_Go xs N 133 150 L (.inl x :: .inl j :: .inr (.inr r) :: st) σ Q ↔ (0 ≤ j.toInt ∧ j.toInt < sl_wlen r 0) ∧ sl_Go xs N 133 151 L st (sl_wr σ r j.toNatClampNeg x) Q := gk_iast rfl
theorem g133_151n {x : Int32} {a0 : Option sl_V} : sl_Go xs N 133 151 [a0, none, some (.inl x)] st σ Q ↔ sl_Go xs N 133 154 [a0, none, some (.inl (x + 1))] st σ Q := gk_iinc rfl rfl rfl rfl
theorem g133_151i {x : Int32} {z : Int32} {a0 : Option sl_V} : sl_Go xs N 133 151 [a0, some (.inl z), some (.inl x)] st σ Q ↔ sl_Go xs N 133 154 [a0, some (.inl z), some (.inl (x + 1))] st σ Q := gk_iinc rfl rfl rfl rfl
theorem g133_151r {x : Int32} {z : sl_R} {a0 : Option sl_V} : sl_Go xs N 133 151 [a0, some (.inr (.inr z)), some (.inl x)] st σ Q ↔ sl_Go xs N 133 154 [a0, some (.inr (.inr z)), some (.inl (x + 1))] st σ Q := gk_iinc rfl rfl rfl rfl
theorem g133_154 {L : sl_L} : sl_Go xs N 133 154 L st σ Q ↔ sl_Go xs N 133 111 L st σ Q := gk_goto rfl
theorem g133_157 {L : sl_L} : sl_Go xs N 133 157 L st σ Q ↔ sl_Go xs N 133 158 L (.inl 0 :: st) σ Q := gk_const rfl
theorem g133_158n {x : Int32} {a0 a2 : Option sl_V} : sl_Go xs N 133 158 [a0, none, a2] (.inl x :: st) σ Q ↔ sl_Go xs N 133 159 [a0, none, some (.inl x)] st σ Q := gk_istore rfl ⟨Nat.le_of_ble_eq_true rfl, rfl⟩ rfl
theorem g133_158i {x : Int32} {z : Int32} {a0 a2 : Option sl_V} : sl_Go xs N 133 158 [a0, some (.inl z), a2] (.inl x :: st) σ Q ↔ sl_Go xs N 133 159 [a0, some (.inl z), some (.inl x)] st σ Q := gk_istore rfl ⟨Nat.le_of_ble_eq_true rfl, rfl⟩ rfl
theorem g133_158r {x : Int32} {z : sl_R} {a0 a2 : Option sl_V} : sl_Go xs N 133 158 [a0, some (.inr (.inr z)), a2] (.inl x :: st) σ Q ↔ sl_Go xs N 133 159 [a0, some (.inr (.inr z)), some (.inl x)] st σ Q := gk_istore rfl ⟨Nat.le_of_ble_eq_true rfl, rfl⟩ rfl
theorem g133_159 {x : Int32} {a0 a1 : Option sl_V} : sl_Go xs N 133 159 [a0, a1, some (.inl x)] st σ Q ↔ sl_Go xs N 133 160 [a0, a1, some (.inl x)] (.inl x :: st) σ Q := gk_iload rfl rfl
theorem g133_160 {L : sl_L} : sl_Go xs N 133 160 L st σ Q ↔ sl_Go xs N 133 161 L (.inl 5 :: st) σ Q := gk_const rfl
theorem g133_161 {L : sl_L} {x y : Int32} : sl_Go xs N 133 161 L (.inl y :: .inl x :: st) σ Q ↔ (y ≤ x → sl_Go xs N 133 206 L st σ Q) ∧ (¬ y ≤ x → sl_Go xs N 133 164 L st σ Q) := gk_ige rfl
theorem g133_164 {x : sl_R} {a1 a2 : Option sl_V} : sl_Go xs N 133 164 [some (.inr (.inr x)), a1, a2] st σ Q ↔ sl_Go xs N 133 165 [some (.inr (.inr x)), a1, a2] (.inr (.inr x) :: st) σ Q := gk_aload rfl rfl
theorem g133_165 {L : sl_L} {i t : Nat} : sl_Go xs N 133 165 L (.inr (.inr (40, i, t)) :: st) σ Q ↔ sl_Go xs N 133 168 L (.inr (.inr (61, 0, 0)) :: st) σ Q := gk_get (g := .inr (61, 0, 0)) rfl rfl rfl
theorem g133_168 {x : Int32} {a0 a2 : Option sl_V} : sl_Go xs N 133 168 [a0, some (.inl x), a2] st σ Q ↔ sl_Go xs N 133 169 [a0, some (.inl x), a2] (.inl x :: st) σ Q := gk_iload rfl rfl
theorem g133_169 {L : sl_L} : sl_Go xs N 133 169 L st σ Q ↔ sl_Go xs N 133 172 L (.inl 130 :: st) σ Q := gk_const rfl
theorem g133_172 {L : sl_L} {x y : Int32} : sl_Go xs N 133 172 L (.inl y :: .inl x :: st) σ Q ↔ sl_Go xs N 133 173 L (.inl (x + y) :: st) σ Q := gk_bin (b := 8) rfl
theorem g133_173 {x : Int32} {a0 a1 : Option sl_V} : sl_Go xs N 133 173 [a0, a1, some (.inl x)] st σ Q ↔ sl_Go xs N 133 174 [a0, a1, some (.inl x)] (.inl x :: st) σ Q := gk_iload rfl rfl
theorem g133_174 {L : sl_L} {x y : Int32} : sl_Go xs N 133 174 L (.inl y :: .inl x :: st) σ Q ↔ sl_Go xs N 133 175 L (.inl (x + y) :: st) σ Q := gk_bin (b := 8) rfl
theorem g133_175 {x : sl_R} {a1 a2 : Option sl_V} : sl_Go xs N 133 175 [some (.inr (.inr x)), a1, a2] st σ Q ↔ sl_Go xs N 133 176 [some (.inr (.inr x)), a1, a2] (.inr (.inr x) :: st) σ Q := gk_aload rfl rfl
theorem g133_176 {L : sl_L} {i t : Nat} : sl_Go xs N 133 176 L (.inr (.inr (40, i, t)) :: st) σ Q ↔ sl_Go xs N 133 179 L (.inr (.inr (45, 0, 0)) :: st) σ Q := gk_get (g := .inr (45, 0, 0)) rfl rfl rfl
theorem g133_179 {x : Int32} {a0 a1 : Option sl_V} : sl_Go xs N 133 179 [a0, a1, some (.inl x)] st σ Q ↔ sl_Go xs N 133 180 [a0, a1, some (.inl x)] (.inl x :: st) σ Q := gk_iload rfl rfl
theorem g133_180 {L : sl_L} {j : Int32} {r : sl_R} : sl_Go xs N 133 180 L (.inl j :: .inr (.inr r) :: st) σ Q ↔ (0 ≤ j.toInt ∧ j.toInt < sl_ilen N r) ∧ sl_Go xs N 133 181 L (.inl (sl_rd xs σ r j.toNatClampNeg) :: st) σ Q := gk_iald rfl
theorem g133_181 {L : sl_L} {j x : Int32} {r : sl_R} : sl_Go xs N 133 181 L (.inl x :: .inl j :: .inr (.inr r) :: st) σ Q ↔ (0 ≤ j.toInt ∧ j.toInt < sl_wlen r 0) ∧ sl_Go xs N 133 182 L st (sl_wr σ r j.toNatClampNeg x) Q := gk_iast rfl
theorem g133_182 {x : sl_R} {a1 a2 : Option sl_V} : sl_Go xs N 133 182 [some (.inr (.inr x)), a1, a2] st σ Q ↔ sl_Go xs N 133 183 [some (.inr (.inr x)), a1, a2] (.inr (.inr x) :: st) σ Q := gk_aload rfl rfl
theorem g133_183 {L : sl_L} {i t : Nat} : sl_Go xs N 133 183 L (.inr (.inr (40, i, t)) :: st) σ Q ↔ sl_Go xs N 133 186 L (.inr (.inr (61, 0, 0)) :: st) σ Q := gk_get (g := .inr (61, 0, 0)) rfl rfl rfl
theorem g133_186 {x : Int32} {a0 a2 : Option sl_V} : sl_Go xs N 133 186 [a0, some (.inl x), a2] st σ Q ↔ sl_Go xs N 133 187 [a0, some (.inl x), a2] (.inl x :: st) σ Q := gk_iload rfl rfl
theorem g133_187 {L : sl_L} : sl_Go xs N 133 187 L st σ Q ↔ sl_Go xs N 133 190 L (.inl 135 :: st) σ Q := gk_const rfl
theorem g133_190 {L : sl_L} {x y : Int32} : sl_Go xs N 133 190 L (.inl y :: .inl x :: st) σ Q ↔ sl_Go xs N 133 191 L (.inl (x + y) :: st) σ Q := gk_bin (b := 8) rfl
theorem g133_191 {x : Int32} {a0 a1 : Option sl_V} : sl_Go xs N 133 191 [a0, a1, some (.inl x)] st σ Q ↔ sl_Go xs N 133 192 [a0, a1, some (.inl x)] (.inl x :: st) σ Q := gk_iload rfl rfl
theorem g133_192 {L : sl_L} {x y : Int32} : sl_Go xs N 133 192 L (.inl y :: .inl x :: st) σ Q ↔ sl_Go xs N 133 193 L (.inl (x + y) :: st) σ Q := gk_bin (b := 8) rfl
theorem g133_193 {x : sl_R} {a1 a2 : Option sl_V} : sl_Go xs N 133 193 [some (.inr (.inr x)), a1, a2] st σ Q ↔ sl_Go xs N 133 194 [some (.inr (.inr x)), a1, a2] (.inr (.inr x) :: st) σ Q := gk_aload rfl rfl
theorem g133_194 {L : sl_L} {i t : Nat} : sl_Go xs N 133 194 L (.inr (.inr (40, i, t)) :: st) σ Q ↔ sl_Go xs N 133 197 L (.inr (.inr (46, 0, 0)) :: st) σ Q := gk_get (g := .inr (46, 0, 0)) rfl rfl rfl
theorem g133_197 {x : Int32} {a0 a1 : Option sl_V} : sl_Go xs N 133 197 [a0, a1, some (.inl x)] st σ Q ↔ sl_Go xs N 133 198 [a0, a1, some (.inl x)] (.inl x :: st) σ Q := gk_iload rfl rfl
theorem g133_198 {L : sl_L} {j : Int32} {r : sl_R} : sl_Go xs N 133 198 L (.inl j :: .inr (.inr r) :: st) σ Q ↔ (0 ≤ j.toInt ∧ j.toInt < sl_ilen N r) ∧ sl_Go xs N 133 199 L (.inl (sl_rd xs σ r j.toNatClampNeg) :: st) σ Q := gk_iald rfl
theorem g133_199 {L : sl_L} {j x : Int32} {r : sl_R} : sl_Go xs N 133 199 L (.inl x :: .inl j :: .inr (.inr r) :: st) σ Q ↔ (0 ≤ j.toInt ∧ j.toInt < sl_wlen r 0) ∧ sl_Go xs N 133 200 L st (sl_wr σ r j.toNatClampNeg x) Q := gk_iast rfl
theorem g133_200n {x : Int32} {a0 : Option sl_V} : sl_Go xs N 133 200 [a0, none, some (.inl x)] st σ Q ↔ sl_Go xs N 133 203 [a0, none, some (.inl (x + 1))] st σ Q := gk_iinc rfl rfl rfl rfl
theorem g133_200i {x : Int32} {z : Int32} {a0 : Option sl_V} : sl_Go xs N 133 200 [a0, some (.inl z), some (.inl x)] st σ Q ↔ sl_Go xs N 133 203 [a0, some (.inl z), some (.inl (x + 1))] st σ Q := gk_iinc rfl rfl rfl rfl
theorem g133_200r {x : Int32} {z : sl_R} {a0 : Option sl_V} : sl_Go xs N 133 200 [a0, some (.inr (.inr z)), some (.inl x)] st σ Q ↔ sl_Go xs N 133 203 [a0, some (.inr (.inr z)), some (.inl (x + 1))] st σ Q := gk_iinc rfl rfl rfl rfl
theorem g133_203 {L : sl_L} : sl_Go xs N 133 203 L st σ Q ↔ sl_Go xs N 133 159 L st σ Q := gk_goto rfl
theorem g133_206 {L : sl_L} : sl_Go xs N 133 206 L st σ Q ↔ sl_Go xs N 133 207 L (.inl 0 :: st) σ Q := gk_const rfl
theorem g133_207n {x : Int32} {a0 a2 : Option sl_V} : sl_Go xs N 133 207 [a0, none, a2] (.inl x :: st) σ Q ↔ sl_Go xs N 133 208 [a0, none, some (.inl x)] st σ Q := gk_istore rfl ⟨Nat.le_of_ble_eq_true rfl, rfl⟩ rfl
theorem g133_207i {x : Int32} {z : Int32} {a0 a2 : Option sl_V} : sl_Go xs N 133 207 [a0, some (.inl z), a2] (.inl x :: st) σ Q ↔ sl_Go xs N 133 208 [a0, some (.inl z), some (.inl x)] st σ Q := gk_istore rfl ⟨Nat.le_of_ble_eq_true rfl, rfl⟩ rfl
theorem g133_207r {x : Int32} {z : sl_R} {a0 a2 : Option sl_V} : sl_Go xs N 133 207 [a0, some (.inr (.inr z)), a2] (.inl x :: st) σ Q ↔ sl_Go xs N 133 208 [a0, some (.inr (.inr z)), some (.inl x)] st σ Q := gk_istore rfl ⟨Nat.le_of_ble_eq_true rfl, rfl⟩ rfl
theorem g133_208 {x : Int32} {a0 a1 : Option sl_V} : sl_Go xs N 133 208 [a0, a1, some (.inl x)] st σ Q ↔ sl_Go xs N 133 209 [a0, a1, some (.inl x)] (.inl x :: st) σ Q := gk_iload rfl rfl
theorem g133_209 {L : sl_L} : sl_Go xs N 133 209 L st σ Q ↔ sl_Go xs N 133 211 L (.inl 6 :: st) σ Q := gk_const rfl
theorem g133_211 {L : sl_L} {x y : Int32} : sl_Go xs N 133 211 L (.inl y :: .inl x :: st) σ Q ↔ (y ≤ x → sl_Go xs N 133 274 L st σ Q) ∧ (¬ y ≤ x → sl_Go xs N 133 214 L st σ Q) := gk_ige rfl
theorem g133_214 {x : sl_R} {a1 a2 : Option sl_V} : sl_Go xs N 133 214 [some (.inr (.inr x)), a1, a2] st σ Q ↔ sl_Go xs N 133 215 [some (.inr (.inr x)), a1, a2] (.inr (.inr x) :: st) σ Q := gk_aload rfl rfl
theorem g133_215 {L : sl_L} {i t : Nat} : sl_Go xs N 133 215 L (.inr (.inr (40, i, t)) :: st) σ Q ↔ sl_Go xs N 133 218 L (.inr (.inr (61, 0, 0)) :: st) σ Q := gk_get (g := .inr (61, 0, 0)) rfl rfl rfl
theorem g133_218 {x : Int32} {a0 a2 : Option sl_V} : sl_Go xs N 133 218 [a0, some (.inl x), a2] st σ Q ↔ sl_Go xs N 133 219 [a0, some (.inl x), a2] (.inl x :: st) σ Q := gk_iload rfl rfl
theorem g133_219 {L : sl_L} : sl_Go xs N 133 219 L st σ Q ↔ sl_Go xs N 133 222 L (.inl 140 :: st) σ Q := gk_const rfl
theorem g133_222 {L : sl_L} {x y : Int32} : sl_Go xs N 133 222 L (.inl y :: .inl x :: st) σ Q ↔ sl_Go xs N 133 223 L (.inl (x + y) :: st) σ Q := gk_bin (b := 8) rfl
theorem g133_223 {x : Int32} {a0 a1 : Option sl_V} : sl_Go xs N 133 223 [a0, a1, some (.inl x)] st σ Q ↔ sl_Go xs N 133 224 [a0, a1, some (.inl x)] (.inl x :: st) σ Q := gk_iload rfl rfl
theorem g133_224 {L : sl_L} {x y : Int32} : sl_Go xs N 133 224 L (.inl y :: .inl x :: st) σ Q ↔ sl_Go xs N 133 225 L (.inl (x + y) :: st) σ Q := gk_bin (b := 8) rfl
theorem g133_225 {x : sl_R} {a1 a2 : Option sl_V} : sl_Go xs N 133 225 [some (.inr (.inr x)), a1, a2] st σ Q ↔ sl_Go xs N 133 226 [some (.inr (.inr x)), a1, a2] (.inr (.inr x) :: st) σ Q := gk_aload rfl rfl
theorem g133_226 {L : sl_L} {i t : Nat} : sl_Go xs N 133 226 L (.inr (.inr (40, i, t)) :: st) σ Q ↔ sl_Go xs N 133 229 L (.inr (.inr (54, 0, 0)) :: st) σ Q := gk_get (g := .inr (54, 0, 0)) rfl rfl rfl
theorem g133_229 {x : Int32} {a0 a1 : Option sl_V} : sl_Go xs N 133 229 [a0, a1, some (.inl x)] st σ Q ↔ sl_Go xs N 133 230 [a0, a1, some (.inl x)] (.inl x :: st) σ Q := gk_iload rfl rfl
theorem g133_230 {L : sl_L} {j : Int32} {r : sl_R} : sl_Go xs N 133 230 L (.inl j :: .inr (.inr r) :: st) σ Q ↔ (0 ≤ j.toInt ∧ j.toInt < sl_ilen N r) ∧ sl_Go xs N 133 231 L (.inl (sl_rd xs σ r j.toNatClampNeg) :: st) σ Q := gk_iald rfl
theorem g133_231 {L : sl_L} {j x : Int32} {r : sl_R} : sl_Go xs N 133 231 L (.inl x :: .inl j :: .inr (.inr r) :: st) σ Q ↔ (0 ≤ j.toInt ∧ j.toInt < sl_wlen r 0) ∧ sl_Go xs N 133 232 L st (sl_wr σ r j.toNatClampNeg x) Q := gk_iast rfl
theorem g133_232 {x : sl_R} {a1 a2 : Option sl_V} : sl_Go xs N 133 232 [some (.inr (.inr x)), a1, a2] st σ Q ↔ sl_Go xs N 133 233 [some (.inr (.inr x)), a1, a2] (.inr (.inr x) :: st) σ Q := gk_aload rfl rfl
theorem g133_233 {L : sl_L} {i t : Nat} : sl_Go xs N 133 233 L (.inr (.inr (40, i, t)) :: st) σ Q ↔ sl_Go xs N 133 236 L (.inr (.inr (61, 0, 0)) :: st) σ Q := gk_get (g := .inr (61, 0, 0)) rfl rfl rfl
theorem g133_236 {x : Int32} {a0 a2 : Option sl_V} : sl_Go xs N 133 236 [a0, some (.inl x), a2] st σ Q ↔ sl_Go xs N 133 237 [a0, some (.inl x), a2] (.inl x :: st) σ Q := gk_iload rfl rfl
theorem g133_237 {L : sl_L} : sl_Go xs N 133 237 L st σ Q ↔ sl_Go xs N 133 240 L (.inl 146 :: st) σ Q := gk_const rfl
theorem g133_240 {L : sl_L} {x y : Int32} : sl_Go xs N 133 240 L (.inl y :: .inl x :: st) σ Q ↔ sl_Go xs N 133 241 L (.inl (x + y) :: st) σ Q := gk_bin (b := 8) rfl
theorem g133_241 {x : Int32} {a0 a1 : Option sl_V} : sl_Go xs N 133 241 [a0, a1, some (.inl x)] st σ Q ↔ sl_Go xs N 133 242 [a0, a1, some (.inl x)] (.inl x :: st) σ Q := gk_iload rfl rfl
theorem g133_242 {L : sl_L} {x y : Int32} : sl_Go xs N 133 242 L (.inl y :: .inl x :: st) σ Q ↔ sl_Go xs N 133 243 L (.inl (x + y) :: st) σ Q := gk_bin (b := 8) rfl
theorem g133_243 {x : sl_R} {a1 a2 : Option sl_V} : sl_Go xs N 133 243 [some (.inr (.inr x)), a1, a2] st σ Q ↔ sl_Go xs N 133 244 [some (.inr (.inr x)), a1, a2] (.inr (.inr x) :: st) σ Q := gk_aload rfl rfl
theorem g133_244 {L : sl_L} {i t : Nat} : sl_Go xs N 133 244 L (.inr (.inr (40, i, t)) :: st) σ Q ↔ sl_Go xs N 133 247 L (.inr (.inr (55, 0, 0)) :: st) σ Q := gk_get (g := .inr (55, 0, 0)) rfl rfl rfl
theorem g133_247 {x : Int32} {a0 a1 : Option sl_V} : sl_Go xs N 133 247 [a0, a1, some (.inl x)] st σ Q ↔ sl_Go xs N 133 248 [a0, a1, some (.inl x)] (.inl x :: st) σ Q := gk_iload rfl rfl
theorem g133_248 {L : sl_L} {j : Int32} {r : sl_R} : sl_Go xs N 133 248 L (.inl j :: .inr (.inr r) :: st) σ Q ↔ (0 ≤ j.toInt ∧ j.toInt < sl_ilen N r) ∧ sl_Go xs N 133 249 L (.inl (sl_rd xs σ r j.toNatClampNeg) :: st) σ Q := gk_iald rfl
theorem g133_249 {L : sl_L} {j x : Int32} {r : sl_R} : sl_Go xs N 133 249 L (.inl x :: .inl j :: .inr (.inr r) :: st) σ Q ↔ (0 ≤ j.toInt ∧ j.toInt < sl_wlen r 0) ∧ sl_Go xs N 133 250 L st (sl_wr σ r j.toNatClampNeg x) Q := gk_iast rfl
theorem g133_250 {x : sl_R} {a1 a2 : Option sl_V} : sl_Go xs N 133 250 [some (.inr (.inr x)), a1, a2] st σ Q ↔ sl_Go xs N 133 251 [some (.inr (.inr x)), a1, a2] (.inr (.inr x) :: st) σ Q := gk_aload rfl rfl
theorem g133_251 {L : sl_L} {i t : Nat} : sl_Go xs N 133 251 L (.inr (.inr (40, i, t)) :: st) σ Q ↔ sl_Go xs N 133 254 L (.inr (.inr (61, 0, 0)) :: st) σ Q := gk_get (g := .inr (61, 0, 0)) rfl rfl rfl
theorem g133_254 {x : Int32} {a0 a2 : Option sl_V} : sl_Go xs N 133 254 [a0, some (.inl x), a2] st σ Q ↔ sl_Go xs N 133 255 [a0, some (.inl x), a2] (.inl x :: st) σ Q := gk_iload rfl rfl
theorem g133_255 {L : sl_L} : sl_Go xs N 133 255 L st σ Q ↔ sl_Go xs N 133 258 L (.inl 152 :: st) σ Q := gk_const rfl
theorem g133_258 {L : sl_L} {x y : Int32} : sl_Go xs N 133 258 L (.inl y :: .inl x :: st) σ Q ↔ sl_Go xs N 133 259 L (.inl (x + y) :: st) σ Q := gk_bin (b := 8) rfl
theorem g133_259 {x : Int32} {a0 a1 : Option sl_V} : sl_Go xs N 133 259 [a0, a1, some (.inl x)] st σ Q ↔ sl_Go xs N 133 260 [a0, a1, some (.inl x)] (.inl x :: st) σ Q := gk_iload rfl rfl
theorem g133_260 {L : sl_L} {x y : Int32} : sl_Go xs N 133 260 L (.inl y :: .inl x :: st) σ Q ↔ sl_Go xs N 133 261 L (.inl (x + y) :: st) σ Q := gk_bin (b := 8) rfl
theorem g133_261 {x : sl_R} {a1 a2 : Option sl_V} : sl_Go xs N 133 261 [some (.inr (.inr x)), a1, a2] st σ Q ↔ sl_Go xs N 133 262 [some (.inr (.inr x)), a1, a2] (.inr (.inr x) :: st) σ Q := gk_aload rfl rfl
theorem g133_262 {L : sl_L} {i t : Nat} : sl_Go xs N 133 262 L (.inr (.inr (40, i, t)) :: st) σ Q ↔ sl_Go xs N 133 265 L (.inr (.inr (56, 0, 0)) :: st) σ Q := gk_get (g := .inr (56, 0, 0)) rfl rfl rfl
theorem g133_265 {x : Int32} {a0 a1 : Option sl_V} : sl_Go xs N 133 265 [a0, a1, some (.inl x)] st σ Q ↔ sl_Go xs N 133 266 [a0, a1, some (.inl x)] (.inl x :: st) σ Q := gk_iload rfl rfl
theorem g133_266 {L : sl_L} {j : Int32} {r : sl_R} : sl_Go xs N 133 266 L (.inl j :: .inr (.inr r) :: st) σ Q ↔ (0 ≤ j.toInt ∧ j.toInt < sl_ilen N r) ∧ sl_Go xs N 133 267 L (.inl (sl_rd xs σ r j.toNatClampNeg) :: st) σ Q := gk_iald rfl
theorem g133_267 {L : sl_L} {j x : Int32} {r : sl_R} : sl_Go xs N 133 267 L (.inl x :: .inl j :: .inr (.inr r) :: st) σ Q ↔ (0 ≤ j.toInt ∧ j.toInt < sl_wlen r 0) ∧ sl_Go xs N 133 268 L st (sl_wr σ r j.toNatClampNeg x) Q := gk_iast rfl
theorem g133_268n {x : Int32} {a0 : Option sl_V} : sl_Go xs N 133 268 [a0, none, some (.inl x)] st σ Q ↔ sl_Go xs N 133 271 [a0, none, some (.inl (x + 1))] st σ Q := gk_iinc rfl rfl rfl rfl
theorem g133_268i {x : Int32} {z : Int32} {a0 : Option sl_V} : sl_Go xs N 133 268 [a0, some (.inl z), some (.inl x)] st σ Q ↔ sl_Go xs N 133 271 [a0, some (.inl z), some (.inl (x + 1))] st σ Q := gk_iinc rfl rfl rfl rfl
theorem g133_268r {x : Int32} {z : sl_R} {a0 : Option sl_V} : sl_Go xs N 133 268 [a0, some (.inr (.inr z)), some (.inl x)] st σ Q ↔ sl_Go xs N 133 271 [a0, some (.inr (.inr z)), some (.inl (x + 1))] st σ Q := gk_iinc rfl rfl rfl rfl
theorem g133_271 {L : sl_L} : sl_Go xs N 133 271 L st σ Q ↔ sl_Go xs N 133 208 L st σ Q := gk_goto rfl
theorem g133_274 {L : sl_L} : sl_Go xs N 133 274 L [] σ Q ↔ Q none σ := gk_vret rfl
theorem g134_0 {x : sl_R} {a1 a2 : Option sl_V} : sl_Go xs N 134 0 [some (.inr (.inr x)), a1, a2] st σ Q ↔ sl_Go xs N 134 1 [some (.inr (.inr x)), a1, a2] (.inr (.inr x) :: st) σ Q := gk_aload rfl rfl
theorem g134_1 {x : sl_R} {a1 a2 : Option sl_V} : sl_Go xs N 134 1 [some (.inr (.inr x)), a1, a2] st σ Q ↔ sl_Go xs N 134 2 [some (.inr (.inr x)), a1, a2] (.inr (.inr x) :: st) σ Q := gk_aload rfl rfl
theorem g134_2 {L : sl_L} {i t : Nat} : sl_Go xs N 134 2 L (.inr (.inr (40, i, t)) :: st) σ Q ↔ sl_Go xs N 134 5 L (.inr (.inr (61, 0, 0)) :: st) σ Q := gk_get (g := .inr (61, 0, 0)) rfl rfl rfl
theorem g134_5 {x : Int32} {a0 a2 : Option sl_V} : sl_Go xs N 134 5 [a0, some (.inl x), a2] st σ Q ↔ sl_Go xs N 134 6 [a0, some (.inl x), a2] (.inl x :: st) σ Q := gk_iload rfl rfl
theorem g134_6 {L : sl_L} {j : Int32} {r : sl_R} : sl_Go xs N 134 6 L (.inl j :: .inr (.inr r) :: st) σ Q ↔ (0 ≤ j.toInt ∧ j.toInt < sl_ilen N r) ∧ sl_Go xs N 134 7 L (.inl (sl_rd xs σ r j.toNatClampNeg) :: st) σ Q := gk_iald rfl
theorem g134_7 {L : sl_L} {x : Int32} {i t : Nat} : sl_Go xs N 134 7 L (.inl x :: .inr (.inr (40, i, t)) :: st) σ Q ↔ sl_Go xs N 134 10 L st (sl_up σ 4 0 0 x) Q := gk_put0 (q := (4, 0, 0)) rfl rfl rfl
theorem g134_10 {x : sl_R} {a1 a2 : Option sl_V} : sl_Go xs N 134 10 [some (.inr (.inr x)), a1, a2] st σ Q ↔ sl_Go xs N 134 11 [some (.inr (.inr x)), a1, a2] (.inr (.inr x) :: st) σ Q := gk_aload rfl rfl
theorem g134_11 {x : sl_R} {a1 a2 : Option sl_V} : sl_Go xs N 134 11 [some (.inr (.inr x)), a1, a2] st σ Q ↔ sl_Go xs N 134 12 [some (.inr (.inr x)), a1, a2] (.inr (.inr x) :: st) σ Q := gk_aload rfl rfl
theorem g134_12 {L : sl_L} {i t : Nat} : sl_Go xs N 134 12 L (.inr (.inr (40, i, t)) :: st) σ Q ↔ sl_Go xs N 134 15 L (.inr (.inr (61, 0, 0)) :: st) σ Q := gk_get (g := .inr (61, 0, 0)) rfl rfl rfl
theorem g134_15 {x : Int32} {a0 a2 : Option sl_V} : sl_Go xs N 134 15 [a0, some (.inl x), a2] st σ Q ↔ sl_Go xs N 134 16 [a0, some (.inl x), a2] (.inl x :: st) σ Q := gk_iload rfl rfl
theorem g134_16 {L : sl_L} : sl_Go xs N 134 16 L st σ Q ↔ sl_Go xs N 134 17 L (.inl 1 :: st) σ Q := gk_const rfl
theorem g134_17 {L : sl_L} {x y : Int32} : sl_Go xs N 134 17 L (.inl y :: .inl x :: st) σ Q ↔ sl_Go xs N 134 18 L (.inl (x + y) :: st) σ Q := gk_bin (b := 8) rfl
theorem g134_18 {L : sl_L} {j : Int32} {r : sl_R} : sl_Go xs N 134 18 L (.inl j :: .inr (.inr r) :: st) σ Q ↔ (0 ≤ j.toInt ∧ j.toInt < sl_ilen N r) ∧ sl_Go xs N 134 19 L (.inl (sl_rd xs σ r j.toNatClampNeg) :: st) σ Q := gk_iald rfl
theorem g134_19 {L : sl_L} {x : Int32} {i t : Nat} : sl_Go xs N 134 19 L (.inl x :: .inr (.inr (40, i, t)) :: st) σ Q ↔ sl_Go xs N 134 22 L st (sl_up σ 4 0 1 x) Q := gk_put0 (q := (4, 0, 1)) rfl rfl rfl
theorem g134_22 {x : sl_R} {a1 a2 : Option sl_V} : sl_Go xs N 134 22 [some (.inr (.inr x)), a1, a2] st σ Q ↔ sl_Go xs N 134 23 [some (.inr (.inr x)), a1, a2] (.inr (.inr x) :: st) σ Q := gk_aload rfl rfl
theorem g134_23 {x : sl_R} {a1 a2 : Option sl_V} : sl_Go xs N 134 23 [some (.inr (.inr x)), a1, a2] st σ Q ↔ sl_Go xs N 134 24 [some (.inr (.inr x)), a1, a2] (.inr (.inr x) :: st) σ Q := gk_aload rfl rfl
theorem g134_24 {L : sl_L} {i t : Nat} : sl_Go xs N 134 24 L (.inr (.inr (40, i, t)) :: st) σ Q ↔ sl_Go xs N 134 27 L (.inr (.inr (61, 0, 0)) :: st) σ Q := gk_get (g := .inr (61, 0, 0)) rfl rfl rfl
theorem g134_27 {x : Int32} {a0 a2 : Option sl_V} : sl_Go xs N 134 27 [a0, some (.inl x), a2] st σ Q ↔ sl_Go xs N 134 28 [a0, some (.inl x), a2] (.inl x :: st) σ Q := gk_iload rfl rfl
theorem g134_28 {L : sl_L} : sl_Go xs N 134 28 L st σ Q ↔ sl_Go xs N 134 29 L (.inl 2 :: st) σ Q := gk_const rfl
theorem g134_29 {L : sl_L} {x y : Int32} : sl_Go xs N 134 29 L (.inl y :: .inl x :: st) σ Q ↔ sl_Go xs N 134 30 L (.inl (x + y) :: st) σ Q := gk_bin (b := 8) rfl
theorem g134_30 {L : sl_L} {j : Int32} {r : sl_R} : sl_Go xs N 134 30 L (.inl j :: .inr (.inr r) :: st) σ Q ↔ (0 ≤ j.toInt ∧ j.toInt < sl_ilen N r) ∧ sl_Go xs N 134 31 L (.inl (sl_rd xs σ r j.toNatClampNeg) :: st) σ Q := gk_iald rfl
theorem g134_31 {L : sl_L} {x : Int32} {i t : Nat} : sl_Go xs N 134 31 L (.inl x :: .inr (.inr (40, i, t)) :: st) σ Q ↔ sl_Go xs N 134 34 L st (sl_up σ 4 0 2 x) Q := gk_put0 (q := (4, 0, 2)) rfl rfl rfl
theorem g134_34 {x : sl_R} {a1 a2 : Option sl_V} : sl_Go xs N 134 34 [some (.inr (.inr x)), a1, a2] st σ Q ↔ sl_Go xs N 134 35 [some (.inr (.inr x)), a1, a2] (.inr (.inr x) :: st) σ Q := gk_aload rfl rfl
theorem g134_35 {x : sl_R} {a1 a2 : Option sl_V} : sl_Go xs N 134 35 [some (.inr (.inr x)), a1, a2] st σ Q ↔ sl_Go xs N 134 36 [some (.inr (.inr x)), a1, a2] (.inr (.inr x) :: st) σ Q := gk_aload rfl rfl
theorem g134_36 {L : sl_L} {i t : Nat} : sl_Go xs N 134 36 L (.inr (.inr (40, i, t)) :: st) σ Q ↔ sl_Go xs N 134 39 L (.inr (.inr (61, 0, 0)) :: st) σ Q := gk_get (g := .inr (61, 0, 0)) rfl rfl rfl
theorem g134_39 {x : Int32} {a0 a2 : Option sl_V} : sl_Go xs N 134 39 [a0, some (.inl x), a2] st σ Q ↔ sl_Go xs N 134 40 [a0, some (.inl x), a2] (.inl x :: st) σ Q := gk_iload rfl rfl
theorem g134_40 {L : sl_L} : sl_Go xs N 134 40 L st σ Q ↔ sl_Go xs N 134 41 L (.inl 3 :: st) σ Q := gk_const rfl
theorem g134_41 {L : sl_L} {x y : Int32} : sl_Go xs N 134 41 L (.inl y :: .inl x :: st) σ Q ↔ sl_Go xs N 134 42 L (.inl (x + y) :: st) σ Q := gk_bin (b := 8) rfl
theorem g134_42 {L : sl_L} {j : Int32} {r : sl_R} : sl_Go xs N 134 42 L (.inl j :: .inr (.inr r) :: st) σ Q ↔ (0 ≤ j.toInt ∧ j.toInt < sl_ilen N r) ∧ sl_Go xs N 134 43 L (.inl (sl_rd xs σ r j.toNatClampNeg) :: st) σ Q := gk_iald rfl
theorem g134_43 {L : sl_L} {x : Int32} {i t : Nat} : sl_Go xs N 134 43 L (.inl x :: .inr (.inr (40, i, t)) :: st) σ Q ↔ sl_Go xs N 134 46 L st (sl_up σ 4 9 0 x) Q := gk_put0 (q := (4, 9, 0)) rfl rfl rfl
theorem g134_46 {x : sl_R} {a1 a2 : Option sl_V} : sl_Go xs N 134 46 [some (.inr (.inr x)), a1, a2] st σ Q ↔ sl_Go xs N 134 47 [some (.inr (.inr x)), a1, a2] (.inr (.inr x) :: st) σ Q := gk_aload rfl rfl
theorem g134_47 {x : sl_R} {a1 a2 : Option sl_V} : sl_Go xs N 134 47 [some (.inr (.inr x)), a1, a2] st σ Q ↔ sl_Go xs N 134 48 [some (.inr (.inr x)), a1, a2] (.inr (.inr x) :: st) σ Q := gk_aload rfl rfl
theorem g134_48 {L : sl_L} {i t : Nat} : sl_Go xs N 134 48 L (.inr (.inr (40, i, t)) :: st) σ Q ↔ sl_Go xs N 134 51 L (.inr (.inr (61, 0, 0)) :: st) σ Q := gk_get (g := .inr (61, 0, 0)) rfl rfl rfl
theorem g134_51 {x : Int32} {a0 a2 : Option sl_V} : sl_Go xs N 134 51 [a0, some (.inl x), a2] st σ Q ↔ sl_Go xs N 134 52 [a0, some (.inl x), a2] (.inl x :: st) σ Q := gk_iload rfl rfl
theorem g134_52 {L : sl_L} : sl_Go xs N 134 52 L st σ Q ↔ sl_Go xs N 134 53 L (.inl 4 :: st) σ Q := gk_const rfl
theorem g134_53 {L : sl_L} {x y : Int32} : sl_Go xs N 134 53 L (.inl y :: .inl x :: st) σ Q ↔ sl_Go xs N 134 54 L (.inl (x + y) :: st) σ Q := gk_bin (b := 8) rfl
theorem g134_54 {L : sl_L} {j : Int32} {r : sl_R} : sl_Go xs N 134 54 L (.inl j :: .inr (.inr r) :: st) σ Q ↔ (0 ≤ j.toInt ∧ j.toInt < sl_ilen N r) ∧ sl_Go xs N 134 55 L (.inl (sl_rd xs σ r j.toNatClampNeg) :: st) σ Q := gk_iald rfl
theorem g134_55 {L : sl_L} {x : Int32} {i t : Nat} : sl_Go xs N 134 55 L (.inl x :: .inr (.inr (40, i, t)) :: st) σ Q ↔ sl_Go xs N 134 58 L st (sl_up σ 4 9 1 x) Q := gk_put0 (q := (4, 9, 1)) rfl rfl rfl
theorem g134_58 {x : sl_R} {a1 a2 : Option sl_V} : sl_Go xs N 134 58 [some (.inr (.inr x)), a1, a2] st σ Q ↔ sl_Go xs N 134 59 [some (.inr (.inr x)), a1, a2] (.inr (.inr x) :: st) σ Q := gk_aload rfl rfl
theorem g134_59 {x : sl_R} {a1 a2 : Option sl_V} : sl_Go xs N 134 59 [some (.inr (.inr x)), a1, a2] st σ Q ↔ sl_Go xs N 134 60 [some (.inr (.inr x)), a1, a2] (.inr (.inr x) :: st) σ Q := gk_aload rfl rfl
theorem g134_60 {L : sl_L} {i t : Nat} : sl_Go xs N 134 60 L (.inr (.inr (40, i, t)) :: st) σ Q ↔ sl_Go xs N 134 63 L (.inr (.inr (61, 0, 0)) :: st) σ Q := gk_get (g := .inr (61, 0, 0)) rfl rfl rfl
theorem g134_63 {x : Int32} {a0 a2 : Option sl_V} : sl_Go xs N 134 63 [a0, some (.inl x), a2] st σ Q ↔ sl_Go xs N 134 64 [a0, some (.inl x), a2] (.inl x :: st) σ Q := gk_iload rfl rfl
theorem g134_64 {L : sl_L} : sl_Go xs N 134 64 L st σ Q ↔ sl_Go xs N 134 65 L (.inl 5 :: st) σ Q := gk_const rfl
theorem g134_65 {L : sl_L} {x y : Int32} : sl_Go xs N 134 65 L (.inl y :: .inl x :: st) σ Q ↔ sl_Go xs N 134 66 L (.inl (x + y) :: st) σ Q := gk_bin (b := 8) rfl
theorem g134_66 {L : sl_L} {j : Int32} {r : sl_R} : sl_Go xs N 134 66 L (.inl j :: .inr (.inr r) :: st) σ Q ↔ (0 ≤ j.toInt ∧ j.toInt < sl_ilen N r) ∧ sl_Go xs N 134 67 L (.inl (sl_rd xs σ r j.toNatClampNeg) :: st) σ Q := gk_iald rfl
theorem g134_67 {L : sl_L} {x : Int32} {i t : Nat} : sl_Go xs N 134 67 L (.inl x :: .inr (.inr (40, i, t)) :: st) σ Q ↔ sl_Go xs N 134 70 L st (sl_up σ 4 0 5 x) Q := gk_put0 (q := (4, 0, 5)) rfl rfl rfl
theorem g134_70 {x : sl_R} {a1 a2 : Option sl_V} : sl_Go xs N 134 70 [some (.inr (.inr x)), a1, a2] st σ Q ↔ sl_Go xs N 134 71 [some (.inr (.inr x)), a1, a2] (.inr (.inr x) :: st) σ Q := gk_aload rfl rfl
theorem g134_71 {x : sl_R} {a1 a2 : Option sl_V} : sl_Go xs N 134 71 [some (.inr (.inr x)), a1, a2] st σ Q ↔ sl_Go xs N 134 72 [some (.inr (.inr x)), a1, a2] (.inr (.inr x) :: st) σ Q := gk_aload rfl rfl
theorem g134_72 {L : sl_L} {i t : Nat} : sl_Go xs N 134 72 L (.inr (.inr (40, i, t)) :: st) σ Q ↔ sl_Go xs N 134 75 L (.inr (.inr (61, 0, 0)) :: st) σ Q := gk_get (g := .inr (61, 0, 0)) rfl rfl rfl
theorem g134_75 {x : Int32} {a0 a2 : Option sl_V} : sl_Go xs N 134 75 [a0, some (.inl x), a2] st σ Q ↔ sl_Go xs N 134 76 [a0, some (.inl x), a2] (.inl x :: st) σ Q := gk_iload rfl rfl
theorem g134_76 {L : sl_L} : sl_Go xs N 134 76 L st σ Q ↔ sl_Go xs N 134 78 L (.inl 6 :: st) σ Q := gk_const rfl
theorem g134_78 {L : sl_L} {x y : Int32} : sl_Go xs N 134 78 L (.inl y :: .inl x :: st) σ Q ↔ sl_Go xs N 134 79 L (.inl (x + y) :: st) σ Q := gk_bin (b := 8) rfl
theorem g134_79 {L : sl_L} {j : Int32} {r : sl_R} : sl_Go xs N 134 79 L (.inl j :: .inr (.inr r) :: st) σ Q ↔ (0 ≤ j.toInt ∧ j.toInt < sl_ilen N r) ∧ sl_Go xs N 134 80 L (.inl (sl_rd xs σ r j.toNatClampNeg) :: st) σ Q := gk_iald rfl
theorem g134_80 {L : sl_L} {x : Int32} {i t : Nat} : sl_Go xs N 134 80 L (.inl x :: .inr (.inr (40, i, t)) :: st) σ Q ↔ sl_Go xs N 134 83 L st (sl_up σ 4 0 6 x) Q := gk_put0 (q := (4, 0, 6)) rfl rfl rfl
theorem g134_83 {x : sl_R} {a1 a2 : Option sl_V} : sl_Go xs N 134 83 [some (.inr (.inr x)), a1, a2] st σ Q ↔ sl_Go xs N 134 84 [some (.inr (.inr x)), a1, a2] (.inr (.inr x) :: st) σ Q := gk_aload rfl rfl
theorem g134_84 {x : sl_R} {a1 a2 : Option sl_V} : sl_Go xs N 134 84 [some (.inr (.inr x)), a1, a2] st σ Q ↔ sl_Go xs N 134 85 [some (.inr (.inr x)), a1, a2] (.inr (.inr x) :: st) σ Q := gk_aload rfl rfl
theorem g134_85 {L : sl_L} {i t : Nat} : sl_Go xs N 134 85 L (.inr (.inr (40, i, t)) :: st) σ Q ↔ sl_Go xs N 134 88 L (.inr (.inr (61, 0, 0)) :: st) σ Q := gk_get (g := .inr (61, 0, 0)) rfl rfl rfl
theorem g134_88 {x : Int32} {a0 a2 : Option sl_V} : sl_Go xs N 134 88 [a0, some (.inl x), a2] st σ Q ↔ sl_Go xs N 134 89 [a0, some (.inl x), a2] (.inl x :: st) σ Q := gk_iload rfl rfl
theorem g134_89 {L : sl_L} : sl_Go xs N 134 89 L st σ Q ↔ sl_Go xs N 134 91 L (.inl 7 :: st) σ Q := gk_const rfl
theorem g134_91 {L : sl_L} {x y : Int32} : sl_Go xs N 134 91 L (.inl y :: .inl x :: st) σ Q ↔ sl_Go xs N 134 92 L (.inl (x + y) :: st) σ Q := gk_bin (b := 8) rfl
theorem g134_92 {L : sl_L} {j : Int32} {r : sl_R} : sl_Go xs N 134 92 L (.inl j :: .inr (.inr r) :: st) σ Q ↔ (0 ≤ j.toInt ∧ j.toInt < sl_ilen N r) ∧ sl_Go xs N 134 93 L (.inl (sl_rd xs σ r j.toNatClampNeg) :: st) σ Q := gk_iald rfl
theorem g134_93 {L : sl_L} {x : Int32} {i t : Nat} : sl_Go xs N 134 93 L (.inl x :: .inr (.inr (40, i, t)) :: st) σ Q ↔ sl_Go xs N 134 96 L st (sl_up σ 4 0 7 x) Q := gk_put0 (q := (4, 0, 7)) rfl rfl rfl
theorem g134_96 {x : sl_R} {a1 a2 : Option sl_V} : sl_Go xs N 134 96 [some (.inr (.inr x)), a1, a2] st σ Q ↔ sl_Go xs N 134 97 [some (.inr (.inr x)), a1, a2] (.inr (.inr x) :: st) σ Q := gk_aload rfl rfl
theorem g134_97 {x : sl_R} {a1 a2 : Option sl_V} : sl_Go xs N 134 97 [some (.inr (.inr x)), a1, a2] st σ Q ↔ sl_Go xs N 134 98 [some (.inr (.inr x)), a1, a2] (.inr (.inr x) :: st) σ Q := gk_aload rfl rfl
theorem g134_98 {L : sl_L} {i t : Nat} : sl_Go xs N 134 98 L (.inr (.inr (40, i, t)) :: st) σ Q ↔ sl_Go xs N 134 101 L (.inr (.inr (61, 0, 0)) :: st) σ Q := gk_get (g := .inr (61, 0, 0)) rfl rfl rfl
theorem g134_101 {x : Int32} {a0 a2 : Option sl_V} : sl_Go xs N 134 101 [a0, some (.inl x), a2] st σ Q ↔ sl_Go xs N 134 102 [a0, some (.inl x), a2] (.inl x :: st) σ Q := gk_iload rfl rfl
theorem g134_102 {L : sl_L} : sl_Go xs N 134 102 L st σ Q ↔ sl_Go xs N 134 104 L (.inl 8 :: st) σ Q := gk_const rfl
theorem g134_104 {L : sl_L} {x y : Int32} : sl_Go xs N 134 104 L (.inl y :: .inl x :: st) σ Q ↔ sl_Go xs N 134 105 L (.inl (x + y) :: st) σ Q := gk_bin (b := 8) rfl
theorem g134_105 {L : sl_L} {j : Int32} {r : sl_R} : sl_Go xs N 134 105 L (.inl j :: .inr (.inr r) :: st) σ Q ↔ (0 ≤ j.toInt ∧ j.toInt < sl_ilen N r) ∧ sl_Go xs N 134 106 L (.inl (sl_rd xs σ r j.toNatClampNeg) :: st) σ Q := gk_iald rfl
theorem g134_106 {L : sl_L} {x : Int32} {i t : Nat} : sl_Go xs N 134 106 L (.inl x :: .inr (.inr (40, i, t)) :: st) σ Q ↔ sl_Go xs N 134 109 L st (sl_up σ 4 0 8 x) Q := gk_put0 (q := (4, 0, 8)) rfl rfl rfl
theorem g134_109 {L : sl_L} : sl_Go xs N 134 109 L st σ Q ↔ sl_Go xs N 134 110 L (.inl 0 :: st) σ Q := gk_const rfl
theorem g134_110n {x : Int32} {a0 a2 : Option sl_V} : sl_Go xs N 134 110 [a0, none, a2] (.inl x :: st) σ Q ↔ sl_Go xs N 134 111 [a0, none, some (.inl x)] st σ Q := gk_istore rfl ⟨Nat.le_of_ble_eq_true rfl, rfl⟩ rfl
theorem g134_110i {x : Int32} {z : Int32} {a0 a2 : Option sl_V} : sl_Go xs N 134 110 [a0, some (.inl z), a2] (.inl x :: st) σ Q ↔ sl_Go xs N 134 111 [a0, some (.inl z), some (.inl x)] st σ Q := gk_istore rfl ⟨Nat.le_of_ble_eq_true rfl, rfl⟩ rfl
theorem g134_110r {x : Int32} {z : sl_R} {a0 a2 : Option sl_V} : sl_Go xs N 134 110 [a0, some (.inr (.inr z)), a2] (.inl x :: st) σ Q ↔ sl_Go xs N 134 111 [a0, some (.inr (.inr z)), some (.inl x)] st σ Q := gk_istore rfl ⟨Nat.le_of_ble_eq_true rfl, rfl⟩ rfl
theorem g134_111 {x : Int32} {a0 a1 : Option sl_V} : sl_Go xs N 134 111 [a0, a1, some (.inl x)] st σ Q ↔ sl_Go xs N 134 112 [a0, a1, some (.inl x)] (.inl x :: st) σ Q := gk_iload rfl rfl
theorem g134_112 {L : sl_L} : sl_Go xs N 134 112 L st σ Q ↔ sl_Go xs N 134 114 L (.inl 60 :: st) σ Q := gk_const rfl
theorem g134_114 {L : sl_L} {x y : Int32} : sl_Go xs N 134 114 L (.inl y :: .inl x :: st) σ Q ↔ (y ≤ x → sl_Go xs N 134 157 L st σ Q) ∧ (¬ y ≤ x → sl_Go xs N 134 117 L st σ Q) := gk_ige rfl
theorem g134_117 {x : sl_R} {a1 a2 : Option sl_V} : sl_Go xs N 134 117 [some (.inr (.inr x)), a1, a2] st σ Q ↔ sl_Go xs N 134 118 [some (.inr (.inr x)), a1, a2] (.inr (.inr x) :: st) σ Q := gk_aload rfl rfl
theorem g134_118 {L : sl_L} {i t : Nat} : sl_Go xs N 134 118 L (.inr (.inr (40, i, t)) :: st) σ Q ↔ sl_Go xs N 134 121 L (.inr (.inr (47, 0, 0)) :: st) σ Q := gk_get (g := .inr (47, 0, 0)) rfl rfl rfl
theorem g134_121 {x : Int32} {a0 a1 : Option sl_V} : sl_Go xs N 134 121 [a0, a1, some (.inl x)] st σ Q ↔ sl_Go xs N 134 122 [a0, a1, some (.inl x)] (.inl x :: st) σ Q := gk_iload rfl rfl
theorem g134_122 {x : sl_R} {a1 a2 : Option sl_V} : sl_Go xs N 134 122 [some (.inr (.inr x)), a1, a2] st σ Q ↔ sl_Go xs N 134 123 [some (.inr (.inr x)), a1, a2] (.inr (.inr x) :: st) σ Q := gk_aload rfl rfl
theorem g134_123 {L : sl_L} {i t : Nat} : sl_Go xs N 134 123 L (.inr (.inr (40, i, t)) :: st) σ Q ↔ sl_Go xs N 134 126 L (.inr (.inr (61, 0, 0)) :: st) σ Q := gk_get (g := .inr (61, 0, 0)) rfl rfl rfl
theorem g134_126 {x : Int32} {a0 a2 : Option sl_V} : sl_Go xs N 134 126 [a0, some (.inl x), a2] st σ Q ↔ sl_Go xs N 134 127 [a0, some (.inl x), a2] (.inl x :: st) σ Q := gk_iload rfl rfl
theorem g134_127 {L : sl_L} : sl_Go xs N 134 127 L st σ Q ↔ sl_Go xs N 134 129 L (.inl 10 :: st) σ Q := gk_const rfl
theorem g134_129 {L : sl_L} {x y : Int32} : sl_Go xs N 134 129 L (.inl y :: .inl x :: st) σ Q ↔ sl_Go xs N 134 130 L (.inl (x + y) :: st) σ Q := gk_bin (b := 8) rfl
theorem g134_130 {x : Int32} {a0 a1 : Option sl_V} : sl_Go xs N 134 130 [a0, a1, some (.inl x)] st σ Q ↔ sl_Go xs N 134 131 [a0, a1, some (.inl x)] (.inl x :: st) σ Q := gk_iload rfl rfl
theorem g134_131 {L : sl_L} {x y : Int32} : sl_Go xs N 134 131 L (.inl y :: .inl x :: st) σ Q ↔ sl_Go xs N 134 132 L (.inl (x + y) :: st) σ Q := gk_bin (b := 8) rfl
theorem g134_132 {L : sl_L} {j : Int32} {r : sl_R} : sl_Go xs N 134 132 L (.inl j :: .inr (.inr r) :: st) σ Q ↔ (0 ≤ j.toInt ∧ j.toInt < sl_ilen N r) ∧ sl_Go xs N 134 133 L (.inl (sl_rd xs σ r j.toNatClampNeg) :: st) σ Q := gk_iald rfl
theorem g134_133 {L : sl_L} {j x : Int32} {r : sl_R} : sl_Go xs N 134 133 L (.inl x :: .inl j :: .inr (.inr r) :: st) σ Q ↔ (0 ≤ j.toInt ∧ j.toInt < sl_wlen r 0) ∧ sl_Go xs N 134 134 L st (sl_wr σ r j.toNatClampNeg x) Q := gk_iast rfl
theorem g134_134 {x : sl_R} {a1 a2 : Option sl_V} : sl_Go xs N 134 134 [some (.inr (.inr x)), a1, a2] st σ Q ↔ sl_Go xs N 134 135 [some (.inr (.inr x)), a1, a2] (.inr (.inr x) :: st) σ Q := gk_aload rfl rfl
theorem g134_135 {L : sl_L} {i t : Nat} : sl_Go xs N 134 135 L (.inr (.inr (40, i, t)) :: st) σ Q ↔ sl_Go xs N 134 138 L (.inr (.inr (48, 0, 0)) :: st) σ Q := gk_get (g := .inr (48, 0, 0)) rfl rfl rfl
theorem g134_138 {x : Int32} {a0 a1 : Option sl_V} : sl_Go xs N 134 138 [a0, a1, some (.inl x)] st σ Q ↔ sl_Go xs N 134 139 [a0, a1, some (.inl x)] (.inl x :: st) σ Q := gk_iload rfl rfl
theorem g134_139 {x : sl_R} {a1 a2 : Option sl_V} : sl_Go xs N 134 139 [some (.inr (.inr x)), a1, a2] st σ Q ↔ sl_Go xs N 134 140 [some (.inr (.inr x)), a1, a2] (.inr (.inr x) :: st) σ Q := gk_aload rfl rfl
theorem g134_140 {L : sl_L} {i t : Nat} : sl_Go xs N 134 140 L (.inr (.inr (40, i, t)) :: st) σ Q ↔ sl_Go xs N 134 143 L (.inr (.inr (61, 0, 0)) :: st) σ Q := gk_get (g := .inr (61, 0, 0)) rfl rfl rfl
theorem g134_143 {x : Int32} {a0 a2 : Option sl_V} : sl_Go xs N 134 143 [a0, some (.inl x), a2] st σ Q ↔ sl_Go xs N 134 144 [a0, some (.inl x), a2] (.inl x :: st) σ Q := gk_iload rfl rfl
theorem g134_144 {L : sl_L} : sl_Go xs N 134 144 L st σ Q ↔ sl_Go xs N 134 146 L (.inl 70 :: st) σ Q := gk_const rfl
theorem g134_146 {L : sl_L} {x y : Int32} : sl_Go xs N 134 146 L (.inl y :: .inl x :: st) σ Q ↔ sl_Go xs N 134 147 L (.inl (x + y) :: st) σ Q := gk_bin (b := 8) rfl
theorem g134_147 {x : Int32} {a0 a1 : Option sl_V} : sl_Go xs N 134 147 [a0, a1, some (.inl x)] st σ Q ↔ sl_Go xs N 134 148 [a0, a1, some (.inl x)] (.inl x :: st) σ Q := gk_iload rfl rfl
theorem g134_148 {L : sl_L} {x y : Int32} : sl_Go xs N 134 148 L (.inl y :: .inl x :: st) σ Q ↔ sl_Go xs N 134 149 L (.inl (x + y) :: st) σ Q := gk_bin (b := 8) rfl
theorem g134_149 {L : sl_L} {j : Int32} {r : sl_R} : sl_Go xs N 134 149 L (.inl j :: .inr (.inr r) :: st) σ Q ↔ (0 ≤ j.toInt ∧ j.toInt < sl_ilen N r) ∧ sl_Go xs N 134 150 L (.inl (sl_rd xs σ r j.toNatClampNeg) :: st) σ Q := gk_iald rfl
theorem g134_150 {L : sl_L} {j x : Int32} {r : sl_R} : sl_Go xs N 134 150 L (.inl x :: .inl j :: .inr (.inr r) :: st) σ Q ↔ (0 ≤ j.toInt ∧ j.toInt < sl_wlen r 0) ∧ sl_Go xs N 134 151 L st (sl_wr σ r j.toNatClampNeg x) Q := gk_iast rfl
theorem g134_151n {x : Int32} {a0 : Option sl_V} : sl_Go xs N 134 151 [a0, none, some (.inl x)] st σ Q ↔ sl_Go xs N 134 154 [a0, none, some (.inl (x + 1))] st σ Q := gk_iinc rfl rfl rfl rfl
theorem g134_151i {x : Int32} {z : Int32} {a0 : Option sl_V} : sl_Go xs N 134 151 [a0, some (.inl z), some (.inl x)] st σ Q ↔ sl_Go xs N 134 154 [a0, some (.inl z), some (.inl (x + 1))] st σ Q := gk_iinc rfl rfl rfl rfl
theorem g134_151r {x : Int32} {z : sl_R} {a0 : Option sl_V} : sl_Go xs N 134 151 [a0, some (.inr (.inr z)), some (.inl x)] st σ Q ↔ sl_Go xs N 134 154 [a0, some (.inr (.inr z)), some (.inl (x + 1))] st σ Q := gk_iinc rfl rfl rfl rfl
theorem g134_154 {L : sl_L} : sl_Go xs N 134 154 L st σ Q ↔ sl_Go xs N 134 111 L st σ Q := gk_goto rfl
theorem g134_157 {L : sl_L} : sl_Go xs N 134 157 L st σ Q ↔ sl_Go xs N 134 158 L (.inl 0 :: st) σ Q := gk_const rfl
theorem g134_158n {x : Int32} {a0 a2 : Option sl_V} : sl_Go xs N 134 158 [a0, none, a2] (.inl x :: st) σ Q ↔ sl_Go xs N 134 159 [a0, none, some (.inl x)] st σ Q := gk_istore rfl ⟨Nat.le_of_ble_eq_true rfl, rfl⟩ rfl
theorem g134_158i {x : Int32} {z : Int32} {a0 a2 : Option sl_V} : sl_Go xs N 134 158 [a0, some (.inl z), a2] (.inl x :: st) σ Q ↔ sl_Go xs N 134 159 [a0, some (.inl z), some (.inl x)] st σ Q := gk_istore rfl ⟨Nat.le_of_ble_eq_true rfl, rfl⟩ rfl
theorem g134_158r {x : Int32} {z : sl_R} {a0 a2 : Option sl_V} : sl_Go xs N 134 158 [a0, some (.inr (.inr z)), a2] (.inl x :: st) σ Q ↔ sl_Go xs N 134 159 [a0, some (.inr (.inr z)), some (.inl x)] st σ Q := gk_istore rfl ⟨Nat.le_of_ble_eq_true rfl, rfl⟩ rfl
theorem g134_159 {x : Int32} {a0 a1 : Option sl_V} : sl_Go xs N 134 159 [a0, a1, some (.inl x)] st σ Q ↔ sl_Go xs N 134 160 [a0, a1, some (.inl x)] (.inl x :: st) σ Q := gk_iload rfl rfl
theorem g134_160 {L : sl_L} : sl_Go xs N 134 160 L st σ Q ↔ sl_Go xs N 134 161 L (.inl 5 :: st) σ Q := gk_const rfl
theorem g134_161 {L : sl_L} {x y : Int32} : sl_Go xs N 134 161 L (.inl y :: .inl x :: st) σ Q ↔ (y ≤ x → sl_Go xs N 134 206 L st σ Q) ∧ (¬ y ≤ x → sl_Go xs N 134 164 L st σ Q) := gk_ige rfl
theorem g134_164 {x : sl_R} {a1 a2 : Option sl_V} : sl_Go xs N 134 164 [some (.inr (.inr x)), a1, a2] st σ Q ↔ sl_Go xs N 134 165 [some (.inr (.inr x)), a1, a2] (.inr (.inr x) :: st) σ Q := gk_aload rfl rfl
theorem g134_165 {L : sl_L} {i t : Nat} : sl_Go xs N 134 165 L (.inr (.inr (40, i, t)) :: st) σ Q ↔ sl_Go xs N 134 168 L (.inr (.inr (45, 0, 0)) :: st) σ Q := gk_get (g := .inr (45, 0, 0)) rfl rfl rfl
theorem g134_168 {x : Int32} {a0 a1 : Option sl_V} : sl_Go xs N 134 168 [a0, a1, some (.inl x)] st σ Q ↔ sl_Go xs N 134 169 [a0, a1, some (.inl x)] (.inl x :: st) σ Q := gk_iload rfl rfl
theorem g134_169 {x : sl_R} {a1 a2 : Option sl_V} : sl_Go xs N 134 169 [some (.inr (.inr x)), a1, a2] st σ Q ↔ sl_Go xs N 134 170 [some (.inr (.inr x)), a1, a2] (.inr (.inr x) :: st) σ Q := gk_aload rfl rfl
theorem g134_170 {L : sl_L} {i t : Nat} : sl_Go xs N 134 170 L (.inr (.inr (40, i, t)) :: st) σ Q ↔ sl_Go xs N 134 173 L (.inr (.inr (61, 0, 0)) :: st) σ Q := gk_get (g := .inr (61, 0, 0)) rfl rfl rfl
theorem g134_173 {x : Int32} {a0 a2 : Option sl_V} : sl_Go xs N 134 173 [a0, some (.inl x), a2] st σ Q ↔ sl_Go xs N 134 174 [a0, some (.inl x), a2] (.inl x :: st) σ Q := gk_iload rfl rfl
theorem g134_174 {L : sl_L} : sl_Go xs N 134 174 L st σ Q ↔ sl_Go xs N 134 177 L (.inl 130 :: st) σ Q := gk_const rfl
theorem g134_177 {L : sl_L} {x y : Int32} : sl_Go xs N 134 177 L (.inl y :: .inl x :: st) σ Q ↔ sl_Go xs N 134 178 L (.inl (x + y) :: st) σ Q := gk_bin (b := 8) rfl
theorem g134_178 {x : Int32} {a0 a1 : Option sl_V} : sl_Go xs N 134 178 [a0, a1, some (.inl x)] st σ Q ↔ sl_Go xs N 134 179 [a0, a1, some (.inl x)] (.inl x :: st) σ Q := gk_iload rfl rfl
theorem g134_179 {L : sl_L} {x y : Int32} : sl_Go xs N 134 179 L (.inl y :: .inl x :: st) σ Q ↔ sl_Go xs N 134 180 L (.inl (x + y) :: st) σ Q := gk_bin (b := 8) rfl
theorem g134_180 {L : sl_L} {j : Int32} {r : sl_R} : sl_Go xs N 134 180 L (.inl j :: .inr (.inr r) :: st) σ Q ↔ (0 ≤ j.toInt ∧ j.toInt < sl_ilen N r) ∧ sl_Go xs N 134 181 L (.inl (sl_rd xs σ r j.toNatClampNeg) :: st) σ Q := gk_iald rfl
theorem g134_181 {L : sl_L} {j x : Int32} {r : sl_R} : sl_Go xs N 134 181 L (.inl x :: .inl j :: .inr (.inr r) :: st) σ Q ↔ (0 ≤ j.toInt ∧ j.toInt < sl_wlen r 0) ∧ sl_Go xs N 134 182 L st (sl_wr σ r j.toNatClampNeg x) Q := gk_iast rfl
theorem g134_182 {x : sl_R} {a1 a2 : Option sl_V} : sl_Go xs N 134 182 [some (.inr (.inr x)), a1, a2] st σ Q ↔ sl_Go xs N 134 183 [some (.inr (.inr x)), a1, a2] (.inr (.inr x) :: st) σ Q := gk_aload rfl rfl
theorem g134_183 {L : sl_L} {i t : Nat} : sl_Go xs N 134 183 L (.inr (.inr (40, i, t)) :: st) σ Q ↔ sl_Go xs N 134 186 L (.inr (.inr (46, 0, 0)) :: st) σ Q := gk_get (g := .inr (46, 0, 0)) rfl rfl rfl
theorem g134_186 {x : Int32} {a0 a1 : Option sl_V} : sl_Go xs N 134 186 [a0, a1, some (.inl x)] st σ Q ↔ sl_Go xs N 134 187 [a0, a1, some (.inl x)] (.inl x :: st) σ Q := gk_iload rfl rfl
theorem g134_187 {x : sl_R} {a1 a2 : Option sl_V} : sl_Go xs N 134 187 [some (.inr (.inr x)), a1, a2] st σ Q ↔ sl_Go xs N 134 188 [some (.inr (.inr x)), a1, a2] (.inr (.inr x) :: st) σ Q := gk_aload rfl rfl
theorem g134_188 {L : sl_L} {i t : Nat} : sl_Go xs N 134 188 L (.inr (.inr (40, i, t)) :: st) σ Q ↔ sl_Go xs N 134 191 L (.inr (.inr (61, 0, 0)) :: st) σ Q := gk_get (g := .inr (61, 0, 0)) rfl rfl rfl
theorem g134_191 {x : Int32} {a0 a2 : Option sl_V} : sl_Go xs N 134 191 [a0, some (.inl x), a2] st σ Q ↔ sl_Go xs N 134 192 [a0, some (.inl x), a2] (.inl x :: st) σ Q := gk_iload rfl rfl
theorem g134_192 {L : sl_L} : sl_Go xs N 134 192 L st σ Q ↔ sl_Go xs N 134 195 L (.inl 135 :: st) σ Q := gk_const rfl
theorem g134_195 {L : sl_L} {x y : Int32} : sl_Go xs N 134 195 L (.inl y :: .inl x :: st) σ Q ↔ sl_Go xs N 134 196 L (.inl (x + y) :: st) σ Q := gk_bin (b := 8) rfl
theorem g134_196 {x : Int32} {a0 a1 : Option sl_V} : sl_Go xs N 134 196 [a0, a1, some (.inl x)] st σ Q ↔ sl_Go xs N 134 197 [a0, a1, some (.inl x)] (.inl x :: st) σ Q := gk_iload rfl rfl
theorem g134_197 {L : sl_L} {x y : Int32} : sl_Go xs N 134 197 L (.inl y :: .inl x :: st) σ Q ↔ sl_Go xs N 134 198 L (.inl (x + y) :: st) σ Q := gk_bin (b := 8) rfl
theorem g134_198 {L : sl_L} {j : Int32} {r : sl_R} : sl_Go xs N 134 198 L (.inl j :: .inr (.inr r) :: st) σ Q ↔ (0 ≤ j.toInt ∧ j.toInt < sl_ilen N r) ∧ sl_Go xs N 134 199 L (.inl (sl_rd xs σ r j.toNatClampNeg) :: st) σ Q := gk_iald rfl
theorem g134_199 {L : sl_L} {j x : Int32} {r : sl_R} : sl_Go xs N 134 199 L (.inl x :: .inl j :: .inr (.inr r) :: st) σ Q ↔ (0 ≤ j.toInt ∧ j.toInt < sl_wlen r 0) ∧ sl_Go xs N 134 200 L st (sl_wr σ r j.toNatClampNeg x) Q := gk_iast rfl
theorem g134_200n {x : Int32} {a0 : Option sl_V} : sl_Go xs N 134 200 [a0, none, some (.inl x)] st σ Q ↔ sl_Go xs N 134 203 [a0, none, some (.inl (x + 1))] st σ Q := gk_iinc rfl rfl rfl rfl
theorem g134_200i {x : Int32} {z : Int32} {a0 : Option sl_V} : sl_Go xs N 134 200 [a0, some (.inl z), some (.inl x)] st σ Q ↔ sl_Go xs N 134 203 [a0, some (.inl z), some (.inl (x + 1))] st σ Q := gk_iinc rfl rfl rfl rfl
theorem g134_200r {x : Int32} {z : sl_R} {a0 : Option sl_V} : sl_Go xs N 134 200 [a0, some (.inr (.inr z)), some (.inl x)] st σ Q ↔ sl_Go xs N 134 203 [a0, some (.inr (.inr z)), some (.inl (x + 1))] st σ Q := gk_iinc rfl rfl rfl rfl
theorem g134_203 {L : sl_L} : sl_Go xs N 134 203 L st σ Q ↔ sl_Go xs N 134 159 L st σ Q := gk_goto rfl
theorem g134_206 {L : sl_L} : sl_Go xs N 134 206 L st σ Q ↔ sl_Go xs N 134 207 L (.inl 0 :: st) σ Q := gk_const rfl
theorem g134_207n {x : Int32} {a0 a2 : Option sl_V} : sl_Go xs N 134 207 [a0, none, a2] (.inl x :: st) σ Q ↔ sl_Go xs N 134 208 [a0, none, some (.inl x)] st σ Q := gk_istore rfl ⟨Nat.le_of_ble_eq_true rfl, rfl⟩ rfl
theorem g134_207i {x : Int32} {z : Int32} {a0 a2 : Option sl_V} : sl_Go xs N 134 207 [a0, some (.inl z), a2] (.inl x :: st) σ Q ↔ sl_Go xs N 134 208 [a0, some (.inl z), some (.inl x)] st σ Q := gk_istore rfl ⟨Nat.le_of_ble_eq_true rfl, rfl⟩ rfl
theorem g134_207r {x : Int32} {z : sl_R} {a0 a2 : Option sl_V} : sl_Go xs N 134 207 [a0, some (.inr (.inr z)), a2] (.inl x :: st) σ Q ↔ sl_Go xs N 134 208 [a0, some (.inr (.inr z)), some (.inl x)] st σ Q := gk_istore rfl ⟨Nat.le_of_ble_eq_true rfl, rfl⟩ rfl
theorem g134_208 {x : Int32} {a0 a1 : Option sl_V} : sl_Go xs N 134 208 [a0, a1, some (.inl x)] st σ Q ↔ sl_Go xs N 134 209 [a0, a1, some (.inl x)] (.inl x :: st) σ Q := gk_iload rfl rfl
theorem g134_209 {L : sl_L} : sl_Go xs N 134 209 L st σ Q ↔ sl_Go xs N 134 211 L (.inl 6 :: st) σ Q := gk_const rfl
theorem g134_211 {L : sl_L} {x y : Int32} : sl_Go xs N 134 211 L (.inl y :: .inl x :: st) σ Q ↔ (y ≤ x → sl_Go xs N 134 274 L st σ Q) ∧ (¬ y ≤ x → sl_Go xs N 134 214 L st σ Q) := gk_ige rfl
theorem g134_214 {x : sl_R} {a1 a2 : Option sl_V} : sl_Go xs N 134 214 [some (.inr (.inr x)), a1, a2] st σ Q ↔ sl_Go xs N 134 215 [some (.inr (.inr x)), a1, a2] (.inr (.inr x) :: st) σ Q := gk_aload rfl rfl
theorem g134_215 {L : sl_L} {i t : Nat} : sl_Go xs N 134 215 L (.inr (.inr (40, i, t)) :: st) σ Q ↔ sl_Go xs N 134 218 L (.inr (.inr (54, 0, 0)) :: st) σ Q := gk_get (g := .inr (54, 0, 0)) rfl rfl rfl
theorem g134_218 {x : Int32} {a0 a1 : Option sl_V} : sl_Go xs N 134 218 [a0, a1, some (.inl x)] st σ Q ↔ sl_Go xs N 134 219 [a0, a1, some (.inl x)] (.inl x :: st) σ Q := gk_iload rfl rfl
theorem g134_219 {x : sl_R} {a1 a2 : Option sl_V} : sl_Go xs N 134 219 [some (.inr (.inr x)), a1, a2] st σ Q ↔ sl_Go xs N 134 220 [some (.inr (.inr x)), a1, a2] (.inr (.inr x) :: st) σ Q := gk_aload rfl rfl
theorem g134_220 {L : sl_L} {i t : Nat} : sl_Go xs N 134 220 L (.inr (.inr (40, i, t)) :: st) σ Q ↔ sl_Go xs N 134 223 L (.inr (.inr (61, 0, 0)) :: st) σ Q := gk_get (g := .inr (61, 0, 0)) rfl rfl rfl
theorem g134_223 {x : Int32} {a0 a2 : Option sl_V} : sl_Go xs N 134 223 [a0, some (.inl x), a2] st σ Q ↔ sl_Go xs N 134 224 [a0, some (.inl x), a2] (.inl x :: st) σ Q := gk_iload rfl rfl
theorem g134_224 {L : sl_L} : sl_Go xs N 134 224 L st σ Q ↔ sl_Go xs N 134 227 L (.inl 140 :: st) σ Q := gk_const rfl
theorem g134_227 {L : sl_L} {x y : Int32} : sl_Go xs N 134 227 L (.inl y :: .inl x :: st) σ Q ↔ sl_Go xs N 134 228 L (.inl (x + y) :: st) σ Q := gk_bin (b := 8) rfl
theorem g134_228 {x : Int32} {a0 a1 : Option sl_V} : sl_Go xs N 134 228 [a0, a1, some (.inl x)] st σ Q ↔ sl_Go xs N 134 229 [a0, a1, some (.inl x)] (.inl x :: st) σ Q := gk_iload rfl rfl
theorem g134_229 {L : sl_L} {x y : Int32} : sl_Go xs N 134 229 L (.inl y :: .inl x :: st) σ Q ↔ sl_Go xs N 134 230 L (.inl (x + y) :: st) σ Q := gk_bin (b := 8) rfl
theorem g134_230 {L : sl_L} {j : Int32} {r : sl_R} : sl_Go xs N 134 230 L (.inl j :: .inr (.inr r) :: st) σ Q ↔ (0 ≤ j.toInt ∧ j.toInt < sl_ilen N r) ∧ sl_Go xs N 134 231 L (.inl (sl_rd xs σ r j.toNatClampNeg) :: st) σ Q := gk_iald rfl
theorem g134_231 {L : sl_L} {j x : Int32} {r : sl_R} : sl_Go xs N 134 231 L (.inl x :: .inl j :: .inr (.inr r) :: st) σ Q ↔ (0 ≤ j.toInt ∧ j.toInt < sl_wlen r 0) ∧ sl_Go xs N 134 232 L st (sl_wr σ r j.toNatClampNeg x) Q := gk_iast rfl
theorem g134_232 {x : sl_R} {a1 a2 : Option sl_V} : sl_Go xs N 134 232 [some (.inr (.inr x)), a1, a2] st σ Q ↔ sl_Go xs N 134 233 [some (.inr (.inr x)), a1, a2] (.inr (.inr x) :: st) σ Q := gk_aload rfl rfl
theorem g134_233 {L : sl_L} {i t : Nat} : sl_Go xs N 134 233 L (.inr (.inr (40, i, t)) :: st) σ Q ↔ sl_Go xs N 134 236 L (.inr (.inr (55, 0, 0)) :: st) σ Q := gk_get (g := .inr (55, 0, 0)) rfl rfl rfl
theorem g134_236 {x : Int32} {a0 a1 : Option sl_V} : sl_Go xs N 134 236 [a0, a1, some (.inl x)] st σ Q ↔ sl_Go xs N 134 237 [a0, a1, some (.inl x)] (.inl x :: st) σ Q := gk_iload rfl rfl
theorem g134_237 {x : sl_R} {a1 a2 : Option sl_V} : sl_Go xs N 134 237 [some (.inr (.inr x)), a1, a2] st σ Q ↔ sl_Go xs N 134 238 [some (.inr (.inr x)), a1, a2] (.inr (.inr x) :: st) σ Q := gk_aload rfl rfl
theorem g134_238 {L : sl_L} {i t : Nat} : sl_Go xs N 134 238 L (.inr (.inr (40, i, t)) :: st) σ Q ↔ sl_Go xs N 134 241 L (.inr (.inr (61, 0, 0)) :: st) σ Q := gk_get (g := .inr (61, 0, 0)) rfl rfl rfl
theorem g134_241 {x : Int32} {a0 a2 : Option sl_V} : sl_Go xs N 134 241 [a0, some (.inl x), a2] st σ Q ↔ sl_Go xs N 134 242 [a0, some (.inl x), a2] (.inl x :: st) σ Q := gk_iload rfl rfl
theorem g134_242 {L : sl_L} : sl_Go xs N 134 242 L st σ Q ↔ sl_Go xs N 134 245 L (.inl 146 :: st) σ Q := gk_const rfl
theorem g134_245 {L : sl_L} {x y : Int32} : sl_Go xs N 134 245 L (.inl y :: .inl x :: st) σ Q ↔ sl_Go xs N 134 246 L (.inl (x + y) :: st) σ Q := gk_bin (b := 8) rfl
theorem g134_246 {x : Int32} {a0 a1 : Option sl_V} : sl_Go xs N 134 246 [a0, a1, some (.inl x)] st σ Q ↔ sl_Go xs N 134 247 [a0, a1, some (.inl x)] (.inl x :: st) σ Q := gk_iload rfl rfl
theorem g134_247 {L : sl_L} {x y : Int32} : sl_Go xs N 134 247 L (.inl y :: .inl x :: st) σ Q ↔ sl_Go xs N 134 248 L (.inl (x + y) :: st) σ Q := gk_bin (b := 8) rfl
theorem g134_248 {L : sl_L} {j : Int32} {r : sl_R} : sl_Go xs N 134 248 L (.inl j :: .inr (.inr r) :: st) σ Q ↔ (0 ≤ j.toInt ∧ j.toInt < sl_ilen N r) ∧ sl_Go xs N 134 249 L (.inl (sl_rd xs σ r j.toNatClampNeg) :: st) σ Q := gk_iald rfl
theorem g134_249 {L : sl_L} {j x : Int32} {r : sl_R} : sl_Go xs N 134 249 L (.inl x :: .inl j :: .inr (.inr r) :: st) σ Q ↔ (0 ≤ j.toInt ∧ j.toInt < sl_wlen r 0) ∧ sl_Go xs N 134 250 L st (sl_wr σ r j.toNatClampNeg x) Q := gk_iast rfl
theorem g134_250 {x : sl_R} {a1 a2 : Option sl_V} : sl_Go xs N 134 250 [some (.inr (.inr x)), a1, a2] st σ Q ↔ sl_Go xs N 134 251 [some (.inr (.inr x)), a1, a2] (.inr (.inr x) :: st) σ Q := gk_aload rfl rfl
theorem g134_251 {L : sl_L} {i t : Nat} : sl_Go xs N 134 251 L (.inr (.inr (40, i, t)) :: st) σ Q ↔ sl_Go xs N 134 254 L (.inr (.inr (56, 0, 0)) :: st) σ Q := gk_get (g := .inr (56, 0, 0)) rfl rfl rfl
theorem g134_254 {x : Int32} {a0 a1 : Option sl_V} : sl_Go xs N 134 254 [a0, a1, some (.inl x)] st σ Q ↔ sl_Go xs N 134 255 [a0, a1, some (.inl x)] (.inl x :: st) σ Q := gk_iload rfl rfl
theorem g134_255 {x : sl_R} {a1 a2 : Option sl_V} : sl_Go xs N 134 255 [some (.inr (.inr x)), a1, a2] st σ Q ↔ sl_Go xs N 134 256 [some (.inr (.inr x)), a1, a2] (.inr (.inr x) :: st) σ Q := gk_aload rfl rfl
theorem g134_256 {L : sl_L} {i t : Nat} : sl_Go xs N 134 256 L (.inr (.inr (40, i, t)) :: st) σ Q ↔ sl_Go xs N 134 259 L (.inr (.inr (61, 0, 0)) :: st) σ Q := gk_get (g := .inr (61, 0, 0)) rfl rfl rfl
theorem g134_259 {x : Int32} {a0 a2 : Option sl_V} : sl_Go xs N 134 259 [a0, some (.inl x), a2] st σ Q ↔ sl_Go xs N 134 260 [a0, some (.inl x), a2] (.inl x :: st) σ Q := gk_iload rfl rfl
theorem g134_260 {L : sl_L} : sl_Go xs N 134 260 L st σ Q ↔ sl_Go xs N 134 263 L (.inl 152 :: st) σ Q := gk_const rfl
theorem g134_263 {L : sl_L} {x y : Int32} : sl_Go xs N 134 263 L (.inl y :: .inl x :: st) σ Q ↔ sl_Go xs N 134 264 L (.inl (x + y) :: st) σ Q := gk_bin (b := 8) rfl
theorem g134_264 {x : Int32} {a0 a1 : Option sl_V} : sl_Go xs N 134 264 [a0, a1, some (.inl x)] st σ Q ↔ sl_Go xs N 134 265 [a0, a1, some (.inl x)] (.inl x :: st) σ Q := gk_iload rfl rfl
theorem g134_265 {L : sl_L} {x y : Int32} : sl_Go xs N 134 265 L (.inl y :: .inl x :: st) σ Q ↔ sl_Go xs N 134 266 L (.inl (x + y) :: st) σ Q := gk_bin (b := 8) rfl
theorem g134_266 {L : sl_L} {j : Int32} {r : sl_R} : sl_Go xs N 134 266 L (.inl j :: .inr (.inr r) :: st) σ Q ↔ (0 ≤ j.toInt ∧ j.toInt < sl_ilen N r) ∧ sl_Go xs N 134 267 L (.inl (sl_rd xs σ r j.toNatClampNeg) :: st) σ Q := gk_iald rfl
theorem g134_267 {L : sl_L} {j x : Int32} {r : sl_R} : sl_Go xs N 134 267 L (.inl x :: .inl j :: .inr (.inr r) :: st) σ Q ↔ (0 ≤ j.toInt ∧ j.toInt < sl_wlen r 0) ∧ sl_Go xs N 134 268 L st (sl_wr σ r j.toNatClampNeg x) Q := gk_iast rfl
theorem g134_268n {x : Int32} {a0 : Option sl_V} : sl_Go xs N 134 268 [a0, none, some (.inl x)] st σ Q ↔ sl_Go xs N 134 271 [a0, none, some (.inl (x + 1))] st σ Q := gk_iinc rfl rfl rfl rfl
theorem g134_268i {x : Int32} {z : Int32} {a0 : Option sl_V} : sl_Go xs N 134 268 [a0, some (.inl z), some (.inl x)] st σ Q ↔ sl_Go xs N 134 271 [a0, some (.inl z), some (.inl (x + 1))] st σ Q := gk_iinc rfl rfl rfl rfl
theorem g134_268r {x : Int32} {z : sl_R} {a0 : Option sl_V} : sl_Go xs N 134 268 [a0, some (.inr (.inr z)), some (.inl x)] st σ Q ↔ sl_Go xs N 134 271 [a0, some (.inr (.inr z)), some (.inl (x + 1))] st σ Q := gk_iinc rfl rfl rfl rfl
theorem g134_271 {L : sl_L} : sl_Go xs N 134 271 L st σ Q ↔ sl_Go xs N 134 208 L st σ Q := gk_goto rfl
theorem g134_274 {L : sl_L} : sl_Go xs N 134 274 L [] σ Q ↔ Q none σ := gk_vret rfl
theorem g135_0 {x : Int32} {a0 a2 a3 a4 : Option sl_V} : sl_Go xs N 135 0 [a0, some (.inl x), a2, a3, a4] st σ Q ↔ sl_Go xs N 135 1 [a0, some (.inl x), a2, a3, a4] (.inl x :: st) σ Q := gk_iload rfl rfl
theorem g135_1 {L : sl_L} {x : Int32} : sl_Go xs N 135 1 L (.inl x :: st) σ Q ↔ (x < 0 → sl_Go xs N 135 9 L st σ Q) ∧ (¬ x < 0 → sl_Go xs N 135 4 L st σ Q) := gk_zlt rfl
theorem g135_4 {x : sl_R} {a1 a2 a3 a4 : Option sl_V} : sl_Go xs N 135 4 [some (.inr (.inr x)), a1, a2, a3, a4] st σ Q ↔ sl_Go xs N 135 5 [some (.inr (.inr x)), a1, a2, a3, a4] (.inr (.inr x) :: st) σ Q := gk_aload rfl rfl
theorem g135_5 {x : Int32} {a0 a2 a3 a4 : Option sl_V} : sl_Go xs N 135 5 [a0, some (.inl x), a2, a3, a4] st σ Q ↔ sl_Go xs N 135 6 [a0, some (.inl x), a2, a3, a4] (.inl x :: st) σ Q := gk_iload rfl rfl
theorem g135_6 {L : sl_L} {o : sl_R} {x0 : Int32} : sl_Go xs N 135 6 L (.inl x0 :: .inr (.inr o) :: st) σ Q ↔ sl_cw st ≤ 8 ∧ sl_Go xs N 124 0 [some (.inr (.inr o)), some (.inl x0)] [] σ (fun r τ => sl_Go xs N 135 9 L (r.toList ++ st) τ Q) := gk_call rfl (Nat.le_add_left 2 st.length) rfl rfl rfl
theorem g135_9 {L : sl_L} : sl_Go xs N 135 9 L st σ Q ↔ sl_Go xs N 135 10 L (.inl 0 :: st) σ Q := gk_const rfl
theorem g135_10n {x : Int32} {a0 a1 a3 a4 : Option sl_V} : sl_Go xs N 135 10 [a0, a1, none, a3, a4] (.inl x :: st) σ Q ↔ sl_Go xs N 135 11 [a0, a1, none, some (.inl x), a4] st σ Q := gk_istore rfl ⟨Nat.le_of_ble_eq_true rfl, rfl⟩ rfl
theorem g135_10i {x : Int32} {z : Int32} {a0 a1 a3 a4 : Option sl_V} : sl_Go xs N 135 10 [a0, a1, some (.inl z), a3, a4] (.inl x :: st) σ Q ↔ sl_Go xs N 135 11 [a0, a1, some (.inl z), some (.inl x), a4] st σ Q := gk_istore rfl ⟨Nat.le_of_ble_eq_true rfl, rfl⟩ rfl
theorem g135_10r {x : Int32} {z : sl_R} {a0 a1 a3 a4 : Option sl_V} : sl_Go xs N 135 10 [a0, a1, some (.inr (.inr z)), a3, a4] (.inl x :: st) σ Q ↔ sl_Go xs N 135 11 [a0, a1, some (.inr (.inr z)), some (.inl x), a4] st σ Q := gk_istore rfl ⟨Nat.le_of_ble_eq_true rfl, rfl⟩ rfl
theorem g135_11 {L : sl_L} : sl_Go xs N 135 11 L st σ Q ↔ sl_Go xs N 135 12 L (.inl 0 :: st) σ Q := gk_const rfl
theorem g135_12n {x : Int32} {a0 a1 a2 a4 : Option sl_V} : sl_Go xs N 135 12 [a0, a1, a2, none, a4] (.inl x :: st) σ Q ↔ sl_Go xs N 135 14 [a0, a1, a2, none, some (.inl x)] st σ Q := gk_istore rfl ⟨Nat.le_of_ble_eq_true rfl, rfl⟩ rfl
theorem g135_12i {x : Int32} {z : Int32} {a0 a1 a2 a4 : Option sl_V} : sl_Go xs N 135 12 [a0, a1, a2, some (.inl z), a4] (.inl x :: st) σ Q ↔ sl_Go xs N 135 14 [a0, a1, a2, some (.inl z), some (.inl x)] st σ Q := gk_istore rfl ⟨Nat.le_of_ble_eq_true rfl, rfl⟩ rfl
theorem g135_12r {x : Int32} {z : sl_R} {a0 a1 a2 a4 : Option sl_V} : sl_Go xs N 135 12 [a0, a1, a2, some (.inr (.inr z)), a4] (.inl x :: st) σ Q ↔ sl_Go xs N 135 14 [a0, a1, a2, some (.inr (.inr z)), some (.inl x)] st σ Q := gk_istore rfl ⟨Nat.le_of_ble_eq_true rfl, rfl⟩ rfl
theorem g135_14 {x : Int32} {a0 a1 a2 a3 : Option sl_V} : sl_Go xs N 135 14 [a0, a1, a2, a3, some (.inl x)] st σ Q ↔ sl_Go xs N 135 16 [a0, a1, a2, a3, some (.inl x)] (.inl x :: st) σ Q := gk_iload rfl rfl
theorem g135_16 {x : Int32} {a0 a1 a3 a4 : Option sl_V} : sl_Go xs N 135 16 [a0, a1, some (.inl x), a3, a4] st σ Q ↔ sl_Go xs N 135 17 [a0, a1, some (.inl x), a3, a4] (.inl x :: st) σ Q := gk_iload rfl rfl
theorem g135_17 {L : sl_L} {x y : Int32} : sl_Go xs N 135 17 L (.inl y :: .inl x :: st) σ Q ↔ (y ≤ x → sl_Go xs N 135 55 L st σ Q) ∧ (¬ y ≤ x → sl_Go xs N 135 20 L st σ Q) := gk_ige rfl
theorem g135_20 {x : sl_R} {a1 a2 a3 a4 : Option sl_V} : sl_Go xs N 135 20 [some (.inr (.inr x)), a1, a2, a3, a4] st σ Q ↔ sl_Go xs N 135 21 [some (.inr (.inr x)), a1, a2, a3, a4] (.inr (.inr x) :: st) σ Q := gk_aload rfl rfl
theorem g135_21 {L : sl_L} {o : sl_R} : sl_Go xs N 135 21 L (.inr (.inr o) :: st) σ Q ↔ sl_cw st ≤ 8 ∧ sl_Go xs N 111 0 [some (.inr (.inr o)), none, none, none] [] σ (fun r τ => sl_Go xs N 135 24 L (r.toList ++ st) τ Q) := gk_call rfl (Nat.le_add_left 1 st.length) rfl rfl rfl
theorem g135_24 {x : sl_R} {a1 a2 a3 a4 : Option sl_V} : sl_Go xs N 135 24 [some (.inr (.inr x)), a1, a2, a3, a4] st σ Q ↔ sl_Go xs N 135 25 [some (.inr (.inr x)), a1, a2, a3, a4] (.inr (.inr x) :: st) σ Q := gk_aload rfl rfl
theorem g135_25 {x : sl_R} {a1 a2 a3 a4 : Option sl_V} : sl_Go xs N 135 25 [some (.inr (.inr x)), a1, a2, a3, a4] st σ Q ↔ sl_Go xs N 135 26 [some (.inr (.inr x)), a1, a2, a3, a4] (.inr (.inr x) :: st) σ Q := gk_aload rfl rfl
theorem g135_26 {L : sl_L} {o : sl_R} : sl_Go xs N 135 26 L (.inr (.inr o) :: st) σ Q ↔ sl_cw st ≤ 8 ∧ sl_Go xs N 108 0 [some (.inr (.inr o))] [] σ (fun r τ => sl_Go xs N 135 29 L (r.toList ++ st) τ Q) := gk_call rfl (Nat.le_add_left 1 st.length) rfl rfl rfl
theorem g135_29 {L : sl_L} {o : sl_R} {x0 : Int32} : sl_Go xs N 135 29 L (.inl x0 :: .inr (.inr o) :: st) σ Q ↔ sl_cw st ≤ 8 ∧ sl_Go xs N 92 0 [some (.inr (.inr o)), some (.inl x0)] [] σ (fun r τ => sl_Go xs N 135 32 L (r.toList ++ st) τ Q) := gk_call rfl (Nat.le_add_left 2 st.length) rfl rfl rfl
theorem g135_32 {x : Int32} {a0 a1 a2 a4 : Option sl_V} : sl_Go xs N 135 32 [a0, a1, a2, some (.inl x), a4] st σ Q ↔ sl_Go xs N 135 33 [a0, a1, a2, some (.inl x), a4] (.inl x :: st) σ Q := gk_iload rfl rfl
theorem g135_33 {L : sl_L} {x y : Int32} : sl_Go xs N 135 33 L (.inl y :: .inl x :: st) σ Q ↔ (x ≤ y → sl_Go xs N 135 47 L st σ Q) ∧ (¬ x ≤ y → sl_Go xs N 135 36 L st σ Q) := gk_ile rfl
theorem g135_36 {x : sl_R} {a1 a2 a3 a4 : Option sl_V} : sl_Go xs N 135 36 [some (.inr (.inr x)), a1, a2, a3, a4] st σ Q ↔ sl_Go xs N 135 37 [some (.inr (.inr x)), a1, a2, a3, a4] (.inr (.inr x) :: st) σ Q := gk_aload rfl rfl
theorem g135_37 {x : sl_R} {a1 a2 a3 a4 : Option sl_V} : sl_Go xs N 135 37 [some (.inr (.inr x)), a1, a2, a3, a4] st σ Q ↔ sl_Go xs N 135 38 [some (.inr (.inr x)), a1, a2, a3, a4] (.inr (.inr x) :: st) σ Q := gk_aload rfl rfl
theorem g135_38 {L : sl_L} {o : sl_R} : sl_Go xs N 135 38 L (.inr (.inr o) :: st) σ Q ↔ sl_cw st ≤ 8 ∧ sl_Go xs N 108 0 [some (.inr (.inr o))] [] σ (fun r τ => sl_Go xs N 135 41 L (r.toList ++ st) τ Q) := gk_call rfl (Nat.le_add_left 1 st.length) rfl rfl rfl
theorem g135_41 {L : sl_L} {o : sl_R} {x0 : Int32} : sl_Go xs N 135 41 L (.inl x0 :: .inr (.inr o) :: st) σ Q ↔ sl_cw st ≤ 8 ∧ sl_Go xs N 92 0 [some (.inr (.inr o)), some (.inl x0)] [] σ (fun r τ => sl_Go xs N 135 44 L (r.toList ++ st) τ Q) := gk_call rfl (Nat.le_add_left 2 st.length) rfl rfl rfl
theorem g135_44 {L : sl_L} : sl_Go xs N 135 44 L st σ Q ↔ sl_Go xs N 135 48 L st σ Q := gk_goto rfl
theorem g135_47 {x : Int32} {a0 a1 a2 a4 : Option sl_V} : sl_Go xs N 135 47 [a0, a1, a2, some (.inl x), a4] st σ Q ↔ sl_Go xs N 135 48 [a0, a1, a2, some (.inl x), a4] (.inl x :: st) σ Q := gk_iload rfl rfl
theorem g135_48n {x : Int32} {a0 a1 a3 a4 : Option sl_V} : sl_Go xs N 135 48 [a0, a1, none, a3, a4] (.inl x :: st) σ Q ↔ sl_Go xs N 135 49 [a0, a1, none, some (.inl x), a4] st σ Q := gk_istore rfl ⟨Nat.le_of_ble_eq_true rfl, rfl⟩ rfl
theorem g135_48i {x : Int32} {z : Int32} {a0 a1 a3 a4 : Option sl_V} : sl_Go xs N 135 48 [a0, a1, some (.inl z), a3, a4] (.inl x :: st) σ Q ↔ sl_Go xs N 135 49 [a0, a1, some (.inl z), some (.inl x), a4] st σ Q := gk_istore rfl ⟨Nat.le_of_ble_eq_true rfl, rfl⟩ rfl
theorem g135_48r {x : Int32} {z : sl_R} {a0 a1 a3 a4 : Option sl_V} : sl_Go xs N 135 48 [a0, a1, some (.inr (.inr z)), a3, a4] (.inl x :: st) σ Q ↔ sl_Go xs N 135 49 [a0, a1, some (.inr (.inr z)), some (.inl x), a4] st σ Q := gk_istore rfl ⟨Nat.le_of_ble_eq_true rfl, rfl⟩ rfl
theorem g135_49n {x : Int32} {a0 a1 a2 : Option sl_V} : sl_Go xs N 135 49 [a0, a1, a2, none, some (.inl x)] st σ Q ↔ sl_Go xs N 135 52 [a0, a1, a2, none, some (.inl (x + 1))] st σ Q := gk_iinc rfl rfl rfl rfl
theorem g135_49i {x : Int32} {z : Int32} {a0 a1 a2 : Option sl_V} : sl_Go xs N 135 49 [a0, a1, a2, some (.inl z), some (.inl x)] st σ Q ↔ sl_Go xs N 135 52 [a0, a1, a2, some (.inl z), some (.inl (x + 1))] st σ Q := gk_iinc rfl rfl rfl rfl
theorem g135_49r {x : Int32} {z : sl_R} {a0 a1 a2 : Option sl_V} : sl_Go xs N 135 49 [a0, a1, a2, some (.inr (.inr z)), some (.inl x)] st σ Q ↔ sl_Go xs N 135 52 [a0, a1, a2, some (.inr (.inr z)), some (.inl (x + 1))] st σ Q := gk_iinc rfl rfl rfl rfl
theorem g135_52 {L : sl_L} : sl_Go xs N 135 52 L st σ Q ↔ sl_Go xs N 135 14 L st σ Q := gk_goto rfl
theorem g135_55 {x : Int32} {a0 a1 a2 a4 : Option sl_V} : sl_Go xs N 135 55 [a0, a1, a2, some (.inl x), a4] st σ Q ↔ sl_Go xs N 135 56 [a0, a1, a2, some (.inl x), a4] (.inl x :: st) σ Q := gk_iload rfl rfl
theorem g135_56 {L : sl_L} {x : Int32} : sl_Go xs N 135 56 L [.inl x] σ Q ↔ Q (some (.inl x)) σ := gk_iret rfl
theorem g136_0 {x : Int32} {a0 : Option sl_V} : sl_Go xs N 136 0 [a0, some (.inl x)] st σ Q ↔ sl_Go xs N 136 1 [a0, some (.inl x)] (.inl x :: st) σ Q := gk_iload rfl rfl
theorem g136_1 {L : sl_L} : sl_Go xs N 136 1 L st σ Q ↔ sl_Go xs N 136 2 L (.inl (-1) :: st) σ Q := gk_const rfl
theorem g136_2 {L : sl_L} {x y : Int32} : sl_Go xs N 136 2 L (.inl y :: .inl x :: st) σ Q ↔ (x = y → sl_Go xs N 136 13 L st σ Q) ∧ (¬ x = y → sl_Go xs N 136 5 L st σ Q) := gk_ieq rfl
theorem g136_5 {x : sl_R} {a1 : Option sl_V} : sl_Go xs N 136 5 [some (.inr (.inr x)), a1] st σ Q ↔ sl_Go xs N 136 6 [some (.inr (.inr x)), a1] (.inr (.inr x) :: st) σ Q := gk_aload rfl rfl
theorem g136_6 {x : Int32} {a0 : Option sl_V} : sl_Go xs N 136 6 [a0, some (.inl x)] st σ Q ↔ sl_Go xs N 136 7 [a0, some (.inl x)] (.inl x :: st) σ Q := gk_iload rfl rfl
theorem g136_7 {L : sl_L} {o : sl_R} {x0 : Int32} : sl_Go xs N 136 7 L (.inl x0 :: .inr (.inr o) :: st) σ Q ↔ sl_cw st ≤ 8 ∧ sl_Go xs N 122 0 [some (.inr (.inr o)), some (.inl x0)] [] σ (fun r τ => sl_Go xs N 136 10 L (r.toList ++ st) τ Q) := gk_call rfl (Nat.le_add_left 2 st.length) rfl rfl rfl
theorem g136_10 {L : sl_L} {x : Int32} : sl_Go xs N 136 10 L (.inl x :: st) σ Q ↔ (x = 0 → sl_Go xs N 136 17 L st σ Q) ∧ (¬ x = 0 → sl_Go xs N 136 13 L st σ Q) := gk_zeq rfl
theorem g136_13 {L : sl_L} : sl_Go xs N 136 13 L st σ Q ↔ sl_Go xs N 136 14 L (.inl 1 :: st) σ Q := gk_const rfl
theorem g136_14 {L : sl_L} : sl_Go xs N 136 14 L st σ Q ↔ sl_Go xs N 136 18 L st σ Q := gk_goto rfl
theorem g136_17 {L : sl_L} : sl_Go xs N 136 17 L st σ Q ↔ sl_Go xs N 136 18 L (.inl 0 :: st) σ Q := gk_const rfl
theorem g136_18 {L : sl_L} {x : Int32} : sl_Go xs N 136 18 L [.inl x] σ Q ↔ (x = 0 ∨ x = 1) ∧ Q (some (.inl x)) σ := gk_zret rfl
theorem g137_0 {x : sl_R} {a1 a2 a3 a4 a5 a6 a7 : Option sl_V} : sl_Go xs N 137 0 [some (.inr (.inr x)), a1, a2, a3, a4, a5, a6, a7] st σ Q ↔ sl_Go xs N 137 1 [some (.inr (.inr x)), a1, a2, a3, a4, a5, a6, a7] (.inr (.inr x) :: st) σ Q := gk_aload rfl rfl
theorem g137_1 {x : Int32} {a0 a2 a3 a4 a5 a6 a7 : Option sl_V} : sl_Go xs N 137 1 [a0, some (.inl x), a2, a3, a4, a5, a6, a7] st σ Q ↔ sl_Go xs N 137 2 [a0, some (.inl x), a2, a3, a4, a5, a6, a7] (.inl x :: st) σ Q := gk_iload rfl rfl
theorem g137_2 {L : sl_L} {o : sl_R} {x0 : Int32} : sl_Go xs N 137 2 L (.inl x0 :: .inr (.inr o) :: st) σ Q ↔ sl_cw st ≤ 8 ∧ sl_Go xs N 136 0 [some (.inr (.inr o)), some (.inl x0)] [] σ (fun r τ => sl_Go xs N 137 5 L (r.toList ++ st) τ Q) := gk_call rfl (Nat.le_add_left 2 st.length) rfl rfl rfl
theorem g137_5 {L : sl_L} {x : Int32} : sl_Go xs N 137 5 L (.inl x :: st) σ Q ↔ (¬ x = 0 → sl_Go xs N 137 10 L st σ Q) ∧ (x = 0 → sl_Go xs N 137 8 L st σ Q) := gk_zne rfl
theorem g137_8 {L : sl_L} : sl_Go xs N 137 8 L st σ Q ↔ sl_Go xs N 137 9 L (.inl (-1) :: st) σ Q := gk_const rfl
theorem g137_9 {L : sl_L} {x : Int32} : sl_Go xs N 137 9 L [.inl x] σ Q ↔ Q (some (.inl x)) σ := gk_iret rfl
theorem g137_10 {x : sl_R} {a1 a2 a3 a4 a5 a6 a7 : Option sl_V} : sl_Go xs N 137 10 [some (.inr (.inr x)), a1, a2, a3, a4, a5, a6, a7] st σ Q ↔ sl_Go xs N 137 11 [some (.inr (.inr x)), a1, a2, a3, a4, a5, a6, a7] (.inr (.inr x) :: st) σ Q := gk_aload rfl rfl
theorem g137_11 {x : Int32} {a0 a1 a3 a4 a5 a6 a7 : Option sl_V} : sl_Go xs N 137 11 [a0, a1, some (.inl x), a3, a4, a5, a6, a7] st σ Q ↔ sl_Go xs N 137 12 [a0, a1, some (.inl x), a3, a4, a5, a6, a7] (.inl x :: st) σ Q := gk_iload rfl rfl
theorem g137_12 {L : sl_L} : sl_Go xs N 137 12 L st σ Q ↔ sl_Go xs N 137 13 L (.inl 1 :: st) σ Q := gk_const rfl
theorem g137_13 {L : sl_L} : sl_Go xs N 137 13 L st σ Q ↔ sl_Go xs N 137 16 L (.inl 200 :: st) σ Q := gk_const rfl
theorem g137_16 {L : sl_L} {o : sl_R} {x0 : Int32} {x1 : Int32} {x2 : Int32} : sl_Go xs N 137 16 L (.inl x2 :: .inl x1 :: .inl x0 :: .inr (.inr o) :: st) σ Q ↔ sl_cw st ≤ 8 ∧ sl_Go xs N 91 0 [some (.inr (.inr o)), some (.inl x0), some (.inl x1), some (.inl x2)] [] σ (fun r τ => sl_Go xs N 137 19 L (r.toList ++ st) τ Q) := gk_call rfl (Nat.le_add_left 4 st.length) rfl rfl rfl
theorem g137_19 {L : sl_L} {x : Int32} : sl_Go xs N 137 19 L (.inl x :: st) σ Q ↔ (x = 0 → sl_Go xs N 137 32 L st σ Q) ∧ (¬ x = 0 → sl_Go xs N 137 22 L st σ Q) := gk_zeq rfl
theorem g137_22 {x : sl_R} {a1 a2 a3 a4 a5 a6 a7 : Option sl_V} : sl_Go xs N 137 22 [some (.inr (.inr x)), a1, a2, a3, a4, a5, a6, a7] st σ Q ↔ sl_Go xs N 137 23 [some (.inr (.inr x)), a1, a2, a3, a4, a5, a6, a7] (.inr (.inr x) :: st) σ Q := gk_aload rfl rfl
theorem g137_23 {x : Int32} {a0 a1 a2 a4 a5 a6 a7 : Option sl_V} : sl_Go xs N 137 23 [a0, a1, a2, some (.inl x), a4, a5, a6, a7] st σ Q ↔ sl_Go xs N 137 24 [a0, a1, a2, some (.inl x), a4, a5, a6, a7] (.inl x :: st) σ Q := gk_iload rfl rfl
theorem g137_24 {L : sl_L} : sl_Go xs N 137 24 L st σ Q ↔ sl_Go xs N 137 25 L (.inl 0 :: st) σ Q := gk_const rfl
theorem g137_25 {L : sl_L} : sl_Go xs N 137 25 L st σ Q ↔ sl_Go xs N 137 26 L (.inl 4 :: st) σ Q := gk_const rfl
theorem g137_26 {L : sl_L} {o : sl_R} {x0 : Int32} {x1 : Int32} {x2 : Int32} : sl_Go xs N 137 26 L (.inl x2 :: .inl x1 :: .inl x0 :: .inr (.inr o) :: st) σ Q ↔ sl_cw st ≤ 8 ∧ sl_Go xs N 91 0 [some (.inr (.inr o)), some (.inl x0), some (.inl x1), some (.inl x2)] [] σ (fun r τ => sl_Go xs N 137 29 L (r.toList ++ st) τ Q) := gk_call rfl (Nat.le_add_left 4 st.length) rfl rfl rfl
theorem g137_29 {L : sl_L} {x : Int32} : sl_Go xs N 137 29 L (.inl x :: st) σ Q ↔ (¬ x = 0 → sl_Go xs N 137 35 L st σ Q) ∧ (x = 0 → sl_Go xs N 137 32 L st σ Q) := gk_zne rfl
theorem g137_32 {L : sl_L} : sl_Go xs N 137 32 L st σ Q ↔ sl_Go xs N 137 34 L (.inl (-2) :: st) σ Q := gk_const rfl
theorem g137_34 {L : sl_L} {x : Int32} : sl_Go xs N 137 34 L [.inl x] σ Q ↔ Q (some (.inl x)) σ := gk_iret rfl
theorem g137_35 {x : sl_R} {a1 a2 a3 a4 a5 a6 a7 : Option sl_V} : sl_Go xs N 137 35 [some (.inr (.inr x)), a1, a2, a3, a4, a5, a6, a7] st σ Q ↔ sl_Go xs N 137 36 [some (.inr (.inr x)), a1, a2, a3, a4, a5, a6, a7] (.inr (.inr x) :: st) σ Q := gk_aload rfl rfl
theorem g137_36 {L : sl_L} : sl_Go xs N 137 36 L st σ Q ↔ sl_Go xs N 137 37 L (.inl 0 :: st) σ Q := gk_const rfl
theorem g137_37 {L : sl_L} {o : sl_R} {x0 : Int32} : sl_Go xs N 137 37 L (.inl x0 :: .inr (.inr o) :: st) σ Q ↔ sl_cw st ≤ 8 ∧ sl_Go xs N 133 0 [some (.inr (.inr o)), some (.inl x0), none] [] σ (fun r τ => sl_Go xs N 137 40 L (r.toList ++ st) τ Q) := gk_call rfl (Nat.le_add_left 2 st.length) rfl rfl rfl
theorem g137_40 {x : sl_R} {a1 a2 a3 a4 a5 a6 a7 : Option sl_V} : sl_Go xs N 137 40 [some (.inr (.inr x)), a1, a2, a3, a4, a5, a6, a7] st σ Q ↔ sl_Go xs N 137 41 [some (.inr (.inr x)), a1, a2, a3, a4, a5, a6, a7] (.inr (.inr x) :: st) σ Q := gk_aload rfl rfl
theorem g137_41 {x : Int32} {a0 a2 a3 a4 a5 a6 a7 : Option sl_V} : sl_Go xs N 137 41 [a0, some (.inl x), a2, a3, a4, a5, a6, a7] st σ Q ↔ sl_Go xs N 137 42 [a0, some (.inl x), a2, a3, a4, a5, a6, a7] (.inl x :: st) σ Q := gk_iload rfl rfl
theorem g137_42 {x : Int32} {a0 a1 a3 a4 a5 a6 a7 : Option sl_V} : sl_Go xs N 137 42 [a0, a1, some (.inl x), a3, a4, a5, a6, a7] st σ Q ↔ sl_Go xs N 137 43 [a0, a1, some (.inl x), a3, a4, a5, a6, a7] (.inl x :: st) σ Q := gk_iload rfl rfl
theorem g137_43 {L : sl_L} {o : sl_R} {x0 : Int32} {x1 : Int32} : sl_Go xs N 137 43 L (.inl x1 :: .inl x0 :: .inr (.inr o) :: st) σ Q ↔ sl_cw st ≤ 8 ∧ sl_Go xs N 135 0 [some (.inr (.inr o)), some (.inl x0), some (.inl x1), none, none] [] σ (fun r τ => sl_Go xs N 137 46 L (r.toList ++ st) τ Q) := gk_call rfl (Nat.le_add_left 3 st.length) rfl rfl rfl
theorem g137_46n {x : Int32} {a0 a1 a2 a4 a5 a6 a7 : Option sl_V} : sl_Go xs N 137 46 [a0, a1, a2, none, a4, a5, a6, a7] (.inl x :: st) σ Q ↔ sl_Go xs N 137 48 [a0, a1, a2, none, some (.inl x), a5, a6, a7] st σ Q := gk_istore rfl ⟨Nat.le_of_ble_eq_true rfl, rfl⟩ rfl
theorem g137_46i {x : Int32} {z : Int32} {a0 a1 a2 a4 a5 a6 a7 : Option sl_V} : sl_Go xs N 137 46 [a0, a1, a2, some (.inl z), a4, a5, a6, a7] (.inl x :: st) σ Q ↔ sl_Go xs N 137 48 [a0, a1, a2, some (.inl z), some (.inl x), a5, a6, a7] st σ Q := gk_istore rfl ⟨Nat.le_of_ble_eq_true rfl, rfl⟩ rfl
theorem g137_46r {x : Int32} {z : sl_R} {a0 a1 a2 a4 a5 a6 a7 : Option sl_V} : sl_Go xs N 137 46 [a0, a1, a2, some (.inr (.inr z)), a4, a5, a6, a7] (.inl x :: st) σ Q ↔ sl_Go xs N 137 48 [a0, a1, a2, some (.inr (.inr z)), some (.inl x), a5, a6, a7] st σ Q := gk_istore rfl ⟨Nat.le_of_ble_eq_true rfl, rfl⟩ rfl
theorem g137_48 {x : sl_R} {a1 a2 a3 a4 a5 a6 a7 : Option sl_V} : sl_Go xs N 137 48 [some (.inr (.inr x)), a1, a2, a3, a4, a5, a6, a7] st σ Q ↔ sl_Go xs N 137 49 [some (.inr (.inr x)), a1, a2, a3, a4, a5, a6, a7] (.inr (.inr x) :: st) σ Q := gk_aload rfl rfl
theorem g137_49 {L : sl_L} {i t : Nat} : sl_Go xs N 137 49 L (.inr (.inr (40, i, t)) :: st) σ Q ↔ sl_Go xs N 137 52 L (.inl (σ 4 0 5) :: st) σ Q := gk_get (g := .inl (4, 0, 5)) rfl rfl rfl
theorem g137_52 {x : sl_R} {a1 a2 a3 a4 a5 a6 a7 : Option sl_V} : sl_Go xs N 137 52 [some (.inr (.inr x)), a1, a2, a3, a4, a5, a6, a7] st σ Q ↔ sl_Go xs N 137 53 [some (.inr (.inr x)), a1, a2, a3, a4, a5, a6, a7] (.inr (.inr x) :: st) σ Q := gk_aload rfl rfl
theorem g137_53 {L : sl_L} {i t : Nat} : sl_Go xs N 137 53 L (.inr (.inr (40, i, t)) :: st) σ Q ↔ sl_Go xs N 137 56 L (.inr (.inr (61, 0, 0)) :: st) σ Q := gk_get (g := .inr (61, 0, 0)) rfl rfl rfl
theorem g137_56 {L : sl_L} : sl_Go xs N 137 56 L st σ Q ↔ sl_Go xs N 137 57 L (.inl 5 :: st) σ Q := gk_const rfl
theorem g137_57 {L : sl_L} {j : Int32} {r : sl_R} : sl_Go xs N 137 57 L (.inl j :: .inr (.inr r) :: st) σ Q ↔ (0 ≤ j.toInt ∧ j.toInt < sl_ilen N r) ∧ sl_Go xs N 137 58 L (.inl (sl_rd xs σ r j.toNatClampNeg) :: st) σ Q := gk_iald rfl
theorem g137_58 {L : sl_L} {x y : Int32} : sl_Go xs N 137 58 L (.inl y :: .inl x :: st) σ Q ↔ sl_Go xs N 137 59 L (.inl (x - y) :: st) σ Q := gk_bin (b := 9) rfl
theorem g137_59n {x : Int32} {a0 a1 a2 a3 a5 a6 a7 : Option sl_V} : sl_Go xs N 137 59 [a0, a1, a2, a3, none, a5, a6, a7] (.inl x :: st) σ Q ↔ sl_Go xs N 137 61 [a0, a1, a2, a3, none, some (.inl x), a6, a7] st σ Q := gk_istore rfl ⟨Nat.le_of_ble_eq_true rfl, rfl⟩ rfl
theorem g137_59i {x : Int32} {z : Int32} {a0 a1 a2 a3 a5 a6 a7 : Option sl_V} : sl_Go xs N 137 59 [a0, a1, a2, a3, some (.inl z), a5, a6, a7] (.inl x :: st) σ Q ↔ sl_Go xs N 137 61 [a0, a1, a2, a3, some (.inl z), some (.inl x), a6, a7] st σ Q := gk_istore rfl ⟨Nat.le_of_ble_eq_true rfl, rfl⟩ rfl
theorem g137_59r {x : Int32} {z : sl_R} {a0 a1 a2 a3 a5 a6 a7 : Option sl_V} : sl_Go xs N 137 59 [a0, a1, a2, a3, some (.inr (.inr z)), a5, a6, a7] (.inl x :: st) σ Q ↔ sl_Go xs N 137 61 [a0, a1, a2, a3, some (.inr (.inr z)), some (.inl x), a6, a7] st σ Q := gk_istore rfl ⟨Nat.le_of_ble_eq_true rfl, rfl⟩ rfl
theorem g137_61 {x : sl_R} {a1 a2 a3 a4 a5 a6 a7 : Option sl_V} : sl_Go xs N 137 61 [some (.inr (.inr x)), a1, a2, a3, a4, a5, a6, a7] st σ Q ↔ sl_Go xs N 137 62 [some (.inr (.inr x)), a1, a2, a3, a4, a5, a6, a7] (.inr (.inr x) :: st) σ Q := gk_aload rfl rfl
theorem g137_62 {L : sl_L} {i t : Nat} : sl_Go xs N 137 62 L (.inr (.inr (40, i, t)) :: st) σ Q ↔ sl_Go xs N 137 65 L (.inl (σ 4 0 6) :: st) σ Q := gk_get (g := .inl (4, 0, 6)) rfl rfl rfl
theorem g137_65 {x : sl_R} {a1 a2 a3 a4 a5 a6 a7 : Option sl_V} : sl_Go xs N 137 65 [some (.inr (.inr x)), a1, a2, a3, a4, a5, a6, a7] st σ Q ↔ sl_Go xs N 137 66 [some (.inr (.inr x)), a1, a2, a3, a4, a5, a6, a7] (.inr (.inr x) :: st) σ Q := gk_aload rfl rfl
theorem g137_66 {L : sl_L} {i t : Nat} : sl_Go xs N 137 66 L (.inr (.inr (40, i, t)) :: st) σ Q ↔ sl_Go xs N 137 69 L (.inr (.inr (61, 0, 0)) :: st) σ Q := gk_get (g := .inr (61, 0, 0)) rfl rfl rfl
theorem g137_69 {L : sl_L} : sl_Go xs N 137 69 L st σ Q ↔ sl_Go xs N 137 71 L (.inl 6 :: st) σ Q := gk_const rfl
theorem g137_71 {L : sl_L} {j : Int32} {r : sl_R} : sl_Go xs N 137 71 L (.inl j :: .inr (.inr r) :: st) σ Q ↔ (0 ≤ j.toInt ∧ j.toInt < sl_ilen N r) ∧ sl_Go xs N 137 72 L (.inl (sl_rd xs σ r j.toNatClampNeg) :: st) σ Q := gk_iald rfl
theorem g137_72 {L : sl_L} {x y : Int32} : sl_Go xs N 137 72 L (.inl y :: .inl x :: st) σ Q ↔ sl_Go xs N 137 73 L (.inl (x - y) :: st) σ Q := gk_bin (b := 9) rfl
theorem g137_73n {x : Int32} {a0 a1 a2 a3 a4 a6 a7 : Option sl_V} : sl_Go xs N 137 73 [a0, a1, a2, a3, a4, none, a6, a7] (.inl x :: st) σ Q ↔ sl_Go xs N 137 75 [a0, a1, a2, a3, a4, none, some (.inl x), a7] st σ Q := gk_istore rfl ⟨Nat.le_of_ble_eq_true rfl, rfl⟩ rfl
theorem g137_73i {x : Int32} {z : Int32} {a0 a1 a2 a3 a4 a6 a7 : Option sl_V} : sl_Go xs N 137 73 [a0, a1, a2, a3, a4, some (.inl z), a6, a7] (.inl x :: st) σ Q ↔ sl_Go xs N 137 75 [a0, a1, a2, a3, a4, some (.inl z), some (.inl x), a7] st σ Q := gk_istore rfl ⟨Nat.le_of_ble_eq_true rfl, rfl⟩ rfl
theorem g137_73r {x : Int32} {z : sl_R} {a0 a1 a2 a3 a4 a6 a7 : Option sl_V} : sl_Go xs N 137 73 [a0, a1, a2, a3, a4, some (.inr (.inr z)), a6, a7] (.inl x :: st) σ Q ↔ sl_Go xs N 137 75 [a0, a1, a2, a3, a4, some (.inr (.inr z)), some (.inl x), a7] st σ Q := gk_istore rfl ⟨Nat.le_of_ble_eq_true rfl, rfl⟩ rfl
theorem g137_75 {x : sl_R} {a1 a2 a3 a4 a5 a6 a7 : Option sl_V} : sl_Go xs N 137 75 [some (.inr (.inr x)), a1, a2, a3, a4, a5, a6, a7] st σ Q ↔ sl_Go xs N 137 76 [some (.inr (.inr x)), a1, a2, a3, a4, a5, a6, a7] (.inr (.inr x) :: st) σ Q := gk_aload rfl rfl
theorem g137_76 {L : sl_L} {i t : Nat} : sl_Go xs N 137 76 L (.inr (.inr (40, i, t)) :: st) σ Q ↔ sl_Go xs N 137 79 L (.inl (σ 4 0 7) :: st) σ Q := gk_get (g := .inl (4, 0, 7)) rfl rfl rfl
theorem g137_79 {x : sl_R} {a1 a2 a3 a4 a5 a6 a7 : Option sl_V} : sl_Go xs N 137 79 [some (.inr (.inr x)), a1, a2, a3, a4, a5, a6, a7] st σ Q ↔ sl_Go xs N 137 80 [some (.inr (.inr x)), a1, a2, a3, a4, a5, a6, a7] (.inr (.inr x) :: st) σ Q := gk_aload rfl rfl
theorem g137_80 {L : sl_L} {i t : Nat} : sl_Go xs N 137 80 L (.inr (.inr (40, i, t)) :: st) σ Q ↔ sl_Go xs N 137 83 L (.inr (.inr (61, 0, 0)) :: st) σ Q := gk_get (g := .inr (61, 0, 0)) rfl rfl rfl
theorem g137_83 {L : sl_L} : sl_Go xs N 137 83 L st σ Q ↔ sl_Go xs N 137 85 L (.inl 7 :: st) σ Q := gk_const rfl
theorem g137_85 {L : sl_L} {j : Int32} {r : sl_R} : sl_Go xs N 137 85 L (.inl j :: .inr (.inr r) :: st) σ Q ↔ (0 ≤ j.toInt ∧ j.toInt < sl_ilen N r) ∧ sl_Go xs N 137 86 L (.inl (sl_rd xs σ r j.toNatClampNeg) :: st) σ Q := gk_iald rfl
theorem g137_86 {L : sl_L} {x y : Int32} : sl_Go xs N 137 86 L (.inl y :: .inl x :: st) σ Q ↔ sl_Go xs N 137 87 L (.inl (x - y) :: st) σ Q := gk_bin (b := 9) rfl
theorem g137_87n {x : Int32} {a0 a1 a2 a3 a4 a5 a7 : Option sl_V} : sl_Go xs N 137 87 [a0, a1, a2, a3, a4, a5, none, a7] (.inl x :: st) σ Q ↔ sl_Go xs N 137 89 [a0, a1, a2, a3, a4, a5, none, some (.inl x)] st σ Q := gk_istore rfl ⟨Nat.le_of_ble_eq_true rfl, rfl⟩ rfl
theorem g137_87i {x : Int32} {z : Int32} {a0 a1 a2 a3 a4 a5 a7 : Option sl_V} : sl_Go xs N 137 87 [a0, a1, a2, a3, a4, a5, some (.inl z), a7] (.inl x :: st) σ Q ↔ sl_Go xs N 137 89 [a0, a1, a2, a3, a4, a5, some (.inl z), some (.inl x)] st σ Q := gk_istore rfl ⟨Nat.le_of_ble_eq_true rfl, rfl⟩ rfl
theorem g137_87r {x : Int32} {z : sl_R} {a0 a1 a2 a3 a4 a5 a7 : Option sl_V} : sl_Go xs N 137 87 [a0, a1, a2, a3, a4, a5, some (.inr (.inr z)), a7] (.inl x :: st) σ Q ↔ sl_Go xs N 137 89 [a0, a1, a2, a3, a4, a5, some (.inr (.inr z)), some (.inl x)] st σ Q := gk_istore rfl ⟨Nat.le_of_ble_eq_true rfl, rfl⟩ rfl
theorem g137_89 {x : sl_R} {a1 a2 a3 a4 a5 a6 a7 : Option sl_V} : sl_Go xs N 137 89 [some (.inr (.inr x)), a1, a2, a3, a4, a5, a6, a7] st σ Q ↔ sl_Go xs N 137 90 [some (.inr (.inr x)), a1, a2, a3, a4, a5, a6, a7] (.inr (.inr x) :: st) σ Q := gk_aload rfl rfl
theorem g137_90 {L : sl_L} : sl_Go xs N 137 90 L st σ Q ↔ sl_Go xs N 137 91 L (.inl 0 :: st) σ Q := gk_const rfl
theorem g137_91 {L : sl_L} {o : sl_R} {x0 : Int32} : sl_Go xs N 137 91 L (.inl x0 :: .inr (.inr o) :: st) σ Q ↔ sl_cw st ≤ 8 ∧ sl_Go xs N 134 0 [some (.inr (.inr o)), some (.inl x0), none] [] σ (fun r τ => sl_Go xs N 137 94 L (r.toList ++ st) τ Q) := gk_call rfl (Nat.le_add_left 2 st.length) rfl rfl rfl
theorem g137_94 {x : Int32} {a0 a1 a2 a4 a5 a6 a7 : Option sl_V} : sl_Go xs N 137 94 [a0, a1, a2, some (.inl x), a4, a5, a6, a7] st σ Q ↔ sl_Go xs N 137 95 [a0, a1, a2, some (.inl x), a4, a5, a6, a7] (.inl x :: st) σ Q := gk_iload rfl rfl
theorem g137_95 {L : sl_L} {x : Int32} : sl_Go xs N 137 95 L (.inl x :: st) σ Q ↔ (¬ x = 0 → sl_Go xs N 137 103 L st σ Q) ∧ (x = 0 → sl_Go xs N 137 98 L st σ Q) := gk_zne rfl
theorem g137_98 {x : Int32} {a0 a1 a2 a3 a5 a6 a7 : Option sl_V} : sl_Go xs N 137 98 [a0, a1, a2, a3, some (.inl x), a5, a6, a7] st σ Q ↔ sl_Go xs N 137 100 [a0, a1, a2, a3, some (.inl x), a5, a6, a7] (.inl x :: st) σ Q := gk_iload rfl rfl
theorem g137_100 {L : sl_L} : sl_Go xs N 137 100 L st σ Q ↔ sl_Go xs N 137 147 L st σ Q := gk_goto rfl
theorem g137_103 {x : Int32} {a0 a1 a2 a4 a5 a6 a7 : Option sl_V} : sl_Go xs N 137 103 [a0, a1, a2, some (.inl x), a4, a5, a6, a7] st σ Q ↔ sl_Go xs N 137 104 [a0, a1, a2, some (.inl x), a4, a5, a6, a7] (.inl x :: st) σ Q := gk_iload rfl rfl
theorem g137_104 {L : sl_L} : sl_Go xs N 137 104 L st σ Q ↔ sl_Go xs N 137 105 L (.inl 1 :: st) σ Q := gk_const rfl
theorem g137_105 {L : sl_L} {x y : Int32} : sl_Go xs N 137 105 L (.inl y :: .inl x :: st) σ Q ↔ (¬ x = y → sl_Go xs N 137 113 L st σ Q) ∧ (x = y → sl_Go xs N 137 108 L st σ Q) := gk_ine rfl
theorem g137_108 {x : Int32} {a0 a1 a2 a3 a4 a6 a7 : Option sl_V} : sl_Go xs N 137 108 [a0, a1, a2, a3, a4, some (.inl x), a6, a7] st σ Q ↔ sl_Go xs N 137 110 [a0, a1, a2, a3, a4, some (.inl x), a6, a7] (.inl x :: st) σ Q := gk_iload rfl rfl
theorem g137_110 {L : sl_L} : sl_Go xs N 137 110 L st σ Q ↔ sl_Go xs N 137 147 L st σ Q := gk_goto rfl
theorem g137_113 {x : Int32} {a0 a1 a2 a4 a5 a6 a7 : Option sl_V} : sl_Go xs N 137 113 [a0, a1, a2, some (.inl x), a4, a5, a6, a7] st σ Q ↔ sl_Go xs N 137 114 [a0, a1, a2, some (.inl x), a4, a5, a6, a7] (.inl x :: st) σ Q := gk_iload rfl rfl
theorem g137_114 {L : sl_L} : sl_Go xs N 137 114 L st σ Q ↔ sl_Go xs N 137 115 L (.inl 2 :: st) σ Q := gk_const rfl
theorem g137_115 {L : sl_L} {x y : Int32} : sl_Go xs N 137 115 L (.inl y :: .inl x :: st) σ Q ↔ (¬ x = y → sl_Go xs N 137 123 L st σ Q) ∧ (x = y → sl_Go xs N 137 118 L st σ Q) := gk_ine rfl
theorem g137_118 {x : Int32} {a0 a1 a2 a3 a4 a5 a7 : Option sl_V} : sl_Go xs N 137 118 [a0, a1, a2, a3, a4, a5, some (.inl x), a7] st σ Q ↔ sl_Go xs N 137 120 [a0, a1, a2, a3, a4, a5, some (.inl x), a7] (.inl x :: st) σ Q := gk_iload rfl rfl
theorem g137_120 {L : sl_L} : sl_Go xs N 137 120 L st σ Q ↔ sl_Go xs N 137 147 L st σ Q := gk_goto rfl
theorem g137_123 {x : Int32} {a0 a1 a2 a4 a5 a6 a7 : Option sl_V} : sl_Go xs N 137 123 [a0, a1, a2, some (.inl x), a4, a5, a6, a7] st σ Q ↔ sl_Go xs N 137 124 [a0, a1, a2, some (.inl x), a4, a5, a6, a7] (.inl x :: st) σ Q := gk_iload rfl rfl
theorem g137_124 {L : sl_L} : sl_Go xs N 137 124 L st σ Q ↔ sl_Go xs N 137 125 L (.inl 3 :: st) σ Q := gk_const rfl
theorem g137_125 {L : sl_L} {x y : Int32} : sl_Go xs N 137 125 L (.inl y :: .inl x :: st) σ Q ↔ (¬ x = y → sl_Go xs N 137 145 L st σ Q) ∧ (x = y → sl_Go xs N 137 128 L st σ Q) := gk_ine rfl
theorem g137_128 {x : Int32} {a0 a1 a2 a3 a5 a6 a7 : Option sl_V} : sl_Go xs N 137 128 [a0, a1, a2, a3, some (.inl x), a5, a6, a7] st σ Q ↔ sl_Go xs N 137 130 [a0, a1, a2, a3, some (.inl x), a5, a6, a7] (.inl x :: st) σ Q := gk_iload rfl rfl
theorem g137_130 {x : sl_R} {a1 a2 a3 a4 a5 a6 a7 : Option sl_V} : sl_Go xs N 137 130 [some (.inr (.inr x)), a1, a2, a3, a4, a5, a6, a7] st σ Q ↔ sl_Go xs N 137 131 [some (.inr (.inr x)), a1, a2, a3, a4, a5, a6, a7] (.inr (.inr x) :: st) σ Q := gk_aload rfl rfl
theorem g137_131 {L : sl_L} {i t : Nat} : sl_Go xs N 137 131 L (.inr (.inr (40, i, t)) :: st) σ Q ↔ sl_Go xs N 137 134 L (.inl (σ 6 0 4) :: st) σ Q := gk_get (g := .inl (6, 0, 4)) rfl rfl rfl
theorem g137_134 {L : sl_L} {x y : Int32} : sl_Go xs N 137 134 L (.inl y :: .inl x :: st) σ Q ↔ (x ≤ y → sl_Go xs N 137 141 L st σ Q) ∧ (¬ x ≤ y → sl_Go xs N 137 137 L st σ Q) := gk_ile rfl
theorem g137_137 {L : sl_L} : sl_Go xs N 137 137 L st σ Q ↔ sl_Go xs N 137 138 L (.inl 1 :: st) σ Q := gk_const rfl
theorem g137_138 {L : sl_L} : sl_Go xs N 137 138 L st σ Q ↔ sl_Go xs N 137 147 L st σ Q := gk_goto rfl
theorem g137_141 {L : sl_L} : sl_Go xs N 137 141 L st σ Q ↔ sl_Go xs N 137 142 L (.inl 0 :: st) σ Q := gk_const rfl
theorem g137_142 {L : sl_L} : sl_Go xs N 137 142 L st σ Q ↔ sl_Go xs N 137 147 L st σ Q := gk_goto rfl
theorem g137_145 {x : Int32} {a0 a1 a2 a3 a4 a5 a6 : Option sl_V} : sl_Go xs N 137 145 [a0, a1, a2, a3, a4, a5, a6, some (.inl x)] st σ Q ↔ sl_Go xs N 137 147 [a0, a1, a2, a3, a4, a5, a6, some (.inl x)] (.inl x :: st) σ Q := gk_iload rfl rfl
theorem g137_147 {L : sl_L} {x : Int32} : sl_Go xs N 137 147 L [.inl x] σ Q ↔ Q (some (.inl x)) σ := gk_iret rfl
theorem g138_0 {x : sl_R} {a1 a2 a3 : Option sl_V} : sl_Go xs N 138 0 [some (.inr (.inr x)), a1, a2, a3] st σ Q ↔ sl_Go xs N 138 1 [some (.inr (.inr x)), a1, a2, a3] (.inr (.inr x) :: st) σ Q := gk_aload rfl rfl
theorem g138_1 {x : Int32} {a0 a2 a3 : Option sl_V} : sl_Go xs N 138 1 [a0, some (.inl x), a2, a3] st σ Q ↔ sl_Go xs N 138 2 [a0, some (.inl x), a2, a3] (.inl x :: st) σ Q := gk_iload rfl rfl
theorem g138_2 {L : sl_L} {o : sl_R} {x0 : Int32} : sl_Go xs N 138 2 L (.inl x0 :: .inr (.inr o) :: st) σ Q ↔ sl_cw st ≤ 8 ∧ sl_Go xs N 96 0 [some (.inr (.inr o)), some (.inl x0)] [] σ (fun r τ => sl_Go xs N 138 5 L (r.toList ++ st) τ Q) := gk_call rfl (Nat.le_add_left 2 st.length) rfl rfl rfl
theorem g138_5 {L : sl_L} : sl_Go xs N 138 5 L st σ Q ↔ sl_Go xs N 138 7 L (.inl 23 :: st) σ Q := gk_const rfl
theorem g138_7 {L : sl_L} {x y : Int32} : sl_Go xs N 138 7 L (.inl y :: .inl x :: st) σ Q ↔ sl_Go xs N 138 8 L (.inl (x + y) :: st) σ Q := gk_bin (b := 8) rfl
theorem g138_8 {L : sl_L} : sl_Go xs N 138 8 L st σ Q ↔ sl_Go xs N 138 10 L (.inl 24 :: st) σ Q := gk_const rfl
theorem g138_10 {L : sl_L} {x y : Int32} : sl_Go xs N 138 10 L (.inl y :: .inl x :: st) σ Q ↔ ¬ y = 0 ∧ sl_Go xs N 138 11 L (.inl (x / y) :: st) σ Q := gk_idiv rfl
theorem g138_11n {x : Int32} {a0 a1 a3 : Option sl_V} : sl_Go xs N 138 11 [a0, a1, none, a3] (.inl x :: st) σ Q ↔ sl_Go xs N 138 12 [a0, a1, none, some (.inl x)] st σ Q := gk_istore rfl ⟨Nat.le_of_ble_eq_true rfl, rfl⟩ rfl
theorem g138_11i {x : Int32} {z : Int32} {a0 a1 a3 : Option sl_V} : sl_Go xs N 138 11 [a0, a1, some (.inl z), a3] (.inl x :: st) σ Q ↔ sl_Go xs N 138 12 [a0, a1, some (.inl z), some (.inl x)] st σ Q := gk_istore rfl ⟨Nat.le_of_ble_eq_true rfl, rfl⟩ rfl
theorem g138_11r {x : Int32} {z : sl_R} {a0 a1 a3 : Option sl_V} : sl_Go xs N 138 11 [a0, a1, some (.inr (.inr z)), a3] (.inl x :: st) σ Q ↔ sl_Go xs N 138 12 [a0, a1, some (.inr (.inr z)), some (.inl x)] st σ Q := gk_istore rfl ⟨Nat.le_of_ble_eq_true rfl, rfl⟩ rfl
theorem g138_12 {x : Int32} {a0 a1 a3 : Option sl_V} : sl_Go xs N 138 12 [a0, a1, some (.inl x), a3] st σ Q ↔ sl_Go xs N 138 13 [a0, a1, some (.inl x), a3] (.inl x :: st) σ Q := gk_iload rfl rfl
theorem g138_13 {x : Int32} {a0 a1 a2 : Option sl_V} : sl_Go xs N 138 13 [a0, a1, a2, some (.inl x)] st σ Q ↔ sl_Go xs N 138 14 [a0, a1, a2, some (.inl x)] (.inl x :: st) σ Q := gk_iload rfl rfl
theorem g138_14 {L : sl_L} {x y : Int32} : sl_Go xs N 138 14 L (.inl y :: .inl x :: st) σ Q ↔ (x ≤ y → sl_Go xs N 138 21 L st σ Q) ∧ (¬ x ≤ y → sl_Go xs N 138 17 L st σ Q) := gk_ile rfl
theorem g138_17 {x : Int32} {a0 a1 a3 : Option sl_V} : sl_Go xs N 138 17 [a0, a1, some (.inl x), a3] st σ Q ↔ sl_Go xs N 138 18 [a0, a1, some (.inl x), a3] (.inl x :: st) σ Q := gk_iload rfl rfl
theorem g138_18 {L : sl_L} : sl_Go xs N 138 18 L st σ Q ↔ sl_Go xs N 138 22 L st σ Q := gk_goto rfl
theorem g138_21 {x : Int32} {a0 a1 a2 : Option sl_V} : sl_Go xs N 138 21 [a0, a1, a2, some (.inl x)] st σ Q ↔ sl_Go xs N 138 22 [a0, a1, a2, some (.inl x)] (.inl x :: st) σ Q := gk_iload rfl rfl
theorem g138_22 {L : sl_L} {x : Int32} : sl_Go xs N 138 22 L [.inl x] σ Q ↔ Q (some (.inl x)) σ := gk_iret rfl
theorem g139_0 {x : sl_R} {a1 a2 a3 a4 a5 a6 a7 : Option sl_V} : sl_Go xs N 139 0 [some (.inr (.inr x)), a1, a2, a3, a4, a5, a6, a7] st σ Q ↔ sl_Go xs N 139 1 [some (.inr (.inr x)), a1, a2, a3, a4, a5, a6, a7] (.inr (.inr x) :: st) σ Q := gk_aload rfl rfl
theorem g139_1 {x : Int32} {a0 a2 a3 a4 a5 a6 a7 : Option sl_V} : sl_Go xs N 139 1 [a0, some (.inl x), a2, a3, a4, a5, a6, a7] st σ Q ↔ sl_Go xs N 139 2 [a0, some (.inl x), a2, a3, a4, a5, a6, a7] (.inl x :: st) σ Q := gk_iload rfl rfl
theorem g139_2 {L : sl_L} {o : sl_R} {x0 : Int32} : sl_Go xs N 139 2 L (.inl x0 :: .inr (.inr o) :: st) σ Q ↔ sl_cw st ≤ 8 ∧ sl_Go xs N 93 0 [some (.inr (.inr o)), some (.inl x0)] [] σ (fun r τ => sl_Go xs N 139 5 L (r.toList ++ st) τ Q) := gk_call rfl (Nat.le_add_left 2 st.length) rfl rfl rfl
theorem g139_5 {L : sl_L} {x : Int32} : sl_Go xs N 139 5 L (.inl x :: st) σ Q ↔ (x = 0 → sl_Go xs N 139 16 L st σ Q) ∧ (¬ x = 0 → sl_Go xs N 139 8 L st σ Q) := gk_zeq rfl
theorem g139_8 {x : sl_R} {a1 a2 a3 a4 a5 a6 a7 : Option sl_V} : sl_Go xs N 139 8 [some (.inr (.inr x)), a1, a2, a3, a4, a5, a6, a7] st σ Q ↔ sl_Go xs N 139 9 [some (.inr (.inr x)), a1, a2, a3, a4, a5, a6, a7] (.inr (.inr x) :: st) σ Q := gk_aload rfl rfl
theorem g139_9 {x : Int32} {a0 a1 a3 a4 a5 a6 a7 : Option sl_V} : sl_Go xs N 139 9 [a0, a1, some (.inl x), a3, a4, a5, a6, a7] st σ Q ↔ sl_Go xs N 139 10 [a0, a1, some (.inl x), a3, a4, a5, a6, a7] (.inl x :: st) σ Q := gk_iload rfl rfl
theorem g139_10 {L : sl_L} {o : sl_R} {x0 : Int32} : sl_Go xs N 139 10 L (.inl x0 :: .inr (.inr o) :: st) σ Q ↔ sl_cw st ≤ 8 ∧ sl_Go xs N 136 0 [some (.inr (.inr o)), some (.inl x0)] [] σ (fun r τ => sl_Go xs N 139 13 L (r.toList ++ st) τ Q) := gk_call rfl (Nat.le_add_left 2 st.length) rfl rfl rfl
theorem g139_13 {L : sl_L} {x : Int32} : sl_Go xs N 139 13 L (.inl x :: st) σ Q ↔ (¬ x = 0 → sl_Go xs N 139 18 L st σ Q) ∧ (x = 0 → sl_Go xs N 139 16 L st σ Q) := gk_zne rfl
theorem g139_16 {L : sl_L} : sl_Go xs N 139 16 L st σ Q ↔ sl_Go xs N 139 17 L (.inl (-1) :: st) σ Q := gk_const rfl
theorem g139_17 {L : sl_L} {x : Int32} : sl_Go xs N 139 17 L [.inl x] σ Q ↔ Q (some (.inl x)) σ := gk_iret rfl
theorem g139_18 {x : sl_R} {a1 a2 a3 a4 a5 a6 a7 : Option sl_V} : sl_Go xs N 139 18 [some (.inr (.inr x)), a1, a2, a3, a4, a5, a6, a7] st σ Q ↔ sl_Go xs N 139 19 [some (.inr (.inr x)), a1, a2, a3, a4, a5, a6, a7] (.inr (.inr x) :: st) σ Q := gk_aload rfl rfl
theorem g139_19 {x : Int32} {a0 a1 a2 a4 a5 a6 a7 : Option sl_V} : sl_Go xs N 139 19 [a0, a1, a2, some (.inl x), a4, a5, a6, a7] st σ Q ↔ sl_Go xs N 139 20 [a0, a1, a2, some (.inl x), a4, a5, a6, a7] (.inl x :: st) σ Q := gk_iload rfl rfl
theorem g139_20 {L : sl_L} : sl_Go xs N 139 20 L st σ Q ↔ sl_Go xs N 139 21 L (.inl 1 :: st) σ Q := gk_const rfl
theorem g139_21 {L : sl_L} : sl_Go xs N 139 21 L st σ Q ↔ sl_Go xs N 139 24 L (.inl 1200 :: st) σ Q := gk_const rfl
theorem g139_24 {L : sl_L} {o : sl_R} {x0 : Int32} {x1 : Int32} {x2 : Int32} : sl_Go xs N 139 24 L (.inl x2 :: .inl x1 :: .inl x0 :: .inr (.inr o) :: st) σ Q ↔ sl_cw st ≤ 8 ∧ sl_Go xs N 91 0 [some (.inr (.inr o)), some (.inl x0), some (.inl x1), some (.inl x2)] [] σ (fun r τ => sl_Go xs N 139 27 L (r.toList ++ st) τ Q) := gk_call rfl (Nat.le_add_left 4 st.length) rfl rfl rfl
theorem g139_27 {L : sl_L} {x : Int32} : sl_Go xs N 139 27 L (.inl x :: st) σ Q ↔ (¬ x = 0 → sl_Go xs N 139 33 L st σ Q) ∧ (x = 0 → sl_Go xs N 139 30 L st σ Q) := gk_zne rfl
theorem g139_30 {L : sl_L} : sl_Go xs N 139 30 L st σ Q ↔ sl_Go xs N 139 32 L (.inl (-2) :: st) σ Q := gk_const rfl
theorem g139_32 {L : sl_L} {x : Int32} : sl_Go xs N 139 32 L [.inl x] σ Q ↔ Q (some (.inl x)) σ := gk_iret rfl
theorem g139_33 {L : sl_L} : sl_Go xs N 139 33 L st σ Q ↔ sl_Go xs N 139 34 L (.inl 0 :: st) σ Q := gk_const rfl
theorem g139_34n {x : Int32} {a0 a1 a2 a4 a5 a6 a7 : Option sl_V} : sl_Go xs N 139 34 [a0, a1, a2, none, a4, a5, a6, a7] (.inl x :: st) σ Q ↔ sl_Go xs N 139 36 [a0, a1, a2, none, some (.inl x), a5, a6, a7] st σ Q := gk_istore rfl ⟨Nat.le_of_ble_eq_true rfl, rfl⟩ rfl
theorem g139_34i {x : Int32} {z : Int32} {a0 a1 a2 a4 a5 a6 a7 : Option sl_V} : sl_Go xs N 139 34 [a0, a1, a2, some (.inl z), a4, a5, a6, a7] (.inl x :: st) σ Q ↔ sl_Go xs N 139 36 [a0, a1, a2, some (.inl z), some (.inl x), a5, a6, a7] st σ Q := gk_istore rfl ⟨Nat.le_of_ble_eq_true rfl, rfl⟩ rfl
theorem g139_34r {x : Int32} {z : sl_R} {a0 a1 a2 a4 a5 a6 a7 : Option sl_V} : sl_Go xs N 139 34 [a0, a1, a2, some (.inr (.inr z)), a4, a5, a6, a7] (.inl x :: st) σ Q ↔ sl_Go xs N 139 36 [a0, a1, a2, some (.inr (.inr z)), some (.inl x), a5, a6, a7] st σ Q := gk_istore rfl ⟨Nat.le_of_ble_eq_true rfl, rfl⟩ rfl
theorem g139_36 {L : sl_L} : sl_Go xs N 139 36 L st σ Q ↔ sl_Go xs N 139 37 L (.inl (-1) :: st) σ Q := gk_const rfl
theorem g139_37n {x : Int32} {a0 a1 a2 a3 a5 a6 a7 : Option sl_V} : sl_Go xs N 139 37 [a0, a1, a2, a3, none, a5, a6, a7] (.inl x :: st) σ Q ↔ sl_Go xs N 139 39 [a0, a1, a2, a3, none, some (.inl x), a6, a7] st σ Q := gk_istore rfl ⟨Nat.le_of_ble_eq_true rfl, rfl⟩ rfl
theorem g139_37i {x : Int32} {z : Int32} {a0 a1 a2 a3 a5 a6 a7 : Option sl_V} : sl_Go xs N 139 37 [a0, a1, a2, a3, some (.inl z), a5, a6, a7] (.inl x :: st) σ Q ↔ sl_Go xs N 139 39 [a0, a1, a2, a3, some (.inl z), some (.inl x), a6, a7] st σ Q := gk_istore rfl ⟨Nat.le_of_ble_eq_true rfl, rfl⟩ rfl
theorem g139_37r {x : Int32} {z : sl_R} {a0 a1 a2 a3 a5 a6 a7 : Option sl_V} : sl_Go xs N 139 37 [a0, a1, a2, a3, some (.inr (.inr z)), a5, a6, a7] (.inl x :: st) σ Q ↔ sl_Go xs N 139 39 [a0, a1, a2, a3, some (.inr (.inr z)), some (.inl x), a6, a7] st σ Q := gk_istore rfl ⟨Nat.le_of_ble_eq_true rfl, rfl⟩ rfl
theorem g139_39 {x : sl_R} {a1 a2 a3 a4 a5 a6 a7 : Option sl_V} : sl_Go xs N 139 39 [some (.inr (.inr x)), a1, a2, a3, a4, a5, a6, a7] st σ Q ↔ sl_Go xs N 139 40 [some (.inr (.inr x)), a1, a2, a3, a4, a5, a6, a7] (.inr (.inr x) :: st) σ Q := gk_aload rfl rfl
theorem g139_40 {L : sl_L} : sl_Go xs N 139 40 L st σ Q ↔ sl_Go xs N 139 41 L (.inl 0 :: st) σ Q := gk_const rfl
theorem g139_41 {L : sl_L} {o : sl_R} {x0 : Int32} : sl_Go xs N 139 41 L (.inl x0 :: .inr (.inr o) :: st) σ Q ↔ sl_cw st ≤ 8 ∧ sl_Go xs N 133 0 [some (.inr (.inr o)), some (.inl x0), none] [] σ (fun r τ => sl_Go xs N 139 44 L (r.toList ++ st) τ Q) := gk_call rfl (Nat.le_add_left 2 st.length) rfl rfl rfl
theorem g139_44 {L : sl_L} : sl_Go xs N 139 44 L st σ Q ↔ sl_Go xs N 139 45 L (.inl 0 :: st) σ Q := gk_const rfl
theorem g139_45n {x : Int32} {a0 a1 a2 a3 a4 a6 a7 : Option sl_V} : sl_Go xs N 139 45 [a0, a1, a2, a3, a4, none, a6, a7] (.inl x :: st) σ Q ↔ sl_Go xs N 139 47 [a0, a1, a2, a3, a4, none, some (.inl x), a7] st σ Q := gk_istore rfl ⟨Nat.le_of_ble_eq_true rfl, rfl⟩ rfl
theorem g139_45i {x : Int32} {z : Int32} {a0 a1 a2 a3 a4 a6 a7 : Option sl_V} : sl_Go xs N 139 45 [a0, a1, a2, a3, a4, some (.inl z), a6, a7] (.inl x :: st) σ Q ↔ sl_Go xs N 139 47 [a0, a1, a2, a3, a4, some (.inl z), some (.inl x), a7] st σ Q := gk_istore rfl ⟨Nat.le_of_ble_eq_true rfl, rfl⟩ rfl
theorem g139_45r {x : Int32} {z : sl_R} {a0 a1 a2 a3 a4 a6 a7 : Option sl_V} : sl_Go xs N 139 45 [a0, a1, a2, a3, a4, some (.inr (.inr z)), a6, a7] (.inl x :: st) σ Q ↔ sl_Go xs N 139 47 [a0, a1, a2, a3, a4, some (.inr (.inr z)), some (.inl x), a7] st σ Q := gk_istore rfl ⟨Nat.le_of_ble_eq_true rfl, rfl⟩ rfl
theorem g139_47 {x : Int32} {a0 a1 a2 a3 a4 a5 a7 : Option sl_V} : sl_Go xs N 139 47 [a0, a1, a2, a3, a4, a5, some (.inl x), a7] st σ Q ↔ sl_Go xs N 139 49 [a0, a1, a2, a3, a4, a5, some (.inl x), a7] (.inl x :: st) σ Q := gk_iload rfl rfl
theorem g139_49 {x : sl_R} {a1 a2 a3 a4 a5 a6 a7 : Option sl_V} : sl_Go xs N 139 49 [some (.inr (.inr x)), a1, a2, a3, a4, a5, a6, a7] st σ Q ↔ sl_Go xs N 139 50 [some (.inr (.inr x)), a1, a2, a3, a4, a5, a6, a7] (.inr (.inr x) :: st) σ Q := gk_aload rfl rfl
theorem g139_50 {x : Int32} {a0 a2 a3 a4 a5 a6 a7 : Option sl_V} : sl_Go xs N 139 50 [a0, some (.inl x), a2, a3, a4, a5, a6, a7] st σ Q ↔ sl_Go xs N 139 51 [a0, some (.inl x), a2, a3, a4, a5, a6, a7] (.inl x :: st) σ Q := gk_iload rfl rfl
theorem g139_51 {L : sl_L} {o : sl_R} {x0 : Int32} : sl_Go xs N 139 51 L (.inl x0 :: .inr (.inr o) :: st) σ Q ↔ sl_cw st ≤ 8 ∧ sl_Go xs N 96 0 [some (.inr (.inr o)), some (.inl x0)] [] σ (fun r τ => sl_Go xs N 139 54 L (r.toList ++ st) τ Q) := gk_call rfl (Nat.le_add_left 2 st.length) rfl rfl rfl
theorem g139_54 {L : sl_L} {x y : Int32} : sl_Go xs N 139 54 L (.inl y :: .inl x :: st) σ Q ↔ (y < x → sl_Go xs N 139 110 L st σ Q) ∧ (¬ y < x → sl_Go xs N 139 57 L st σ Q) := gk_igt rfl
theorem g139_57 {x : sl_R} {a1 a2 a3 a4 a5 a6 a7 : Option sl_V} : sl_Go xs N 139 57 [some (.inr (.inr x)), a1, a2, a3, a4, a5, a6, a7] st σ Q ↔ sl_Go xs N 139 58 [some (.inr (.inr x)), a1, a2, a3, a4, a5, a6, a7] (.inr (.inr x) :: st) σ Q := gk_aload rfl rfl
theorem g139_58 {x : Int32} {a0 a2 a3 a4 a5 a6 a7 : Option sl_V} : sl_Go xs N 139 58 [a0, some (.inl x), a2, a3, a4, a5, a6, a7] st σ Q ↔ sl_Go xs N 139 59 [a0, some (.inl x), a2, a3, a4, a5, a6, a7] (.inl x :: st) σ Q := gk_iload rfl rfl
theorem g139_59 {x : Int32} {a0 a1 a2 a3 a4 a5 a7 : Option sl_V} : sl_Go xs N 139 59 [a0, a1, a2, a3, a4, a5, some (.inl x), a7] st σ Q ↔ sl_Go xs N 139 61 [a0, a1, a2, a3, a4, a5, some (.inl x), a7] (.inl x :: st) σ Q := gk_iload rfl rfl
theorem g139_61 {L : sl_L} {o : sl_R} {x0 : Int32} {x1 : Int32} : sl_Go xs N 139 61 L (.inl x1 :: .inl x0 :: .inr (.inr o) :: st) σ Q ↔ sl_cw st ≤ 8 ∧ sl_Go xs N 98 0 [some (.inr (.inr o)), some (.inl x0), some (.inl x1), none] [] σ (fun r τ => sl_Go xs N 139 64 L (r.toList ++ st) τ Q) := gk_call rfl (Nat.le_add_left 3 st.length) rfl rfl rfl
theorem g139_64 {x : sl_R} {a1 a2 a3 a4 a5 a6 a7 : Option sl_V} : sl_Go xs N 139 64 [some (.inr (.inr x)), a1, a2, a3, a4, a5, a6, a7] st σ Q ↔ sl_Go xs N 139 65 [some (.inr (.inr x)), a1, a2, a3, a4, a5, a6, a7] (.inr (.inr x) :: st) σ Q := gk_aload rfl rfl
theorem g139_65 {x : Int32} {a0 a1 a3 a4 a5 a6 a7 : Option sl_V} : sl_Go xs N 139 65 [a0, a1, some (.inl x), a3, a4, a5, a6, a7] st σ Q ↔ sl_Go xs N 139 66 [a0, a1, some (.inl x), a3, a4, a5, a6, a7] (.inl x :: st) σ Q := gk_iload rfl rfl
theorem g139_66 {L : sl_L} : sl_Go xs N 139 66 L st σ Q ↔ sl_Go xs N 139 68 L (.inl 60 :: st) σ Q := gk_const rfl
theorem g139_68 {L : sl_L} {o : sl_R} {x0 : Int32} {x1 : Int32} : sl_Go xs N 139 68 L (.inl x1 :: .inl x0 :: .inr (.inr o) :: st) σ Q ↔ sl_cw st ≤ 8 ∧ sl_Go xs N 135 0 [some (.inr (.inr o)), some (.inl x0), some (.inl x1), none, none] [] σ (fun r τ => sl_Go xs N 139 71 L (r.toList ++ st) τ Q) := gk_call rfl (Nat.le_add_left 3 st.length) rfl rfl rfl
theorem g139_71n {x : Int32} {a0 a1 a2 a3 a4 a5 a7 : Option sl_V} : sl_Go xs N 139 71 [a0, a1, a2, a3, a4, a5, none, a7] (.inl x :: st) σ Q ↔ sl_Go xs N 139 73 [a0, a1, a2, a3, a4, a5, none, some (.inl x)] st σ Q := gk_istore rfl ⟨Nat.le_of_ble_eq_true rfl, rfl⟩ rfl
theorem g139_71i {x : Int32} {z : Int32} {a0 a1 a2 a3 a4 a5 a7 : Option sl_V} : sl_Go xs N 139 71 [a0, a1, a2, a3, a4, a5, some (.inl z), a7] (.inl x :: st) σ Q ↔ sl_Go xs N 139 73 [a0, a1, a2, a3, a4, a5, some (.inl z), some (.inl x)] st σ Q := gk_istore rfl ⟨Nat.le_of_ble_eq_true rfl, rfl⟩ rfl
theorem g139_71r {x : Int32} {z : sl_R} {a0 a1 a2 a3 a4 a5 a7 : Option sl_V} : sl_Go xs N 139 71 [a0, a1, a2, a3, a4, a5, some (.inr (.inr z)), a7] (.inl x :: st) σ Q ↔ sl_Go xs N 139 73 [a0, a1, a2, a3, a4, a5, some (.inr (.inr z)), some (.inl x)] st σ Q := gk_istore rfl ⟨Nat.le_of_ble_eq_true rfl, rfl⟩ rfl
theorem g139_73 {x : sl_R} {a1 a2 a3 a4 a5 a6 a7 : Option sl_V} : sl_Go xs N 139 73 [some (.inr (.inr x)), a1, a2, a3, a4, a5, a6, a7] st σ Q ↔ sl_Go xs N 139 74 [some (.inr (.inr x)), a1, a2, a3, a4, a5, a6, a7] (.inr (.inr x) :: st) σ Q := gk_aload rfl rfl
theorem g139_74 {L : sl_L} : sl_Go xs N 139 74 L st σ Q ↔ sl_Go xs N 139 75 L (.inl 0 :: st) σ Q := gk_const rfl
theorem g139_75 {L : sl_L} {o : sl_R} {x0 : Int32} : sl_Go xs N 139 75 L (.inl x0 :: .inr (.inr o) :: st) σ Q ↔ sl_cw st ≤ 8 ∧ sl_Go xs N 134 0 [some (.inr (.inr o)), some (.inl x0), none] [] σ (fun r τ => sl_Go xs N 139 78 L (r.toList ++ st) τ Q) := gk_call rfl (Nat.le_add_left 2 st.length) rfl rfl rfl
theorem g139_78 {x : Int32} {a0 a1 a2 a3 a4 a5 a6 : Option sl_V} : sl_Go xs N 139 78 [a0, a1, a2, a3, a4, a5, a6, some (.inl x)] st σ Q ↔ sl_Go xs N 139 80 [a0, a1, a2, a3, a4, a5, a6, some (.inl x)] (.inl x :: st) σ Q := gk_iload rfl rfl
theorem g139_80 {x : Int32} {a0 a1 a2 a3 a4 a6 a7 : Option sl_V} : sl_Go xs N 139 80 [a0, a1, a2, a3, a4, some (.inl x), a6, a7] st σ Q ↔ sl_Go xs N 139 82 [a0, a1, a2, a3, a4, some (.inl x), a6, a7] (.inl x :: st) σ Q := gk_iload rfl rfl
theorem g139_82 {L : sl_L} {x y : Int32} : sl_Go xs N 139 82 L (.inl y :: .inl x :: st) σ Q ↔ (y < x → sl_Go xs N 139 88 L st σ Q) ∧ (¬ y < x → sl_Go xs N 139 85 L st σ Q) := gk_igt rfl
theorem g139_85 {L : sl_L} : sl_Go xs N 139 85 L st σ Q ↔ sl_Go xs N 139 96 L st σ Q := gk_goto rfl
theorem g139_88 {x : Int32} {a0 a1 a2 a3 a4 a5 a6 : Option sl_V} : sl_Go xs N 139 88 [a0, a1, a2, a3, a4, a5, a6, some (.inl x)] st σ Q ↔ sl_Go xs N 139 90 [a0, a1, a2, a3, a4, a5, a6, some (.inl x)] (.inl x :: st) σ Q := gk_iload rfl rfl
theorem g139_90n {x : Int32} {a0 a1 a2 a3 a5 a6 a7 : Option sl_V} : sl_Go xs N 139 90 [a0, a1, a2, a3, none, a5, a6, a7] (.inl x :: st) σ Q ↔ sl_Go xs N 139 92 [a0, a1, a2, a3, none, some (.inl x), a6, a7] st σ Q := gk_istore rfl ⟨Nat.le_of_ble_eq_true rfl, rfl⟩ rfl
theorem g139_90i {x : Int32} {z : Int32} {a0 a1 a2 a3 a5 a6 a7 : Option sl_V} : sl_Go xs N 139 90 [a0, a1, a2, a3, some (.inl z), a5, a6, a7] (.inl x :: st) σ Q ↔ sl_Go xs N 139 92 [a0, a1, a2, a3, some (.inl z), some (.inl x), a6, a7] st σ Q := gk_istore rfl ⟨Nat.le_of_ble_eq_true rfl, rfl⟩ rfl
theorem g139_90r {x : Int32} {z : sl_R} {a0 a1 a2 a3 a5 a6 a7 : Option sl_V} : sl_Go xs N 139 90 [a0, a1, a2, a3, some (.inr (.inr z)), a5, a6, a7] (.inl x :: st) σ Q ↔ sl_Go xs N 139 92 [a0, a1, a2, a3, some (.inr (.inr z)), some (.inl x), a6, a7] st σ Q := gk_istore rfl ⟨Nat.le_of_ble_eq_true rfl, rfl⟩ rfl
theorem g139_92 {x : Int32} {a0 a1 a2 a3 a4 a5 a7 : Option sl_V} : sl_Go xs N 139 92 [a0, a1, a2, a3, a4, a5, some (.inl x), a7] st σ Q ↔ sl_Go xs N 139 94 [a0, a1, a2, a3, a4, a5, some (.inl x), a7] (.inl x :: st) σ Q := gk_iload rfl rfl
theorem g139_94n {x : Int32} {a0 a1 a2 a4 a5 a6 a7 : Option sl_V} : sl_Go xs N 139 94 [a0, a1, a2, none, a4, a5, a6, a7] (.inl x :: st) σ Q ↔ sl_Go xs N 139 96 [a0, a1, a2, none, some (.inl x), a5, a6, a7] st σ Q := gk_istore rfl ⟨Nat.le_of_ble_eq_true rfl, rfl⟩ rfl
theorem g139_94i {x : Int32} {z : Int32} {a0 a1 a2 a4 a5 a6 a7 : Option sl_V} : sl_Go xs N 139 94 [a0, a1, a2, some (.inl z), a4, a5, a6, a7] (.inl x :: st) σ Q ↔ sl_Go xs N 139 96 [a0, a1, a2, some (.inl z), some (.inl x), a5, a6, a7] st σ Q := gk_istore rfl ⟨Nat.le_of_ble_eq_true rfl, rfl⟩ rfl
theorem g139_94r {x : Int32} {z : sl_R} {a0 a1 a2 a4 a5 a6 a7 : Option sl_V} : sl_Go xs N 139 94 [a0, a1, a2, some (.inr (.inr z)), a4, a5, a6, a7] (.inl x :: st) σ Q ↔ sl_Go xs N 139 96 [a0, a1, a2, some (.inr (.inr z)), some (.inl x), a5, a6, a7] st σ Q := gk_istore rfl ⟨Nat.le_of_ble_eq_true rfl, rfl⟩ rfl
theorem g139_96 {x : Int32} {a0 a1 a2 a3 a4 a5 a7 : Option sl_V} : sl_Go xs N 139 96 [a0, a1, a2, a3, a4, a5, some (.inl x), a7] st σ Q ↔ sl_Go xs N 139 98 [a0, a1, a2, a3, a4, a5, some (.inl x), a7] (.inl x :: st) σ Q := gk_iload rfl rfl
theorem g139_98 {x : sl_R} {a1 a2 a3 a4 a5 a6 a7 : Option sl_V} : sl_Go xs N 139 98 [some (.inr (.inr x)), a1, a2, a3, a4, a5, a6, a7] st σ Q ↔ sl_Go xs N 139 99 [some (.inr (.inr x)), a1, a2, a3, a4, a5, a6, a7] (.inr (.inr x) :: st) σ Q := gk_aload rfl rfl
theorem g139_99 {x : Int32} {a0 a2 a3 a4 a5 a6 a7 : Option sl_V} : sl_Go xs N 139 99 [a0, some (.inl x), a2, a3, a4, a5, a6, a7] st σ Q ↔ sl_Go xs N 139 100 [a0, some (.inl x), a2, a3, a4, a5, a6, a7] (.inl x :: st) σ Q := gk_iload rfl rfl
theorem g139_100 {x : Int32} {a0 a1 a2 a4 a5 a6 a7 : Option sl_V} : sl_Go xs N 139 100 [a0, a1, a2, some (.inl x), a4, a5, a6, a7] st σ Q ↔ sl_Go xs N 139 101 [a0, a1, a2, some (.inl x), a4, a5, a6, a7] (.inl x :: st) σ Q := gk_iload rfl rfl
theorem g139_101 {L : sl_L} {o : sl_R} {x0 : Int32} {x1 : Int32} : sl_Go xs N 139 101 L (.inl x1 :: .inl x0 :: .inr (.inr o) :: st) σ Q ↔ sl_cw st ≤ 8 ∧ sl_Go xs N 138 0 [some (.inr (.inr o)), some (.inl x0), some (.inl x1), none] [] σ (fun r τ => sl_Go xs N 139 104 L (r.toList ++ st) τ Q) := gk_call rfl (Nat.le_add_left 3 st.length) rfl rfl rfl
theorem g139_104 {L : sl_L} {x y : Int32} : sl_Go xs N 139 104 L (.inl y :: .inl x :: st) σ Q ↔ sl_Go xs N 139 105 L (.inl (x + y) :: st) σ Q := gk_bin (b := 8) rfl
theorem g139_105n {x : Int32} {a0 a1 a2 a3 a4 a6 a7 : Option sl_V} : sl_Go xs N 139 105 [a0, a1, a2, a3, a4, none, a6, a7] (.inl x :: st) σ Q ↔ sl_Go xs N 139 107 [a0, a1, a2, a3, a4, none, some (.inl x), a7] st σ Q := gk_istore rfl ⟨Nat.le_of_ble_eq_true rfl, rfl⟩ rfl
theorem g139_105i {x : Int32} {z : Int32} {a0 a1 a2 a3 a4 a6 a7 : Option sl_V} : sl_Go xs N 139 105 [a0, a1, a2, a3, a4, some (.inl z), a6, a7] (.inl x :: st) σ Q ↔ sl_Go xs N 139 107 [a0, a1, a2, a3, a4, some (.inl z), some (.inl x), a7] st σ Q := gk_istore rfl ⟨Nat.le_of_ble_eq_true rfl, rfl⟩ rfl
theorem g139_105r {x : Int32} {z : sl_R} {a0 a1 a2 a3 a4 a6 a7 : Option sl_V} : sl_Go xs N 139 105 [a0, a1, a2, a3, a4, some (.inr (.inr z)), a6, a7] (.inl x :: st) σ Q ↔ sl_Go xs N 139 107 [a0, a1, a2, a3, a4, some (.inr (.inr z)), some (.inl x), a7] st σ Q := gk_istore rfl ⟨Nat.le_of_ble_eq_true rfl, rfl⟩ rfl
theorem g139_107 {L : sl_L} : sl_Go xs N 139 107 L st σ Q ↔ sl_Go xs N 139 47 L st σ Q := gk_goto rfl
theorem g139_110 {x : Int32} {a0 a1 a2 a3 a5 a6 a7 : Option sl_V} : sl_Go xs N 139 110 [a0, a1, a2, a3, some (.inl x), a5, a6, a7] st σ Q ↔ sl_Go xs N 139 112 [a0, a1, a2, a3, some (.inl x), a5, a6, a7] (.inl x :: st) σ Q := gk_iload rfl rfl
theorem g139_112 {L : sl_L} {x : Int32} : sl_Go xs N 139 112 L [.inl x] σ Q ↔ Q (some (.inl x)) σ := gk_iret rfl
theorem g140_0 {L : sl_L} : sl_Go xs N 140 0 L st σ Q ↔ sl_Go xs N 140 1 L (.inl 0 :: st) σ Q := gk_const rfl
theorem g140_1n {x : Int32} {a0 a2 a3 : Option sl_V} : sl_Go xs N 140 1 [a0, none, a2, a3] (.inl x :: st) σ Q ↔ sl_Go xs N 140 2 [a0, none, some (.inl x), a3] st σ Q := gk_istore rfl ⟨Nat.le_of_ble_eq_true rfl, rfl⟩ rfl
theorem g140_1i {x : Int32} {z : Int32} {a0 a2 a3 : Option sl_V} : sl_Go xs N 140 1 [a0, some (.inl z), a2, a3] (.inl x :: st) σ Q ↔ sl_Go xs N 140 2 [a0, some (.inl z), some (.inl x), a3] st σ Q := gk_istore rfl ⟨Nat.le_of_ble_eq_true rfl, rfl⟩ rfl
theorem g140_1r {x : Int32} {z : sl_R} {a0 a2 a3 : Option sl_V} : sl_Go xs N 140 1 [a0, some (.inr (.inr z)), a2, a3] (.inl x :: st) σ Q ↔ sl_Go xs N 140 2 [a0, some (.inr (.inr z)), some (.inl x), a3] st σ Q := gk_istore rfl ⟨Nat.le_of_ble_eq_true rfl, rfl⟩ rfl
theorem g140_2 {x : Int32} {a0 a2 a3 : Option sl_V} : sl_Go xs N 140 2 [a0, some (.inl x), a2, a3] st σ Q ↔ sl_Go xs N 140 3 [a0, some (.inl x), a2, a3] (.inl x :: st) σ Q := gk_iload rfl rfl
theorem g140_3n {x : Int32} {a0 a1 a3 : Option sl_V} : sl_Go xs N 140 3 [a0, a1, none, a3] (.inl x :: st) σ Q ↔ sl_Go xs N 140 4 [a0, a1, none, some (.inl x)] st σ Q := gk_istore rfl ⟨Nat.le_of_ble_eq_true rfl, rfl⟩ rfl
theorem g140_3i {x : Int32} {z : Int32} {a0 a1 a3 : Option sl_V} : sl_Go xs N 140 3 [a0, a1, some (.inl z), a3] (.inl x :: st) σ Q ↔ sl_Go xs N 140 4 [a0, a1, some (.inl z), some (.inl x)] st σ Q := gk_istore rfl ⟨Nat.le_of_ble_eq_true rfl, rfl⟩ rfl
theorem g140_3r {x : Int32} {z : sl_R} {a0 a1 a3 : Option sl_V} : sl_Go xs N 140 3 [a0, a1, some (.inr (.inr z)), a3] (.inl x :: st) σ Q ↔ sl_Go xs N 140 4 [a0, a1, some (.inr (.inr z)), some (.inl x)] st σ Q := gk_istore rfl ⟨Nat.le_of_ble_eq_true rfl, rfl⟩ rfl
theorem g140_4 {x : Int32} {a0 a1 a2 : Option sl_V} : sl_Go xs N 140 4 [a0, a1, a2, some (.inl x)] st σ Q ↔ sl_Go xs N 140 5 [a0, a1, a2, some (.inl x)] (.inl x :: st) σ Q := gk_iload rfl rfl
theorem g140_5 {L : sl_L} {x : Int32} : sl_Go xs N 140 5 L (.inl x :: st) σ Q ↔ (x = 0 → sl_Go xs N 140 20 L st σ Q) ∧ (¬ x = 0 → sl_Go xs N 140 8 L st σ Q) := gk_zeq rfl
theorem g140_8n {x : Int32} {a0 a3 : Option sl_V} : sl_Go xs N 140 8 [a0, none, some (.inl x), a3] st σ Q ↔ sl_Go xs N 140 11 [a0, none, some (.inl (x + 1)), a3] st σ Q := gk_iinc rfl rfl rfl rfl
theorem g140_8i {x : Int32} {z : Int32} {a0 a3 : Option sl_V} : sl_Go xs N 140 8 [a0, some (.inl z), some (.inl x), a3] st σ Q ↔ sl_Go xs N 140 11 [a0, some (.inl z), some (.inl (x + 1)), a3] st σ Q := gk_iinc rfl rfl rfl rfl
theorem g140_8r {x : Int32} {z : sl_R} {a0 a3 : Option sl_V} : sl_Go xs N 140 8 [a0, some (.inr (.inr z)), some (.inl x), a3] st σ Q ↔ sl_Go xs N 140 11 [a0, some (.inr (.inr z)), some (.inl (x + 1)), a3] st σ Q := gk_iinc rfl rfl rfl rfl
theorem g140_11 {x : Int32} {a0 a1 a2 : Option sl_V} : sl_Go xs N 140 11 [a0, a1, a2, some (.inl x)] st σ Q ↔ sl_Go xs N 140 12 [a0, a1, a2, some (.inl x)] (.inl x :: st) σ Q := gk_iload rfl rfl
theorem g140_12 {x : Int32} {a0 a1 a2 : Option sl_V} : sl_Go xs N 140 12 [a0, a1, a2, some (.inl x)] st σ Q ↔ sl_Go xs N 140 13 [a0, a1, a2, some (.inl x)] (.inl x :: st) σ Q := gk_iload rfl rfl
theorem g140_13 {L : sl_L} : sl_Go xs N 140 13 L st σ Q ↔ sl_Go xs N 140 14 L (.inl 1 :: st) σ Q := gk_const rfl
theorem g140_14 {L : sl_L} {x y : Int32} : sl_Go xs N 140 14 L (.inl y :: .inl x :: st) σ Q ↔ sl_Go xs N 140 15 L (.inl (x - y) :: st) σ Q := gk_bin (b := 9) rfl
theorem g140_15 {L : sl_L} {x y : Int32} : sl_Go xs N 140 15 L (.inl y :: .inl x :: st) σ Q ↔ sl_Go xs N 140 16 L (.inl (x &&& y) :: st) σ Q := gk_bin (b := 11) rfl
theorem g140_16n {x : Int32} {a0 a1 a3 : Option sl_V} : sl_Go xs N 140 16 [a0, a1, none, a3] (.inl x :: st) σ Q ↔ sl_Go xs N 140 17 [a0, a1, none, some (.inl x)] st σ Q := gk_istore rfl ⟨Nat.le_of_ble_eq_true rfl, rfl⟩ rfl
theorem g140_16i {x : Int32} {z : Int32} {a0 a1 a3 : Option sl_V} : sl_Go xs N 140 16 [a0, a1, some (.inl z), a3] (.inl x :: st) σ Q ↔ sl_Go xs N 140 17 [a0, a1, some (.inl z), some (.inl x)] st σ Q := gk_istore rfl ⟨Nat.le_of_ble_eq_true rfl, rfl⟩ rfl
theorem g140_16r {x : Int32} {z : sl_R} {a0 a1 a3 : Option sl_V} : sl_Go xs N 140 16 [a0, a1, some (.inr (.inr z)), a3] (.inl x :: st) σ Q ↔ sl_Go xs N 140 17 [a0, a1, some (.inr (.inr z)), some (.inl x)] st σ Q := gk_istore rfl ⟨Nat.le_of_ble_eq_true rfl, rfl⟩ rfl
theorem g140_17 {L : sl_L} : sl_Go xs N 140 17 L st σ Q ↔ sl_Go xs N 140 4 L st σ Q := gk_goto rfl
theorem g140_20 {x : Int32} {a0 a1 a3 : Option sl_V} : sl_Go xs N 140 20 [a0, a1, some (.inl x), a3] st σ Q ↔ sl_Go xs N 140 21 [a0, a1, some (.inl x), a3] (.inl x :: st) σ Q := gk_iload rfl rfl
theorem g140_21 {L : sl_L} {x : Int32} : sl_Go xs N 140 21 L [.inl x] σ Q ↔ Q (some (.inl x)) σ := gk_iret rfl
theorem g141_0 {x : sl_R} {a1 a2 a3 a4 a5 a6 a7 a8 : Option sl_V} : sl_Go xs N 141 0 [some (.inr (.inr x)), a1, a2, a3, a4, a5, a6, a7, a8] st σ Q ↔ sl_Go xs N 141 1 [some (.inr (.inr x)), a1, a2, a3, a4, a5, a6, a7, a8] (.inr (.inr x) :: st) σ Q := gk_aload rfl rfl
theorem g141_1 {x : Int32} {a0 a2 a3 a4 a5 a6 a7 a8 : Option sl_V} : sl_Go xs N 141 1 [a0, some (.inl x), a2, a3, a4, a5, a6, a7, a8] st σ Q ↔ sl_Go xs N 141 2 [a0, some (.inl x), a2, a3, a4, a5, a6, a7, a8] (.inl x :: st) σ Q := gk_iload rfl rfl
theorem g141_2 {L : sl_L} {o : sl_R} {x0 : Int32} : sl_Go xs N 141 2 L (.inl x0 :: .inr (.inr o) :: st) σ Q ↔ sl_cw st ≤ 8 ∧ sl_Go xs N 93 0 [some (.inr (.inr o)), some (.inl x0)] [] σ (fun r τ => sl_Go xs N 141 5 L (r.toList ++ st) τ Q) := gk_call rfl (Nat.le_add_left 2 st.length) rfl rfl rfl
theorem g141_5 {L : sl_L} {x : Int32} : sl_Go xs N 141 5 L (.inl x :: st) σ Q ↔ (x = 0 → sl_Go xs N 141 24 L st σ Q) ∧ (¬ x = 0 → sl_Go xs N 141 8 L st σ Q) := gk_zeq rfl
theorem g141_8 {x : sl_R} {a1 a2 a3 a4 a5 a6 a7 a8 : Option sl_V} : sl_Go xs N 141 8 [some (.inr (.inr x)), a1, a2, a3, a4, a5, a6, a7, a8] st σ Q ↔ sl_Go xs N 141 9 [some (.inr (.inr x)), a1, a2, a3, a4, a5, a6, a7, a8] (.inr (.inr x) :: st) σ Q := gk_aload rfl rfl
theorem g141_9 {x : Int32} {a0 a1 a3 a4 a5 a6 a7 a8 : Option sl_V} : sl_Go xs N 141 9 [a0, a1, some (.inl x), a3, a4, a5, a6, a7, a8] st σ Q ↔ sl_Go xs N 141 10 [a0, a1, some (.inl x), a3, a4, a5, a6, a7, a8] (.inl x :: st) σ Q := gk_iload rfl rfl
theorem g141_10 {L : sl_L} {o : sl_R} {x0 : Int32} : sl_Go xs N 141 10 L (.inl x0 :: .inr (.inr o) :: st) σ Q ↔ sl_cw st ≤ 8 ∧ sl_Go xs N 151 0 [some (.inr (.inr o)), some (.inl x0)] [] σ (fun r τ => sl_Go xs N 141 13 L (r.toList ++ st) τ Q) := gk_call rfl (Nat.le_add_left 2 st.length) rfl rfl rfl
theorem g141_13 {L : sl_L} {x : Int32} : sl_Go xs N 141 13 L (.inl x :: st) σ Q ↔ (x = 0 → sl_Go xs N 141 24 L st σ Q) ∧ (¬ x = 0 → sl_Go xs N 141 16 L st σ Q) := gk_zeq rfl
theorem g141_16 {x : sl_R} {a1 a2 a3 a4 a5 a6 a7 a8 : Option sl_V} : sl_Go xs N 141 16 [some (.inr (.inr x)), a1, a2, a3, a4, a5, a6, a7, a8] st σ Q ↔ sl_Go xs N 141 17 [some (.inr (.inr x)), a1, a2, a3, a4, a5, a6, a7, a8] (.inr (.inr x) :: st) σ Q := gk_aload rfl rfl
theorem g141_17 {x : Int32} {a0 a1 a2 a4 a5 a6 a7 a8 : Option sl_V} : sl_Go xs N 141 17 [a0, a1, a2, some (.inl x), a4, a5, a6, a7, a8] st σ Q ↔ sl_Go xs N 141 18 [a0, a1, a2, some (.inl x), a4, a5, a6, a7, a8] (.inl x :: st) σ Q := gk_iload rfl rfl
theorem g141_18 {L : sl_L} {o : sl_R} {x0 : Int32} : sl_Go xs N 141 18 L (.inl x0 :: .inr (.inr o) :: st) σ Q ↔ sl_cw st ≤ 8 ∧ sl_Go xs N 136 0 [some (.inr (.inr o)), some (.inl x0)] [] σ (fun r τ => sl_Go xs N 141 21 L (r.toList ++ st) τ Q) := gk_call rfl (Nat.le_add_left 2 st.length) rfl rfl rfl
theorem g141_21 {L : sl_L} {x : Int32} : sl_Go xs N 141 21 L (.inl x :: st) σ Q ↔ (¬ x = 0 → sl_Go xs N 141 26 L st σ Q) ∧ (x = 0 → sl_Go xs N 141 24 L st σ Q) := gk_zne rfl
theorem g141_24 {L : sl_L} : sl_Go xs N 141 24 L st σ Q ↔ sl_Go xs N 141 25 L (.inl (-1) :: st) σ Q := gk_const rfl
theorem g141_25 {L : sl_L} {x : Int32} : sl_Go xs N 141 25 L [.inl x] σ Q ↔ Q (some (.inl x)) σ := gk_iret rfl
theorem g141_26 {x : sl_R} {a1 a2 a3 a4 a5 a6 a7 a8 : Option sl_V} : sl_Go xs N 141 26 [some (.inr (.inr x)), a1, a2, a3, a4, a5, a6, a7, a8] st σ Q ↔ sl_Go xs N 141 27 [some (.inr (.inr x)), a1, a2, a3, a4, a5, a6, a7, a8] (.inr (.inr x) :: st) σ Q := gk_aload rfl rfl
theorem g141_27 {L : sl_L} {i t : Nat} : sl_Go xs N 141 27 L (.inr (.inr (40, i, t)) :: st) σ Q ↔ sl_Go xs N 141 30 L (.inr (.inr (72, 0, 0)) :: st) σ Q := gk_get (g := .inr (72, 0, 0)) rfl rfl rfl
theorem g141_30 {x : Int32} {a0 a1 a3 a4 a5 a6 a7 a8 : Option sl_V} : sl_Go xs N 141 30 [a0, a1, some (.inl x), a3, a4, a5, a6, a7, a8] st σ Q ↔ sl_Go xs N 141 31 [a0, a1, some (.inl x), a3, a4, a5, a6, a7, a8] (.inl x :: st) σ Q := gk_iload rfl rfl
theorem g141_31 {L : sl_L} {j : Int32} {r : sl_R} : sl_Go xs N 141 31 L (.inl j :: .inr (.inr r) :: st) σ Q ↔ (0 ≤ j.toInt ∧ j.toInt < sl_ilen N r) ∧ sl_Go xs N 141 32 L (.inl (sl_rd xs σ r j.toNatClampNeg) :: st) σ Q := gk_iald rfl
theorem g141_32 {L : sl_L} {x : Int32} : sl_Go xs N 141 32 L (.inl x :: st) σ Q ↔ (0 ≤ x → sl_Go xs N 141 38 L st σ Q) ∧ (¬ 0 ≤ x → sl_Go xs N 141 35 L st σ Q) := gk_zge rfl
theorem g141_35 {L : sl_L} : sl_Go xs N 141 35 L st σ Q ↔ sl_Go xs N 141 37 L (.inl (-11) :: st) σ Q := gk_const rfl
theorem g141_37 {L : sl_L} {x : Int32} : sl_Go xs N 141 37 L [.inl x] σ Q ↔ Q (some (.inl x)) σ := gk_iret rfl
theorem g141_38 {x : sl_R} {a1 a2 a3 a4 a5 a6 a7 a8 : Option sl_V} : sl_Go xs N 141 38 [some (.inr (.inr x)), a1, a2, a3, a4, a5, a6, a7, a8] st σ Q ↔ sl_Go xs N 141 39 [some (.inr (.inr x)), a1, a2, a3, a4, a5, a6, a7, a8] (.inr (.inr x) :: st) σ Q := gk_aload rfl rfl
theorem g141_39 {L : sl_L} {i t : Nat} : sl_Go xs N 141 39 L (.inr (.inr (40, i, t)) :: st) σ Q ↔ sl_Go xs N 141 42 L (.inr (.inr (73, 0, 0)) :: st) σ Q := gk_get (g := .inr (73, 0, 0)) rfl rfl rfl
theorem g141_42 {x : Int32} {a0 a1 a3 a4 a5 a6 a7 a8 : Option sl_V} : sl_Go xs N 141 42 [a0, a1, some (.inl x), a3, a4, a5, a6, a7, a8] st σ Q ↔ sl_Go xs N 141 43 [a0, a1, some (.inl x), a3, a4, a5, a6, a7, a8] (.inl x :: st) σ Q := gk_iload rfl rfl
theorem g141_43 {L : sl_L} {j : Int32} {r : sl_R} : sl_Go xs N 141 43 L (.inl j :: .inr (.inr r) :: st) σ Q ↔ (0 ≤ j.toInt ∧ j.toInt < sl_ilen N r) ∧ sl_Go xs N 141 44 L (.inl (sl_rd xs σ r j.toNatClampNeg) :: st) σ Q := gk_iald rfl
theorem g141_44 {L : sl_L} : sl_Go xs N 141 44 L st σ Q ↔ sl_Go xs N 141 46 L (.inl 6 :: st) σ Q := gk_const rfl
theorem g141_46 {L : sl_L} {x y : Int32} : sl_Go xs N 141 46 L (.inl y :: .inl x :: st) σ Q ↔ (y < x → sl_Go xs N 141 61 L st σ Q) ∧ (¬ y < x → sl_Go xs N 141 49 L st σ Q) := gk_igt rfl
theorem g141_49 {x : sl_R} {a1 a2 a3 a4 a5 a6 a7 a8 : Option sl_V} : sl_Go xs N 141 49 [some (.inr (.inr x)), a1, a2, a3, a4, a5, a6, a7, a8] st σ Q ↔ sl_Go xs N 141 50 [some (.inr (.inr x)), a1, a2, a3, a4, a5, a6, a7, a8] (.inr (.inr x) :: st) σ Q := gk_aload rfl rfl
theorem g141_50 {x : Int32} {a0 a1 a2 a3 a5 a6 a7 a8 : Option sl_V} : sl_Go xs N 141 50 [a0, a1, a2, a3, some (.inl x), a5, a6, a7, a8] st σ Q ↔ sl_Go xs N 141 52 [a0, a1, a2, a3, some (.inl x), a5, a6, a7, a8] (.inl x :: st) σ Q := gk_iload rfl rfl
theorem g141_52 {L : sl_L} : sl_Go xs N 141 52 L st σ Q ↔ sl_Go xs N 141 53 L (.inl 0 :: st) σ Q := gk_const rfl
theorem g141_53 {L : sl_L} : sl_Go xs N 141 53 L st σ Q ↔ sl_Go xs N 141 55 L (.inl 6 :: st) σ Q := gk_const rfl
theorem g141_55 {L : sl_L} {o : sl_R} {x0 : Int32} {x1 : Int32} {x2 : Int32} : sl_Go xs N 141 55 L (.inl x2 :: .inl x1 :: .inl x0 :: .inr (.inr o) :: st) σ Q ↔ sl_cw st ≤ 8 ∧ sl_Go xs N 91 0 [some (.inr (.inr o)), some (.inl x0), some (.inl x1), some (.inl x2)] [] σ (fun r τ => sl_Go xs N 141 58 L (r.toList ++ st) τ Q) := gk_call rfl (Nat.le_add_left 4 st.length) rfl rfl rfl
theorem g141_58 {L : sl_L} {x : Int32} : sl_Go xs N 141 58 L (.inl x :: st) σ Q ↔ (¬ x = 0 → sl_Go xs N 141 64 L st σ Q) ∧ (x = 0 → sl_Go xs N 141 61 L st σ Q) := gk_zne rfl
theorem g141_61 {L : sl_L} : sl_Go xs N 141 61 L st σ Q ↔ sl_Go xs N 141 63 L (.inl (-2) :: st) σ Q := gk_const rfl
theorem g141_63 {L : sl_L} {x : Int32} : sl_Go xs N 141 63 L [.inl x] σ Q ↔ Q (some (.inl x)) σ := gk_iret rfl
theorem g141_64 {L : sl_L} : sl_Go xs N 141 64 L st σ Q ↔ sl_Go xs N 141 65 L (.inl 0 :: st) σ Q := gk_const rfl
theorem g141_65n {x : Int32} {a0 a1 a2 a3 a5 a6 a7 a8 : Option sl_V} : sl_Go xs N 141 65 [a0, a1, a2, a3, none, a5, a6, a7, a8] (.inl x :: st) σ Q ↔ sl_Go xs N 141 67 [a0, a1, a2, a3, none, some (.inl x), a6, a7, a8] st σ Q := gk_istore rfl ⟨Nat.le_of_ble_eq_true rfl, rfl⟩ rfl
theorem g141_65i {x : Int32} {z : Int32} {a0 a1 a2 a3 a5 a6 a7 a8 : Option sl_V} : sl_Go xs N 141 65 [a0, a1, a2, a3, some (.inl z), a5, a6, a7, a8] (.inl x :: st) σ Q ↔ sl_Go xs N 141 67 [a0, a1, a2, a3, some (.inl z), some (.inl x), a6, a7, a8] st σ Q := gk_istore rfl ⟨Nat.le_of_ble_eq_true rfl, rfl⟩ rfl
theorem g141_65r {x : Int32} {z : sl_R} {a0 a1 a2 a3 a5 a6 a7 a8 : Option sl_V} : sl_Go xs N 141 65 [a0, a1, a2, a3, some (.inr (.inr z)), a5, a6, a7, a8] (.inl x :: st) σ Q ↔ sl_Go xs N 141 67 [a0, a1, a2, a3, some (.inr (.inr z)), some (.inl x), a6, a7, a8] st σ Q := gk_istore rfl ⟨Nat.le_of_ble_eq_true rfl, rfl⟩ rfl
theorem g141_67 {x : Int32} {a0 a1 a2 a3 a4 a6 a7 a8 : Option sl_V} : sl_Go xs N 141 67 [a0, a1, a2, a3, a4, some (.inl x), a6, a7, a8] st σ Q ↔ sl_Go xs N 141 69 [a0, a1, a2, a3, a4, some (.inl x), a6, a7, a8] (.inl x :: st) σ Q := gk_iload rfl rfl
theorem g141_69 {x : sl_R} {a1 a2 a3 a4 a5 a6 a7 a8 : Option sl_V} : sl_Go xs N 141 69 [some (.inr (.inr x)), a1, a2, a3, a4, a5, a6, a7, a8] st σ Q ↔ sl_Go xs N 141 70 [some (.inr (.inr x)), a1, a2, a3, a4, a5, a6, a7, a8] (.inr (.inr x) :: st) σ Q := gk_aload rfl rfl
theorem g141_70 {L : sl_L} {i t : Nat} : sl_Go xs N 141 70 L (.inr (.inr (40, i, t)) :: st) σ Q ↔ sl_Go xs N 141 73 L (.inr (.inr (73, 0, 0)) :: st) σ Q := gk_get (g := .inr (73, 0, 0)) rfl rfl rfl
theorem g141_73 {x : Int32} {a0 a1 a3 a4 a5 a6 a7 a8 : Option sl_V} : sl_Go xs N 141 73 [a0, a1, some (.inl x), a3, a4, a5, a6, a7, a8] st σ Q ↔ sl_Go xs N 141 74 [a0, a1, some (.inl x), a3, a4, a5, a6, a7, a8] (.inl x :: st) σ Q := gk_iload rfl rfl
theorem g141_74 {L : sl_L} {j : Int32} {r : sl_R} : sl_Go xs N 141 74 L (.inl j :: .inr (.inr r) :: st) σ Q ↔ (0 ≤ j.toInt ∧ j.toInt < sl_ilen N r) ∧ sl_Go xs N 141 75 L (.inl (sl_rd xs σ r j.toNatClampNeg) :: st) σ Q := gk_iald rfl
theorem g141_75 {L : sl_L} {x y : Int32} : sl_Go xs N 141 75 L (.inl y :: .inl x :: st) σ Q ↔ (y ≤ x → sl_Go xs N 141 107 L st σ Q) ∧ (¬ y ≤ x → sl_Go xs N 141 78 L st σ Q) := gk_ige rfl
theorem g141_78 {x : sl_R} {a1 a2 a3 a4 a5 a6 a7 a8 : Option sl_V} : sl_Go xs N 141 78 [some (.inr (.inr x)), a1, a2, a3, a4, a5, a6, a7, a8] st σ Q ↔ sl_Go xs N 141 79 [some (.inr (.inr x)), a1, a2, a3, a4, a5, a6, a7, a8] (.inr (.inr x) :: st) σ Q := gk_aload rfl rfl
theorem g141_79 {x : Int32} {a0 a2 a3 a4 a5 a6 a7 a8 : Option sl_V} : sl_Go xs N 141 79 [a0, some (.inl x), a2, a3, a4, a5, a6, a7, a8] st σ Q ↔ sl_Go xs N 141 80 [a0, some (.inl x), a2, a3, a4, a5, a6, a7, a8] (.inl x :: st) σ Q := gk_iload rfl rfl
theorem g141_80 {x : sl_R} {a1 a2 a3 a4 a5 a6 a7 a8 : Option sl_V} : sl_Go xs N 141 80 [some (.inr (.inr x)), a1, a2, a3, a4, a5, a6, a7, a8] st σ Q ↔ sl_Go xs N 141 81 [some (.inr (.inr x)), a1, a2, a3, a4, a5, a6, a7, a8] (.inr (.inr x) :: st) σ Q := gk_aload rfl rfl
theorem g141_81 {L : sl_L} {i t : Nat} : sl_Go xs N 141 81 L (.inr (.inr (40, i, t)) :: st) σ Q ↔ sl_Go xs N 141 84 L (.inr (.inr (74, 0, 0)) :: st) σ Q := gk_get (g := .inr (74, 0, 0)) rfl rfl rfl
theorem g141_84 {L : sl_L} : sl_Go xs N 141 84 L st σ Q ↔ sl_Go xs N 141 86 L (.inl 40 :: st) σ Q := gk_const rfl
theorem g141_86 {x : Int32} {a0 a1 a3 a4 a5 a6 a7 a8 : Option sl_V} : sl_Go xs N 141 86 [a0, a1, some (.inl x), a3, a4, a5, a6, a7, a8] st σ Q ↔ sl_Go xs N 141 87 [a0, a1, some (.inl x), a3, a4, a5, a6, a7, a8] (.inl x :: st) σ Q := gk_iload rfl rfl
theorem g141_87 {L : sl_L} {x y : Int32} : sl_Go xs N 141 87 L (.inl y :: .inl x :: st) σ Q ↔ sl_Go xs N 141 88 L (.inl (x * y) :: st) σ Q := gk_bin (b := 10) rfl
theorem g141_88 {x : Int32} {a0 a1 a2 a3 a4 a6 a7 a8 : Option sl_V} : sl_Go xs N 141 88 [a0, a1, a2, a3, a4, some (.inl x), a6, a7, a8] st σ Q ↔ sl_Go xs N 141 90 [a0, a1, a2, a3, a4, some (.inl x), a6, a7, a8] (.inl x :: st) σ Q := gk_iload rfl rfl
theorem g141_90 {L : sl_L} {x y : Int32} : sl_Go xs N 141 90 L (.inl y :: .inl x :: st) σ Q ↔ sl_Go xs N 141 91 L (.inl (x + y) :: st) σ Q := gk_bin (b := 8) rfl
theorem g141_91 {L : sl_L} {j : Int32} {r : sl_R} : sl_Go xs N 141 91 L (.inl j :: .inr (.inr r) :: st) σ Q ↔ (0 ≤ j.toInt ∧ j.toInt < sl_ilen N r) ∧ sl_Go xs N 141 92 L (.inl (sl_rd xs σ r j.toNatClampNeg) :: st) σ Q := gk_iald rfl
theorem g141_92 {L : sl_L} {o : sl_R} {x0 : Int32} {x1 : Int32} : sl_Go xs N 141 92 L (.inl x1 :: .inl x0 :: .inr (.inr o) :: st) σ Q ↔ sl_cw st ≤ 8 ∧ sl_Go xs N 100 0 [some (.inr (.inr o)), some (.inl x0), some (.inl x1)] [] σ (fun r τ => sl_Go xs N 141 95 L (r.toList ++ st) τ Q) := gk_call rfl (Nat.le_add_left 3 st.length) rfl rfl rfl
theorem g141_95 {L : sl_L} {x : Int32} : sl_Go xs N 141 95 L (.inl x :: st) σ Q ↔ (¬ x = 0 → sl_Go xs N 141 101 L st σ Q) ∧ (x = 0 → sl_Go xs N 141 98 L st σ Q) := gk_zne rfl
theorem g141_98 {L : sl_L} : sl_Go xs N 141 98 L st σ Q ↔ sl_Go xs N 141 100 L (.inl (-2) :: st) σ Q := gk_const rfl
theorem g141_100 {L : sl_L} {x : Int32} : sl_Go xs N 141 100 L [.inl x] σ Q ↔ Q (some (.inl x)) σ := gk_iret rfl
theorem g141_101n {x : Int32} {a0 a1 a2 a3 a6 a7 a8 : Option sl_V} : sl_Go xs N 141 101 [a0, a1, a2, a3, none, some (.inl x), a6, a7, a8] st σ Q ↔ sl_Go xs N 141 104 [a0, a1, a2, a3, none, some (.inl (x + 1)), a6, a7, a8] st σ Q := gk_iinc rfl rfl rfl rfl
theorem g141_101i {x : Int32} {z : Int32} {a0 a1 a2 a3 a6 a7 a8 : Option sl_V} : sl_Go xs N 141 101 [a0, a1, a2, a3, some (.inl z), some (.inl x), a6, a7, a8] st σ Q ↔ sl_Go xs N 141 104 [a0, a1, a2, a3, some (.inl z), some (.inl (x + 1)), a6, a7, a8] st σ Q := gk_iinc rfl rfl rfl rfl
theorem g141_101r {x : Int32} {z : sl_R} {a0 a1 a2 a3 a6 a7 a8 : Option sl_V} : sl_Go xs N 141 101 [a0, a1, a2, a3, some (.inr (.inr z)), some (.inl x), a6, a7, a8] st σ Q ↔ sl_Go xs N 141 104 [a0, a1, a2, a3, some (.inr (.inr z)), some (.inl (x + 1)), a6, a7, a8] st σ Q := gk_iinc rfl rfl rfl rfl
theorem g141_104 {L : sl_L} : sl_Go xs N 141 104 L st σ Q ↔ sl_Go xs N 141 67 L st σ Q := gk_goto rfl
theorem g141_107 {L : sl_L} : sl_Go xs N 141 107 L st σ Q ↔ sl_Go xs N 141 108 L (.inl 0 :: st) σ Q := gk_const rfl
theorem g141_108n {x : Int32} {a0 a1 a2 a3 a5 a6 a7 a8 : Option sl_V} : sl_Go xs N 141 108 [a0, a1, a2, a3, none, a5, a6, a7, a8] (.inl x :: st) σ Q ↔ sl_Go xs N 141 110 [a0, a1, a2, a3, none, some (.inl x), a6, a7, a8] st σ Q := gk_istore rfl ⟨Nat.le_of_ble_eq_true rfl, rfl⟩ rfl
theorem g141_108i {x : Int32} {z : Int32} {a0 a1 a2 a3 a5 a6 a7 a8 : Option sl_V} : sl_Go xs N 141 108 [a0, a1, a2, a3, some (.inl z), a5, a6, a7, a8] (.inl x :: st) σ Q ↔ sl_Go xs N 141 110 [a0, a1, a2, a3, some (.inl z), some (.inl x), a6, a7, a8] st σ Q := gk_istore rfl ⟨Nat.le_of_ble_eq_true rfl, rfl⟩ rfl
theorem g141_108r {x : Int32} {z : sl_R} {a0 a1 a2 a3 a5 a6 a7 a8 : Option sl_V} : sl_Go xs N 141 108 [a0, a1, a2, a3, some (.inr (.inr z)), a5, a6, a7, a8] (.inl x :: st) σ Q ↔ sl_Go xs N 141 110 [a0, a1, a2, a3, some (.inr (.inr z)), some (.inl x), a6, a7, a8] st σ Q := gk_istore rfl ⟨Nat.le_of_ble_eq_true rfl, rfl⟩ rfl
theorem g141_110 {x : Int32} {a0 a1 a2 a3 a4 a6 a7 a8 : Option sl_V} : sl_Go xs N 141 110 [a0, a1, a2, a3, a4, some (.inl x), a6, a7, a8] st σ Q ↔ sl_Go xs N 141 112 [a0, a1, a2, a3, a4, some (.inl x), a6, a7, a8] (.inl x :: st) σ Q := gk_iload rfl rfl
theorem g141_112 {L : sl_L} : sl_Go xs N 141 112 L st σ Q ↔ sl_Go xs N 141 114 L (.inl 12 :: st) σ Q := gk_const rfl
theorem g141_114 {L : sl_L} {x y : Int32} : sl_Go xs N 141 114 L (.inl y :: .inl x :: st) σ Q ↔ (y ≤ x → sl_Go xs N 141 142 L st σ Q) ∧ (¬ y ≤ x → sl_Go xs N 141 117 L st σ Q) := gk_ige rfl
theorem g141_117 {x : sl_R} {a1 a2 a3 a4 a5 a6 a7 a8 : Option sl_V} : sl_Go xs N 141 117 [some (.inr (.inr x)), a1, a2, a3, a4, a5, a6, a7, a8] st σ Q ↔ sl_Go xs N 141 118 [some (.inr (.inr x)), a1, a2, a3, a4, a5, a6, a7, a8] (.inr (.inr x) :: st) σ Q := gk_aload rfl rfl
theorem g141_118 {L : sl_L} {i t : Nat} : sl_Go xs N 141 118 L (.inr (.inr (40, i, t)) :: st) σ Q ↔ sl_Go xs N 141 121 L (.inr (.inr (62, 0, 0)) :: st) σ Q := gk_get (g := .inr (62, 0, 0)) rfl rfl rfl
theorem g141_121 {x : Int32} {a0 a1 a2 a3 a4 a6 a7 a8 : Option sl_V} : sl_Go xs N 141 121 [a0, a1, a2, a3, a4, some (.inl x), a6, a7, a8] st σ Q ↔ sl_Go xs N 141 123 [a0, a1, a2, a3, a4, some (.inl x), a6, a7, a8] (.inl x :: st) σ Q := gk_iload rfl rfl
theorem g141_123 {x : sl_R} {a1 a2 a3 a4 a5 a6 a7 a8 : Option sl_V} : sl_Go xs N 141 123 [some (.inr (.inr x)), a1, a2, a3, a4, a5, a6, a7, a8] st σ Q ↔ sl_Go xs N 141 124 [some (.inr (.inr x)), a1, a2, a3, a4, a5, a6, a7, a8] (.inr (.inr x) :: st) σ Q := gk_aload rfl rfl
theorem g141_124 {L : sl_L} {i t : Nat} : sl_Go xs N 141 124 L (.inr (.inr (40, i, t)) :: st) σ Q ↔ sl_Go xs N 141 127 L (.inr (.inr (51, 0, 0)) :: st) σ Q := gk_get (g := .inr (51, 0, 0)) rfl rfl rfl
theorem g141_127 {L : sl_L} : sl_Go xs N 141 127 L st σ Q ↔ sl_Go xs N 141 129 L (.inl 12 :: st) σ Q := gk_const rfl
theorem g141_129 {x : Int32} {a0 a2 a3 a4 a5 a6 a7 a8 : Option sl_V} : sl_Go xs N 141 129 [a0, some (.inl x), a2, a3, a4, a5, a6, a7, a8] st σ Q ↔ sl_Go xs N 141 130 [a0, some (.inl x), a2, a3, a4, a5, a6, a7, a8] (.inl x :: st) σ Q := gk_iload rfl rfl
theorem g141_130 {L : sl_L} {x y : Int32} : sl_Go xs N 141 130 L (.inl y :: .inl x :: st) σ Q ↔ sl_Go xs N 141 131 L (.inl (x * y) :: st) σ Q := gk_bin (b := 10) rfl
theorem g141_131 {x : Int32} {a0 a1 a2 a3 a4 a6 a7 a8 : Option sl_V} : sl_Go xs N 141 131 [a0, a1, a2, a3, a4, some (.inl x), a6, a7, a8] st σ Q ↔ sl_Go xs N 141 133 [a0, a1, a2, a3, a4, some (.inl x), a6, a7, a8] (.inl x :: st) σ Q := gk_iload rfl rfl
theorem g141_133 {L : sl_L} {x y : Int32} : sl_Go xs N 141 133 L (.inl y :: .inl x :: st) σ Q ↔ sl_Go xs N 141 134 L (.inl (x + y) :: st) σ Q := gk_bin (b := 8) rfl
theorem g141_134 {L : sl_L} {j : Int32} {r : sl_R} : sl_Go xs N 141 134 L (.inl j :: .inr (.inr r) :: st) σ Q ↔ (0 ≤ j.toInt ∧ j.toInt < sl_wlen r 2) ∧ sl_Go xs N 141 135 L (.inl (sl_rd xs σ r j.toNatClampNeg) :: st) σ Q := gk_bald rfl
theorem g141_135 {L : sl_L} {j x : Int32} {r : sl_R} : sl_Go xs N 141 135 L (.inl x :: .inl j :: .inr (.inr r) :: st) σ Q ↔ ((0 ≤ j.toInt ∧ j.toInt < sl_wlen r 2) ∧ (x = 0 ∨ x = 1)) ∧ sl_Go xs N 141 136 L st (sl_wr σ r j.toNatClampNeg x) Q := gk_zast rfl
theorem g141_136n {x : Int32} {a0 a1 a2 a3 a6 a7 a8 : Option sl_V} : sl_Go xs N 141 136 [a0, a1, a2, a3, none, some (.inl x), a6, a7, a8] st σ Q ↔ sl_Go xs N 141 139 [a0, a1, a2, a3, none, some (.inl (x + 1)), a6, a7, a8] st σ Q := gk_iinc rfl rfl rfl rfl
theorem g141_136i {x : Int32} {z : Int32} {a0 a1 a2 a3 a6 a7 a8 : Option sl_V} : sl_Go xs N 141 136 [a0, a1, a2, a3, some (.inl z), some (.inl x), a6, a7, a8] st σ Q ↔ sl_Go xs N 141 139 [a0, a1, a2, a3, some (.inl z), some (.inl (x + 1)), a6, a7, a8] st σ Q := gk_iinc rfl rfl rfl rfl
theorem g141_136r {x : Int32} {z : sl_R} {a0 a1 a2 a3 a6 a7 a8 : Option sl_V} : sl_Go xs N 141 136 [a0, a1, a2, a3, some (.inr (.inr z)), some (.inl x), a6, a7, a8] st σ Q ↔ sl_Go xs N 141 139 [a0, a1, a2, a3, some (.inr (.inr z)), some (.inl (x + 1)), a6, a7, a8] st σ Q := gk_iinc rfl rfl rfl rfl
theorem g141_139 {L : sl_L} : sl_Go xs N 141 139 L st σ Q ↔ sl_Go xs N 141 110 L st σ Q := gk_goto rfl
theorem g141_142 {L : sl_L} : sl_Go xs N 141 142 L st σ Q ↔ sl_Go xs N 141 143 L (.inl (-1) :: st) σ Q := gk_const rfl
theorem g141_143n {x : Int32} {a0 a1 a2 a3 a5 a6 a7 a8 : Option sl_V} : sl_Go xs N 141 143 [a0, a1, a2, a3, none, a5, a6, a7, a8] (.inl x :: st) σ Q ↔ sl_Go xs N 141 145 [a0, a1, a2, a3, none, some (.inl x), a6, a7, a8] st σ Q := gk_istore rfl ⟨Nat.le_of_ble_eq_true rfl, rfl⟩ rfl
theorem g141_143i {x : Int32} {z : Int32} {a0 a1 a2 a3 a5 a6 a7 a8 : Option sl_V} : sl_Go xs N 141 143 [a0, a1, a2, a3, some (.inl z), a5, a6, a7, a8] (.inl x :: st) σ Q ↔ sl_Go xs N 141 145 [a0, a1, a2, a3, some (.inl z), some (.inl x), a6, a7, a8] st σ Q := gk_istore rfl ⟨Nat.le_of_ble_eq_true rfl, rfl⟩ rfl
theorem g141_143r {x : Int32} {z : sl_R} {a0 a1 a2 a3 a5 a6 a7 a8 : Option sl_V} : sl_Go xs N 141 143 [a0, a1, a2, a3, some (.inr (.inr z)), a5, a6, a7, a8] (.inl x :: st) σ Q ↔ sl_Go xs N 141 145 [a0, a1, a2, a3, some (.inr (.inr z)), some (.inl x), a6, a7, a8] st σ Q := gk_istore rfl ⟨Nat.le_of_ble_eq_true rfl, rfl⟩ rfl
theorem g141_145 {L : sl_L} : sl_Go xs N 141 145 L st σ Q ↔ sl_Go xs N 141 146 L (.inl 0 :: st) σ Q := gk_const rfl
theorem g141_146n {x : Int32} {a0 a1 a2 a3 a4 a6 a7 a8 : Option sl_V} : sl_Go xs N 141 146 [a0, a1, a2, a3, a4, none, a6, a7, a8] (.inl x :: st) σ Q ↔ sl_Go xs N 141 148 [a0, a1, a2, a3, a4, none, some (.inl x), a7, a8] st σ Q := gk_istore rfl ⟨Nat.le_of_ble_eq_true rfl, rfl⟩ rfl
theorem g141_146i {x : Int32} {z : Int32} {a0 a1 a2 a3 a4 a6 a7 a8 : Option sl_V} : sl_Go xs N 141 146 [a0, a1, a2, a3, a4, some (.inl z), a6, a7, a8] (.inl x :: st) σ Q ↔ sl_Go xs N 141 148 [a0, a1, a2, a3, a4, some (.inl z), some (.inl x), a7, a8] st σ Q := gk_istore rfl ⟨Nat.le_of_ble_eq_true rfl, rfl⟩ rfl
theorem g141_146r {x : Int32} {z : sl_R} {a0 a1 a2 a3 a4 a6 a7 a8 : Option sl_V} : sl_Go xs N 141 146 [a0, a1, a2, a3, a4, some (.inr (.inr z)), a6, a7, a8] (.inl x :: st) σ Q ↔ sl_Go xs N 141 148 [a0, a1, a2, a3, a4, some (.inr (.inr z)), some (.inl x), a7, a8] st σ Q := gk_istore rfl ⟨Nat.le_of_ble_eq_true rfl, rfl⟩ rfl
theorem g141_148 {x : sl_R} {a1 a2 a3 a4 a5 a6 a7 a8 : Option sl_V} : sl_Go xs N 141 148 [some (.inr (.inr x)), a1, a2, a3, a4, a5, a6, a7, a8] st σ Q ↔ sl_Go xs N 141 149 [some (.inr (.inr x)), a1, a2, a3, a4, a5, a6, a7, a8] (.inr (.inr x) :: st) σ Q := gk_aload rfl rfl
theorem g141_149 {L : sl_L} : sl_Go xs N 141 149 L st σ Q ↔ sl_Go xs N 141 150 L (.inl 0 :: st) σ Q := gk_const rfl
theorem g141_150 {L : sl_L} {o : sl_R} {x0 : Int32} : sl_Go xs N 141 150 L (.inl x0 :: .inr (.inr o) :: st) σ Q ↔ sl_cw st ≤ 8 ∧ sl_Go xs N 133 0 [some (.inr (.inr o)), some (.inl x0), none] [] σ (fun r τ => sl_Go xs N 141 153 L (r.toList ++ st) τ Q) := gk_call rfl (Nat.le_add_left 2 st.length) rfl rfl rfl
theorem g141_153 {L : sl_L} : sl_Go xs N 141 153 L st σ Q ↔ sl_Go xs N 141 154 L (.inl 0 :: st) σ Q := gk_const rfl
theorem g141_154n {x : Int32} {a0 a1 a2 a3 a4 a5 a7 a8 : Option sl_V} : sl_Go xs N 141 154 [a0, a1, a2, a3, a4, a5, none, a7, a8] (.inl x :: st) σ Q ↔ sl_Go xs N 141 156 [a0, a1, a2, a3, a4, a5, none, some (.inl x), a8] st σ Q := gk_istore rfl ⟨Nat.le_of_ble_eq_true rfl, rfl⟩ rfl
theorem g141_154i {x : Int32} {z : Int32} {a0 a1 a2 a3 a4 a5 a7 a8 : Option sl_V} : sl_Go xs N 141 154 [a0, a1, a2, a3, a4, a5, some (.inl z), a7, a8] (.inl x :: st) σ Q ↔ sl_Go xs N 141 156 [a0, a1, a2, a3, a4, a5, some (.inl z), some (.inl x), a8] st σ Q := gk_istore rfl ⟨Nat.le_of_ble_eq_true rfl, rfl⟩ rfl
theorem g141_154r {x : Int32} {z : sl_R} {a0 a1 a2 a3 a4 a5 a7 a8 : Option sl_V} : sl_Go xs N 141 154 [a0, a1, a2, a3, a4, a5, some (.inr (.inr z)), a7, a8] (.inl x :: st) σ Q ↔ sl_Go xs N 141 156 [a0, a1, a2, a3, a4, a5, some (.inr (.inr z)), some (.inl x), a8] st σ Q := gk_istore rfl ⟨Nat.le_of_ble_eq_true rfl, rfl⟩ rfl
theorem g141_156 {x : Int32} {a0 a1 a2 a3 a4 a5 a6 a8 : Option sl_V} : sl_Go xs N 141 156 [a0, a1, a2, a3, a4, a5, a6, some (.inl x), a8] st σ Q ↔ sl_Go xs N 141 158 [a0, a1, a2, a3, a4, a5, a6, some (.inl x), a8] (.inl x :: st) σ Q := gk_iload rfl rfl
theorem g141_158 {L : sl_L} : sl_Go xs N 141 158 L st σ Q ↔ sl_Go xs N 141 159 L (.inl 1 :: st) σ Q := gk_const rfl
theorem g141_159 {x : sl_R} {a1 a2 a3 a4 a5 a6 a7 a8 : Option sl_V} : sl_Go xs N 141 159 [some (.inr (.inr x)), a1, a2, a3, a4, a5, a6, a7, a8] st σ Q ↔ sl_Go xs N 141 160 [some (.inr (.inr x)), a1, a2, a3, a4, a5, a6, a7, a8] (.inr (.inr x) :: st) σ Q := gk_aload rfl rfl
theorem g141_160 {L : sl_L} {i t : Nat} : sl_Go xs N 141 160 L (.inr (.inr (40, i, t)) :: st) σ Q ↔ sl_Go xs N 141 163 L (.inr (.inr (73, 0, 0)) :: st) σ Q := gk_get (g := .inr (73, 0, 0)) rfl rfl rfl
theorem g141_163 {x : Int32} {a0 a1 a3 a4 a5 a6 a7 a8 : Option sl_V} : sl_Go xs N 141 163 [a0, a1, some (.inl x), a3, a4, a5, a6, a7, a8] st σ Q ↔ sl_Go xs N 141 164 [a0, a1, some (.inl x), a3, a4, a5, a6, a7, a8] (.inl x :: st) σ Q := gk_iload rfl rfl
theorem g141_164 {L : sl_L} {j : Int32} {r : sl_R} : sl_Go xs N 141 164 L (.inl j :: .inr (.inr r) :: st) σ Q ↔ (0 ≤ j.toInt ∧ j.toInt < sl_ilen N r) ∧ sl_Go xs N 141 165 L (.inl (sl_rd xs σ r j.toNatClampNeg) :: st) σ Q := gk_iald rfl
theorem g141_165 {L : sl_L} {x y : Int32} : sl_Go xs N 141 165 L (.inl y :: .inl x :: st) σ Q ↔ sl_Go xs N 141 166 L (.inl (x <<< (y &&& 31)) :: st) σ Q := gk_bin (b := 14) rfl
theorem g141_166 {L : sl_L} {x y : Int32} : sl_Go xs N 141 166 L (.inl y :: .inl x :: st) σ Q ↔ (y ≤ x → sl_Go xs N 141 345 L st σ Q) ∧ (¬ y ≤ x → sl_Go xs N 141 169 L st σ Q) := gk_ige rfl
theorem g141_169 {x : sl_R} {a1 a2 a3 a4 a5 a6 a7 a8 : Option sl_V} : sl_Go xs N 141 169 [some (.inr (.inr x)), a1, a2, a3, a4, a5, a6, a7, a8] st σ Q ↔ sl_Go xs N 141 170 [some (.inr (.inr x)), a1, a2, a3, a4, a5, a6, a7, a8] (.inr (.inr x) :: st) σ Q := gk_aload rfl rfl
theorem g141_170 {x : Int32} {a0 a1 a2 a3 a4 a5 a6 a8 : Option sl_V} : sl_Go xs N 141 170 [a0, a1, a2, a3, a4, a5, a6, some (.inl x), a8] st σ Q ↔ sl_Go xs N 141 172 [a0, a1, a2, a3, a4, a5, a6, some (.inl x), a8] (.inl x :: st) σ Q := gk_iload rfl rfl
theorem g141_172 {L : sl_L} {o : sl_R} {x0 : Int32} : sl_Go xs N 141 172 L (.inl x0 :: .inr (.inr o) :: st) σ Q ↔ sl_cw st ≤ 8 ∧ sl_Go xs N 140 0 [some (.inr (.inr o)), some (.inl x0), none, none] [] σ (fun r τ => sl_Go xs N 141 175 L (r.toList ++ st) τ Q) := gk_call rfl (Nat.le_add_left 2 st.length) rfl rfl rfl
theorem g141_175 {x : Int32} {a0 a1 a2 a3 a5 a6 a7 a8 : Option sl_V} : sl_Go xs N 141 175 [a0, a1, a2, a3, some (.inl x), a5, a6, a7, a8] st σ Q ↔ sl_Go xs N 141 177 [a0, a1, a2, a3, some (.inl x), a5, a6, a7, a8] (.inl x :: st) σ Q := gk_iload rfl rfl
theorem g141_177 {L : sl_L} {x y : Int32} : sl_Go xs N 141 177 L (.inl y :: .inl x :: st) σ Q ↔ (x ≤ y → sl_Go xs N 141 183 L st σ Q) ∧ (¬ x ≤ y → sl_Go xs N 141 180 L st σ Q) := gk_ile rfl
theorem g141_180 {L : sl_L} : sl_Go xs N 141 180 L st σ Q ↔ sl_Go xs N 141 339 L st σ Q := gk_goto rfl
theorem g141_183 {L : sl_L} : sl_Go xs N 141 183 L st σ Q ↔ sl_Go xs N 141 184 L (.inl 0 :: st) σ Q := gk_const rfl
theorem g141_184n {x : Int32} {a0 a1 a2 a3 a4 a5 a6 a8 : Option sl_V} : sl_Go xs N 141 184 [a0, a1, a2, a3, a4, a5, a6, none, a8] (.inl x :: st) σ Q ↔ sl_Go xs N 141 186 [a0, a1, a2, a3, a4, a5, a6, none, some (.inl x)] st σ Q := gk_istore rfl ⟨Nat.le_of_ble_eq_true rfl, rfl⟩ rfl
theorem g141_184i {x : Int32} {z : Int32} {a0 a1 a2 a3 a4 a5 a6 a8 : Option sl_V} : sl_Go xs N 141 184 [a0, a1, a2, a3, a4, a5, a6, some (.inl z), a8] (.inl x :: st) σ Q ↔ sl_Go xs N 141 186 [a0, a1, a2, a3, a4, a5, a6, some (.inl z), some (.inl x)] st σ Q := gk_istore rfl ⟨Nat.le_of_ble_eq_true rfl, rfl⟩ rfl
theorem g141_184r {x : Int32} {z : sl_R} {a0 a1 a2 a3 a4 a5 a6 a8 : Option sl_V} : sl_Go xs N 141 184 [a0, a1, a2, a3, a4, a5, a6, some (.inr (.inr z)), a8] (.inl x :: st) σ Q ↔ sl_Go xs N 141 186 [a0, a1, a2, a3, a4, a5, a6, some (.inr (.inr z)), some (.inl x)] st σ Q := gk_istore rfl ⟨Nat.le_of_ble_eq_true rfl, rfl⟩ rfl
theorem g141_186 {x : Int32} {a0 a1 a2 a3 a4 a5 a6 a7 : Option sl_V} : sl_Go xs N 141 186 [a0, a1, a2, a3, a4, a5, a6, a7, some (.inl x)] st σ Q ↔ sl_Go xs N 141 188 [a0, a1, a2, a3, a4, a5, a6, a7, some (.inl x)] (.inl x :: st) σ Q := gk_iload rfl rfl
theorem g141_188 {x : sl_R} {a1 a2 a3 a4 a5 a6 a7 a8 : Option sl_V} : sl_Go xs N 141 188 [some (.inr (.inr x)), a1, a2, a3, a4, a5, a6, a7, a8] st σ Q ↔ sl_Go xs N 141 189 [some (.inr (.inr x)), a1, a2, a3, a4, a5, a6, a7, a8] (.inr (.inr x) :: st) σ Q := gk_aload rfl rfl
theorem g141_189 {L : sl_L} {i t : Nat} : sl_Go xs N 141 189 L (.inr (.inr (40, i, t)) :: st) σ Q ↔ sl_Go xs N 141 192 L (.inr (.inr (73, 0, 0)) :: st) σ Q := gk_get (g := .inr (73, 0, 0)) rfl rfl rfl
theorem g141_192 {x : Int32} {a0 a1 a3 a4 a5 a6 a7 a8 : Option sl_V} : sl_Go xs N 141 192 [a0, a1, some (.inl x), a3, a4, a5, a6, a7, a8] st σ Q ↔ sl_Go xs N 141 193 [a0, a1, some (.inl x), a3, a4, a5, a6, a7, a8] (.inl x :: st) σ Q := gk_iload rfl rfl
theorem g141_193 {L : sl_L} {j : Int32} {r : sl_R} : sl_Go xs N 141 193 L (.inl j :: .inr (.inr r) :: st) σ Q ↔ (0 ≤ j.toInt ∧ j.toInt < sl_ilen N r) ∧ sl_Go xs N 141 194 L (.inl (sl_rd xs σ r j.toNatClampNeg) :: st) σ Q := gk_iald rfl
theorem g141_194 {L : sl_L} {x y : Int32} : sl_Go xs N 141 194 L (.inl y :: .inl x :: st) σ Q ↔ (y ≤ x → sl_Go xs N 141 226 L st σ Q) ∧ (¬ y ≤ x → sl_Go xs N 141 197 L st σ Q) := gk_ige rfl
theorem g141_197 {x : sl_R} {a1 a2 a3 a4 a5 a6 a7 a8 : Option sl_V} : sl_Go xs N 141 197 [some (.inr (.inr x)), a1, a2, a3, a4, a5, a6, a7, a8] st σ Q ↔ sl_Go xs N 141 198 [some (.inr (.inr x)), a1, a2, a3, a4, a5, a6, a7, a8] (.inr (.inr x) :: st) σ Q := gk_aload rfl rfl
theorem g141_198 {L : sl_L} {i t : Nat} : sl_Go xs N 141 198 L (.inr (.inr (40, i, t)) :: st) σ Q ↔ sl_Go xs N 141 201 L (.inr (.inr (51, 0, 0)) :: st) σ Q := gk_get (g := .inr (51, 0, 0)) rfl rfl rfl
theorem g141_201 {L : sl_L} : sl_Go xs N 141 201 L st σ Q ↔ sl_Go xs N 141 203 L (.inl 12 :: st) σ Q := gk_const rfl
theorem g141_203 {x : Int32} {a0 a2 a3 a4 a5 a6 a7 a8 : Option sl_V} : sl_Go xs N 141 203 [a0, some (.inl x), a2, a3, a4, a5, a6, a7, a8] st σ Q ↔ sl_Go xs N 141 204 [a0, some (.inl x), a2, a3, a4, a5, a6, a7, a8] (.inl x :: st) σ Q := gk_iload rfl rfl
theorem g141_204 {L : sl_L} {x y : Int32} : sl_Go xs N 141 204 L (.inl y :: .inl x :: st) σ Q ↔ sl_Go xs N 141 205 L (.inl (x * y) :: st) σ Q := gk_bin (b := 10) rfl
theorem g141_205 {x : sl_R} {a1 a2 a3 a4 a5 a6 a7 a8 : Option sl_V} : sl_Go xs N 141 205 [some (.inr (.inr x)), a1, a2, a3, a4, a5, a6, a7, a8] st σ Q ↔ sl_Go xs N 141 206 [some (.inr (.inr x)), a1, a2, a3, a4, a5, a6, a7, a8] (.inr (.inr x) :: st) σ Q := gk_aload rfl rfl
theorem g141_206 {L : sl_L} {i t : Nat} : sl_Go xs N 141 206 L (.inr (.inr (40, i, t)) :: st) σ Q ↔ sl_Go xs N 141 209 L (.inr (.inr (74, 0, 0)) :: st) σ Q := gk_get (g := .inr (74, 0, 0)) rfl rfl rfl
theorem g141_209 {L : sl_L} : sl_Go xs N 141 209 L st σ Q ↔ sl_Go xs N 141 211 L (.inl 40 :: st) σ Q := gk_const rfl
theorem g141_211 {x : Int32} {a0 a1 a3 a4 a5 a6 a7 a8 : Option sl_V} : sl_Go xs N 141 211 [a0, a1, some (.inl x), a3, a4, a5, a6, a7, a8] st σ Q ↔ sl_Go xs N 141 212 [a0, a1, some (.inl x), a3, a4, a5, a6, a7, a8] (.inl x :: st) σ Q := gk_iload rfl rfl
theorem g141_212 {L : sl_L} {x y : Int32} : sl_Go xs N 141 212 L (.inl y :: .inl x :: st) σ Q ↔ sl_Go xs N 141 213 L (.inl (x * y) :: st) σ Q := gk_bin (b := 10) rfl
theorem g141_213 {x : Int32} {a0 a1 a2 a3 a4 a5 a6 a7 : Option sl_V} : sl_Go xs N 141 213 [a0, a1, a2, a3, a4, a5, a6, a7, some (.inl x)] st σ Q ↔ sl_Go xs N 141 215 [a0, a1, a2, a3, a4, a5, a6, a7, some (.inl x)] (.inl x :: st) σ Q := gk_iload rfl rfl
theorem g141_215 {L : sl_L} {x y : Int32} : sl_Go xs N 141 215 L (.inl y :: .inl x :: st) σ Q ↔ sl_Go xs N 141 216 L (.inl (x + y) :: st) σ Q := gk_bin (b := 8) rfl
theorem g141_216 {L : sl_L} {j : Int32} {r : sl_R} : sl_Go xs N 141 216 L (.inl j :: .inr (.inr r) :: st) σ Q ↔ (0 ≤ j.toInt ∧ j.toInt < sl_ilen N r) ∧ sl_Go xs N 141 217 L (.inl (sl_rd xs σ r j.toNatClampNeg) :: st) σ Q := gk_iald rfl
theorem g141_217 {L : sl_L} {x y : Int32} : sl_Go xs N 141 217 L (.inl y :: .inl x :: st) σ Q ↔ sl_Go xs N 141 218 L (.inl (x + y) :: st) σ Q := gk_bin (b := 8) rfl
theorem g141_218 {L : sl_L} : sl_Go xs N 141 218 L st σ Q ↔ sl_Go xs N 141 219 L (.inl 0 :: st) σ Q := gk_const rfl
theorem g141_219 {L : sl_L} {j x : Int32} {r : sl_R} : sl_Go xs N 141 219 L (.inl x :: .inl j :: .inr (.inr r) :: st) σ Q ↔ ((0 ≤ j.toInt ∧ j.toInt < sl_wlen r 2) ∧ (x = 0 ∨ x = 1)) ∧ sl_Go xs N 141 220 L st (sl_wr σ r j.toNatClampNeg x) Q := gk_zast rfl
theorem g141_220n {x : Int32} {a0 a1 a2 a3 a4 a5 a6 : Option sl_V} : sl_Go xs N 141 220 [a0, a1, a2, a3, a4, a5, a6, none, some (.inl x)] st σ Q ↔ sl_Go xs N 141 223 [a0, a1, a2, a3, a4, a5, a6, none, some (.inl (x + 1))] st σ Q := gk_iinc rfl rfl rfl rfl
theorem g141_220i {x : Int32} {z : Int32} {a0 a1 a2 a3 a4 a5 a6 : Option sl_V} : sl_Go xs N 141 220 [a0, a1, a2, a3, a4, a5, a6, some (.inl z), some (.inl x)] st σ Q ↔ sl_Go xs N 141 223 [a0, a1, a2, a3, a4, a5, a6, some (.inl z), some (.inl (x + 1))] st σ Q := gk_iinc rfl rfl rfl rfl
theorem g141_220r {x : Int32} {z : sl_R} {a0 a1 a2 a3 a4 a5 a6 : Option sl_V} : sl_Go xs N 141 220 [a0, a1, a2, a3, a4, a5, a6, some (.inr (.inr z)), some (.inl x)] st σ Q ↔ sl_Go xs N 141 223 [a0, a1, a2, a3, a4, a5, a6, some (.inr (.inr z)), some (.inl (x + 1))] st σ Q := gk_iinc rfl rfl rfl rfl
theorem g141_223 {L : sl_L} : sl_Go xs N 141 223 L st σ Q ↔ sl_Go xs N 141 186 L st σ Q := gk_goto rfl
theorem g141_226 {L : sl_L} : sl_Go xs N 141 226 L st σ Q ↔ sl_Go xs N 141 227 L (.inl 0 :: st) σ Q := gk_const rfl
theorem g141_227n {x : Int32} {a0 a1 a2 a3 a4 a5 a6 a8 : Option sl_V} : sl_Go xs N 141 227 [a0, a1, a2, a3, a4, a5, a6, none, a8] (.inl x :: st) σ Q ↔ sl_Go xs N 141 229 [a0, a1, a2, a3, a4, a5, a6, none, some (.inl x)] st σ Q := gk_istore rfl ⟨Nat.le_of_ble_eq_true rfl, rfl⟩ rfl
theorem g141_227i {x : Int32} {z : Int32} {a0 a1 a2 a3 a4 a5 a6 a8 : Option sl_V} : sl_Go xs N 141 227 [a0, a1, a2, a3, a4, a5, a6, some (.inl z), a8] (.inl x :: st) σ Q ↔ sl_Go xs N 141 229 [a0, a1, a2, a3, a4, a5, a6, some (.inl z), some (.inl x)] st σ Q := gk_istore rfl ⟨Nat.le_of_ble_eq_true rfl, rfl⟩ rfl
theorem g141_227r {x : Int32} {z : sl_R} {a0 a1 a2 a3 a4 a5 a6 a8 : Option sl_V} : sl_Go xs N 141 227 [a0, a1, a2, a3, a4, a5, a6, some (.inr (.inr z)), a8] (.inl x :: st) σ Q ↔ sl_Go xs N 141 229 [a0, a1, a2, a3, a4, a5, a6, some (.inr (.inr z)), some (.inl x)] st σ Q := gk_istore rfl ⟨Nat.le_of_ble_eq_true rfl, rfl⟩ rfl
theorem g141_229 {x : Int32} {a0 a1 a2 a3 a4 a5 a6 a7 : Option sl_V} : sl_Go xs N 141 229 [a0, a1, a2, a3, a4, a5, a6, a7, some (.inl x)] st σ Q ↔ sl_Go xs N 141 231 [a0, a1, a2, a3, a4, a5, a6, a7, some (.inl x)] (.inl x :: st) σ Q := gk_iload rfl rfl
theorem g141_231 {x : sl_R} {a1 a2 a3 a4 a5 a6 a7 a8 : Option sl_V} : sl_Go xs N 141 231 [some (.inr (.inr x)), a1, a2, a3, a4, a5, a6, a7, a8] st σ Q ↔ sl_Go xs N 141 232 [some (.inr (.inr x)), a1, a2, a3, a4, a5, a6, a7, a8] (.inr (.inr x) :: st) σ Q := gk_aload rfl rfl
theorem g141_232 {L : sl_L} {i t : Nat} : sl_Go xs N 141 232 L (.inr (.inr (40, i, t)) :: st) σ Q ↔ sl_Go xs N 141 235 L (.inr (.inr (73, 0, 0)) :: st) σ Q := gk_get (g := .inr (73, 0, 0)) rfl rfl rfl
theorem g141_235 {x : Int32} {a0 a1 a3 a4 a5 a6 a7 a8 : Option sl_V} : sl_Go xs N 141 235 [a0, a1, some (.inl x), a3, a4, a5, a6, a7, a8] st σ Q ↔ sl_Go xs N 141 236 [a0, a1, some (.inl x), a3, a4, a5, a6, a7, a8] (.inl x :: st) σ Q := gk_iload rfl rfl
theorem g141_236 {L : sl_L} {j : Int32} {r : sl_R} : sl_Go xs N 141 236 L (.inl j :: .inr (.inr r) :: st) σ Q ↔ (0 ≤ j.toInt ∧ j.toInt < sl_ilen N r) ∧ sl_Go xs N 141 237 L (.inl (sl_rd xs σ r j.toNatClampNeg) :: st) σ Q := gk_iald rfl
theorem g141_237 {L : sl_L} {x y : Int32} : sl_Go xs N 141 237 L (.inl y :: .inl x :: st) σ Q ↔ (y ≤ x → sl_Go xs N 141 280 L st σ Q) ∧ (¬ y ≤ x → sl_Go xs N 141 240 L st σ Q) := gk_ige rfl
theorem g141_240 {x : Int32} {a0 a1 a2 a3 a4 a5 a6 a8 : Option sl_V} : sl_Go xs N 141 240 [a0, a1, a2, a3, a4, a5, a6, some (.inl x), a8] st σ Q ↔ sl_Go xs N 141 242 [a0, a1, a2, a3, a4, a5, a6, some (.inl x), a8] (.inl x :: st) σ Q := gk_iload rfl rfl
theorem g141_242 {x : Int32} {a0 a1 a2 a3 a4 a5 a6 a7 : Option sl_V} : sl_Go xs N 141 242 [a0, a1, a2, a3, a4, a5, a6, a7, some (.inl x)] st σ Q ↔ sl_Go xs N 141 244 [a0, a1, a2, a3, a4, a5, a6, a7, some (.inl x)] (.inl x :: st) σ Q := gk_iload rfl rfl
theorem g141_244 {L : sl_L} {x y : Int32} : sl_Go xs N 141 244 L (.inl y :: .inl x :: st) σ Q ↔ sl_Go xs N 141 245 L (.inl (x >>> (y &&& 31)) :: st) σ Q := gk_bin (b := 15) rfl
theorem g141_245 {L : sl_L} : sl_Go xs N 141 245 L st σ Q ↔ sl_Go xs N 141 246 L (.inl 1 :: st) σ Q := gk_const rfl
theorem g141_246 {L : sl_L} {x y : Int32} : sl_Go xs N 141 246 L (.inl y :: .inl x :: st) σ Q ↔ sl_Go xs N 141 247 L (.inl (x &&& y) :: st) σ Q := gk_bin (b := 11) rfl
theorem g141_247 {L : sl_L} : sl_Go xs N 141 247 L st σ Q ↔ sl_Go xs N 141 248 L (.inl 1 :: st) σ Q := gk_const rfl
theorem g141_248 {L : sl_L} {x y : Int32} : sl_Go xs N 141 248 L (.inl y :: .inl x :: st) σ Q ↔ (¬ x = y → sl_Go xs N 141 274 L st σ Q) ∧ (x = y → sl_Go xs N 141 251 L st σ Q) := gk_ine rfl
theorem g141_251 {x : sl_R} {a1 a2 a3 a4 a5 a6 a7 a8 : Option sl_V} : sl_Go xs N 141 251 [some (.inr (.inr x)), a1, a2, a3, a4, a5, a6, a7, a8] st σ Q ↔ sl_Go xs N 141 252 [some (.inr (.inr x)), a1, a2, a3, a4, a5, a6, a7, a8] (.inr (.inr x) :: st) σ Q := gk_aload rfl rfl
theorem g141_252 {L : sl_L} {i t : Nat} : sl_Go xs N 141 252 L (.inr (.inr (40, i, t)) :: st) σ Q ↔ sl_Go xs N 141 255 L (.inr (.inr (51, 0, 0)) :: st) σ Q := gk_get (g := .inr (51, 0, 0)) rfl rfl rfl
theorem g141_255 {L : sl_L} : sl_Go xs N 141 255 L st σ Q ↔ sl_Go xs N 141 257 L (.inl 12 :: st) σ Q := gk_const rfl
theorem g141_257 {x : Int32} {a0 a2 a3 a4 a5 a6 a7 a8 : Option sl_V} : sl_Go xs N 141 257 [a0, some (.inl x), a2, a3, a4, a5, a6, a7, a8] st σ Q ↔ sl_Go xs N 141 258 [a0, some (.inl x), a2, a3, a4, a5, a6, a7, a8] (.inl x :: st) σ Q := gk_iload rfl rfl
theorem g141_258 {L : sl_L} {x y : Int32} : sl_Go xs N 141 258 L (.inl y :: .inl x :: st) σ Q ↔ sl_Go xs N 141 259 L (.inl (x * y) :: st) σ Q := gk_bin (b := 10) rfl
theorem g141_259 {x : sl_R} {a1 a2 a3 a4 a5 a6 a7 a8 : Option sl_V} : sl_Go xs N 141 259 [some (.inr (.inr x)), a1, a2, a3, a4, a5, a6, a7, a8] st σ Q ↔ sl_Go xs N 141 260 [some (.inr (.inr x)), a1, a2, a3, a4, a5, a6, a7, a8] (.inr (.inr x) :: st) σ Q := gk_aload rfl rfl
theorem g141_260 {L : sl_L} {i t : Nat} : sl_Go xs N 141 260 L (.inr (.inr (40, i, t)) :: st) σ Q ↔ sl_Go xs N 141 263 L (.inr (.inr (74, 0, 0)) :: st) σ Q := gk_get (g := .inr (74, 0, 0)) rfl rfl rfl
theorem g141_263 {L : sl_L} : sl_Go xs N 141 263 L st σ Q ↔ sl_Go xs N 141 265 L (.inl 40 :: st) σ Q := gk_const rfl
theorem g141_265 {x : Int32} {a0 a1 a3 a4 a5 a6 a7 a8 : Option sl_V} : sl_Go xs N 141 265 [a0, a1, some (.inl x), a3, a4, a5, a6, a7, a8] st σ Q ↔ sl_Go xs N 141 266 [a0, a1, some (.inl x), a3, a4, a5, a6, a7, a8] (.inl x :: st) σ Q := gk_iload rfl rfl
theorem g141_266 {L : sl_L} {x y : Int32} : sl_Go xs N 141 266 L (.inl y :: .inl x :: st) σ Q ↔ sl_Go xs N 141 267 L (.inl (x * y) :: st) σ Q := gk_bin (b := 10) rfl
theorem g141_267 {x : Int32} {a0 a1 a2 a3 a4 a5 a6 a7 : Option sl_V} : sl_Go xs N 141 267 [a0, a1, a2, a3, a4, a5, a6, a7, some (.inl x)] st σ Q ↔ sl_Go xs N 141 269 [a0, a1, a2, a3, a4, a5, a6, a7, some (.inl x)] (.inl x :: st) σ Q := gk_iload rfl rfl
theorem g141_269 {L : sl_L} {x y : Int32} : sl_Go xs N 141 269 L (.inl y :: .inl x :: st) σ Q ↔ sl_Go xs N 141 270 L (.inl (x + y) :: st) σ Q := gk_bin (b := 8) rfl
theorem g141_270 {L : sl_L} {j : Int32} {r : sl_R} : sl_Go xs N 141 270 L (.inl j :: .inr (.inr r) :: st) σ Q ↔ (0 ≤ j.toInt ∧ j.toInt < sl_ilen N r) ∧ sl_Go xs N 141 271 L (.inl (sl_rd xs σ r j.toNatClampNeg) :: st) σ Q := gk_iald rfl
theorem g141_271 {L : sl_L} {x y : Int32} : sl_Go xs N 141 271 L (.inl y :: .inl x :: st) σ Q ↔ sl_Go xs N 141 272 L (.inl (x + y) :: st) σ Q := gk_bin (b := 8) rfl
theorem g141_272 {L : sl_L} : sl_Go xs N 141 272 L st σ Q ↔ sl_Go xs N 141 273 L (.inl 1 :: st) σ Q := gk_const rfl
theorem g141_273 {L : sl_L} {j x : Int32} {r : sl_R} : sl_Go xs N 141 273 L (.inl x :: .inl j :: .inr (.inr r) :: st) σ Q ↔ ((0 ≤ j.toInt ∧ j.toInt < sl_wlen r 2) ∧ (x = 0 ∨ x = 1)) ∧ sl_Go xs N 141 274 L st (sl_wr σ r j.toNatClampNeg x) Q := gk_zast rfl
theorem g141_274n {x : Int32} {a0 a1 a2 a3 a4 a5 a6 : Option sl_V} : sl_Go xs N 141 274 [a0, a1, a2, a3, a4, a5, a6, none, some (.inl x)] st σ Q ↔ sl_Go xs N 141 277 [a0, a1, a2, a3, a4, a5, a6, none, some (.inl (x + 1))] st σ Q := gk_iinc rfl rfl rfl rfl
theorem g141_274i {x : Int32} {z : Int32} {a0 a1 a2 a3 a4 a5 a6 : Option sl_V} : sl_Go xs N 141 274 [a0, a1, a2, a3, a4, a5, a6, some (.inl z), some (.inl x)] st σ Q ↔ sl_Go xs N 141 277 [a0, a1, a2, a3, a4, a5, a6, some (.inl z), some (.inl (x + 1))] st σ Q := gk_iinc rfl rfl rfl rfl
theorem g141_274r {x : Int32} {z : sl_R} {a0 a1 a2 a3 a4 a5 a6 : Option sl_V} : sl_Go xs N 141 274 [a0, a1, a2, a3, a4, a5, a6, some (.inr (.inr z)), some (.inl x)] st σ Q ↔ sl_Go xs N 141 277 [a0, a1, a2, a3, a4, a5, a6, some (.inr (.inr z)), some (.inl (x + 1))] st σ Q := gk_iinc rfl rfl rfl rfl
theorem g141_277 {L : sl_L} : sl_Go xs N 141 277 L st σ Q ↔ sl_Go xs N 141 229 L st σ Q := gk_goto rfl
theorem g141_280 {x : sl_R} {a1 a2 a3 a4 a5 a6 a7 a8 : Option sl_V} : sl_Go xs N 141 280 [some (.inr (.inr x)), a1, a2, a3, a4, a5, a6, a7, a8] st σ Q ↔ sl_Go xs N 141 281 [some (.inr (.inr x)), a1, a2, a3, a4, a5, a6, a7, a8] (.inr (.inr x) :: st) σ Q := gk_aload rfl rfl
theorem g141_281 {x : Int32} {a0 a1 a2 a4 a5 a6 a7 a8 : Option sl_V} : sl_Go xs N 141 281 [a0, a1, a2, some (.inl x), a4, a5, a6, a7, a8] st σ Q ↔ sl_Go xs N 141 282 [a0, a1, a2, some (.inl x), a4, a5, a6, a7, a8] (.inl x :: st) σ Q := gk_iload rfl rfl
theorem g141_282 {L : sl_L} : sl_Go xs N 141 282 L st σ Q ↔ sl_Go xs N 141 284 L (.inl 60 :: st) σ Q := gk_const rfl
theorem g141_284 {L : sl_L} {o : sl_R} {x0 : Int32} {x1 : Int32} : sl_Go xs N 141 284 L (.inl x1 :: .inl x0 :: .inr (.inr o) :: st) σ Q ↔ sl_cw st ≤ 8 ∧ sl_Go xs N 135 0 [some (.inr (.inr o)), some (.inl x0), some (.inl x1), none, none] [] σ (fun r τ => sl_Go xs N 141 287 L (r.toList ++ st) τ Q) := gk_call rfl (Nat.le_add_left 3 st.length) rfl rfl rfl
theorem g141_287n {x : Int32} {a0 a1 a2 a3 a4 a5 a6 a8 : Option sl_V} : sl_Go xs N 141 287 [a0, a1, a2, a3, a4, a5, a6, none, a8] (.inl x :: st) σ Q ↔ sl_Go xs N 141 289 [a0, a1, a2, a3, a4, a5, a6, none, some (.inl x)] st σ Q := gk_istore rfl ⟨Nat.le_of_ble_eq_true rfl, rfl⟩ rfl
theorem g141_287i {x : Int32} {z : Int32} {a0 a1 a2 a3 a4 a5 a6 a8 : Option sl_V} : sl_Go xs N 141 287 [a0, a1, a2, a3, a4, a5, a6, some (.inl z), a8] (.inl x :: st) σ Q ↔ sl_Go xs N 141 289 [a0, a1, a2, a3, a4, a5, a6, some (.inl z), some (.inl x)] st σ Q := gk_istore rfl ⟨Nat.le_of_ble_eq_true rfl, rfl⟩ rfl
theorem g141_287r {x : Int32} {z : sl_R} {a0 a1 a2 a3 a4 a5 a6 a8 : Option sl_V} : sl_Go xs N 141 287 [a0, a1, a2, a3, a4, a5, a6, some (.inr (.inr z)), a8] (.inl x :: st) σ Q ↔ sl_Go xs N 141 289 [a0, a1, a2, a3, a4, a5, a6, some (.inr (.inr z)), some (.inl x)] st σ Q := gk_istore rfl ⟨Nat.le_of_ble_eq_true rfl, rfl⟩ rfl
theorem g141_289 {x : sl_R} {a1 a2 a3 a4 a5 a6 a7 a8 : Option sl_V} : sl_Go xs N 141 289 [some (.inr (.inr x)), a1, a2, a3, a4, a5, a6, a7, a8] st σ Q ↔ sl_Go xs N 141 290 [some (.inr (.inr x)), a1, a2, a3, a4, a5, a6, a7, a8] (.inr (.inr x) :: st) σ Q := gk_aload rfl rfl
theorem g141_290 {L : sl_L} : sl_Go xs N 141 290 L st σ Q ↔ sl_Go xs N 141 291 L (.inl 0 :: st) σ Q := gk_const rfl
theorem g141_291 {L : sl_L} {o : sl_R} {x0 : Int32} : sl_Go xs N 141 291 L (.inl x0 :: .inr (.inr o) :: st) σ Q ↔ sl_cw st ≤ 8 ∧ sl_Go xs N 134 0 [some (.inr (.inr o)), some (.inl x0), none] [] σ (fun r τ => sl_Go xs N 141 294 L (r.toList ++ st) τ Q) := gk_call rfl (Nat.le_add_left 2 st.length) rfl rfl rfl
theorem g141_294 {x : Int32} {a0 a1 a2 a3 a4 a6 a7 a8 : Option sl_V} : sl_Go xs N 141 294 [a0, a1, a2, a3, a4, some (.inl x), a6, a7, a8] st σ Q ↔ sl_Go xs N 141 296 [a0, a1, a2, a3, a4, some (.inl x), a6, a7, a8] (.inl x :: st) σ Q := gk_iload rfl rfl
theorem g141_296 {L : sl_L} {x : Int32} : sl_Go xs N 141 296 L (.inl x :: st) σ Q ↔ (x < 0 → sl_Go xs N 141 331 L st σ Q) ∧ (¬ x < 0 → sl_Go xs N 141 299 L st σ Q) := gk_zlt rfl
theorem g141_299 {x : Int32} {a0 a1 a2 a3 a4 a5 a6 a7 : Option sl_V} : sl_Go xs N 141 299 [a0, a1, a2, a3, a4, a5, a6, a7, some (.inl x)] st σ Q ↔ sl_Go xs N 141 301 [a0, a1, a2, a3, a4, a5, a6, a7, some (.inl x)] (.inl x :: st) σ Q := gk_iload rfl rfl
theorem g141_301 {x : Int32} {a0 a1 a2 a3 a4 a5 a7 a8 : Option sl_V} : sl_Go xs N 141 301 [a0, a1, a2, a3, a4, a5, some (.inl x), a7, a8] st σ Q ↔ sl_Go xs N 141 303 [a0, a1, a2, a3, a4, a5, some (.inl x), a7, a8] (.inl x :: st) σ Q := gk_iload rfl rfl
theorem g141_303 {L : sl_L} {x y : Int32} : sl_Go xs N 141 303 L (.inl y :: .inl x :: st) σ Q ↔ (y < x → sl_Go xs N 141 339 L st σ Q) ∧ (¬ y < x → sl_Go xs N 141 306 L st σ Q) := gk_igt rfl
theorem g141_306 {x : Int32} {a0 a1 a2 a3 a4 a5 a6 a7 : Option sl_V} : sl_Go xs N 141 306 [a0, a1, a2, a3, a4, a5, a6, a7, some (.inl x)] st σ Q ↔ sl_Go xs N 141 308 [a0, a1, a2, a3, a4, a5, a6, a7, some (.inl x)] (.inl x :: st) σ Q := gk_iload rfl rfl
theorem g141_308 {x : Int32} {a0 a1 a2 a3 a4 a5 a7 a8 : Option sl_V} : sl_Go xs N 141 308 [a0, a1, a2, a3, a4, a5, some (.inl x), a7, a8] st σ Q ↔ sl_Go xs N 141 310 [a0, a1, a2, a3, a4, a5, some (.inl x), a7, a8] (.inl x :: st) σ Q := gk_iload rfl rfl
theorem g141_310 {L : sl_L} {x y : Int32} : sl_Go xs N 141 310 L (.inl y :: .inl x :: st) σ Q ↔ (¬ x = y → sl_Go xs N 141 331 L st σ Q) ∧ (x = y → sl_Go xs N 141 313 L st σ Q) := gk_ine rfl
theorem g141_313 {x : sl_R} {a1 a2 a3 a4 a5 a6 a7 a8 : Option sl_V} : sl_Go xs N 141 313 [some (.inr (.inr x)), a1, a2, a3, a4, a5, a6, a7, a8] st σ Q ↔ sl_Go xs N 141 314 [some (.inr (.inr x)), a1, a2, a3, a4, a5, a6, a7, a8] (.inr (.inr x) :: st) σ Q := gk_aload rfl rfl
theorem g141_314 {x : Int32} {a0 a1 a2 a3 a4 a5 a6 a8 : Option sl_V} : sl_Go xs N 141 314 [a0, a1, a2, a3, a4, a5, a6, some (.inl x), a8] st σ Q ↔ sl_Go xs N 141 316 [a0, a1, a2, a3, a4, a5, a6, some (.inl x), a8] (.inl x :: st) σ Q := gk_iload rfl rfl
theorem g141_316 {L : sl_L} {o : sl_R} {x0 : Int32} : sl_Go xs N 141 316 L (.inl x0 :: .inr (.inr o) :: st) σ Q ↔ sl_cw st ≤ 8 ∧ sl_Go xs N 140 0 [some (.inr (.inr o)), some (.inl x0), none, none] [] σ (fun r τ => sl_Go xs N 141 319 L (r.toList ++ st) τ Q) := gk_call rfl (Nat.le_add_left 2 st.length) rfl rfl rfl
theorem g141_319 {x : sl_R} {a1 a2 a3 a4 a5 a6 a7 a8 : Option sl_V} : sl_Go xs N 141 319 [some (.inr (.inr x)), a1, a2, a3, a4, a5, a6, a7, a8] st σ Q ↔ sl_Go xs N 141 320 [some (.inr (.inr x)), a1, a2, a3, a4, a5, a6, a7, a8] (.inr (.inr x) :: st) σ Q := gk_aload rfl rfl
theorem g141_320 {x : Int32} {a0 a1 a2 a3 a4 a6 a7 a8 : Option sl_V} : sl_Go xs N 141 320 [a0, a1, a2, a3, a4, some (.inl x), a6, a7, a8] st σ Q ↔ sl_Go xs N 141 322 [a0, a1, a2, a3, a4, some (.inl x), a6, a7, a8] (.inl x :: st) σ Q := gk_iload rfl rfl
theorem g141_322 {L : sl_L} {o : sl_R} {x0 : Int32} : sl_Go xs N 141 322 L (.inl x0 :: .inr (.inr o) :: st) σ Q ↔ sl_cw st ≤ 8 ∧ sl_Go xs N 140 0 [some (.inr (.inr o)), some (.inl x0), none, none] [] σ (fun r τ => sl_Go xs N 141 325 L (r.toList ++ st) τ Q) := gk_call rfl (Nat.le_add_left 2 st.length) rfl rfl rfl
theorem g141_325 {L : sl_L} {x y : Int32} : sl_Go xs N 141 325 L (.inl y :: .inl x :: st) σ Q ↔ (x < y → sl_Go xs N 141 331 L st σ Q) ∧ (¬ x < y → sl_Go xs N 141 328 L st σ Q) := gk_ilt rfl
theorem g141_328 {L : sl_L} : sl_Go xs N 141 328 L st σ Q ↔ sl_Go xs N 141 339 L st σ Q := gk_goto rfl
theorem g141_331 {x : Int32} {a0 a1 a2 a3 a4 a5 a6 a8 : Option sl_V} : sl_Go xs N 141 331 [a0, a1, a2, a3, a4, a5, a6, some (.inl x), a8] st σ Q ↔ sl_Go xs N 141 333 [a0, a1, a2, a3, a4, a5, a6, some (.inl x), a8] (.inl x :: st) σ Q := gk_iload rfl rfl
theorem g141_333n {x : Int32} {a0 a1 a2 a3 a5 a6 a7 a8 : Option sl_V} : sl_Go xs N 141 333 [a0, a1, a2, a3, none, a5, a6, a7, a8] (.inl x :: st) σ Q ↔ sl_Go xs N 141 335 [a0, a1, a2, a3, none, some (.inl x), a6, a7, a8] st σ Q := gk_istore rfl ⟨Nat.le_of_ble_eq_true rfl, rfl⟩ rfl
theorem g141_333i {x : Int32} {z : Int32} {a0 a1 a2 a3 a5 a6 a7 a8 : Option sl_V} : sl_Go xs N 141 333 [a0, a1, a2, a3, some (.inl z), a5, a6, a7, a8] (.inl x :: st) σ Q ↔ sl_Go xs N 141 335 [a0, a1, a2, a3, some (.inl z), some (.inl x), a6, a7, a8] st σ Q := gk_istore rfl ⟨Nat.le_of_ble_eq_true rfl, rfl⟩ rfl
theorem g141_333r {x : Int32} {z : sl_R} {a0 a1 a2 a3 a5 a6 a7 a8 : Option sl_V} : sl_Go xs N 141 333 [a0, a1, a2, a3, some (.inr (.inr z)), a5, a6, a7, a8] (.inl x :: st) σ Q ↔ sl_Go xs N 141 335 [a0, a1, a2, a3, some (.inr (.inr z)), some (.inl x), a6, a7, a8] st σ Q := gk_istore rfl ⟨Nat.le_of_ble_eq_true rfl, rfl⟩ rfl
theorem g141_335 {x : Int32} {a0 a1 a2 a3 a4 a5 a6 a7 : Option sl_V} : sl_Go xs N 141 335 [a0, a1, a2, a3, a4, a5, a6, a7, some (.inl x)] st σ Q ↔ sl_Go xs N 141 337 [a0, a1, a2, a3, a4, a5, a6, a7, some (.inl x)] (.inl x :: st) σ Q := gk_iload rfl rfl
theorem g141_337n {x : Int32} {a0 a1 a2 a3 a4 a6 a7 a8 : Option sl_V} : sl_Go xs N 141 337 [a0, a1, a2, a3, a4, none, a6, a7, a8] (.inl x :: st) σ Q ↔ sl_Go xs N 141 339 [a0, a1, a2, a3, a4, none, some (.inl x), a7, a8] st σ Q := gk_istore rfl ⟨Nat.le_of_ble_eq_true rfl, rfl⟩ rfl
theorem g141_337i {x : Int32} {z : Int32} {a0 a1 a2 a3 a4 a6 a7 a8 : Option sl_V} : sl_Go xs N 141 337 [a0, a1, a2, a3, a4, some (.inl z), a6, a7, a8] (.inl x :: st) σ Q ↔ sl_Go xs N 141 339 [a0, a1, a2, a3, a4, some (.inl z), some (.inl x), a7, a8] st σ Q := gk_istore rfl ⟨Nat.le_of_ble_eq_true rfl, rfl⟩ rfl
theorem g141_337r {x : Int32} {z : sl_R} {a0 a1 a2 a3 a4 a6 a7 a8 : Option sl_V} : sl_Go xs N 141 337 [a0, a1, a2, a3, a4, some (.inr (.inr z)), a6, a7, a8] (.inl x :: st) σ Q ↔ sl_Go xs N 141 339 [a0, a1, a2, a3, a4, some (.inr (.inr z)), some (.inl x), a7, a8] st σ Q := gk_istore rfl ⟨Nat.le_of_ble_eq_true rfl, rfl⟩ rfl
theorem g141_339n {x : Int32} {a0 a1 a2 a3 a4 a5 a8 : Option sl_V} : sl_Go xs N 141 339 [a0, a1, a2, a3, a4, a5, none, some (.inl x), a8] st σ Q ↔ sl_Go xs N 141 342 [a0, a1, a2, a3, a4, a5, none, some (.inl (x + 1)), a8] st σ Q := gk_iinc rfl rfl rfl rfl
theorem g141_339i {x : Int32} {z : Int32} {a0 a1 a2 a3 a4 a5 a8 : Option sl_V} : sl_Go xs N 141 339 [a0, a1, a2, a3, a4, a5, some (.inl z), some (.inl x), a8] st σ Q ↔ sl_Go xs N 141 342 [a0, a1, a2, a3, a4, a5, some (.inl z), some (.inl (x + 1)), a8] st σ Q := gk_iinc rfl rfl rfl rfl
theorem g141_339r {x : Int32} {z : sl_R} {a0 a1 a2 a3 a4 a5 a8 : Option sl_V} : sl_Go xs N 141 339 [a0, a1, a2, a3, a4, a5, some (.inr (.inr z)), some (.inl x), a8] st σ Q ↔ sl_Go xs N 141 342 [a0, a1, a2, a3, a4, a5, some (.inr (.inr z)), some (.inl (x + 1)), a8] st σ Q := gk_iinc rfl rfl rfl rfl
theorem g141_342 {L : sl_L} : sl_Go xs N 141 342 L st σ Q ↔ sl_Go xs N 141 156 L st σ Q := gk_goto rfl
theorem g141_345 {L : sl_L} : sl_Go xs N 141 345 L st σ Q ↔ sl_Go xs N 141 346 L (.inl 0 :: st) σ Q := gk_const rfl
theorem g141_346n {x : Int32} {a0 a1 a2 a3 a4 a5 a7 a8 : Option sl_V} : sl_Go xs N 141 346 [a0, a1, a2, a3, a4, a5, none, a7, a8] (.inl x :: st) σ Q ↔ sl_Go xs N 141 348 [a0, a1, a2, a3, a4, a5, none, some (.inl x), a8] st σ Q := gk_istore rfl ⟨Nat.le_of_ble_eq_true rfl, rfl⟩ rfl
theorem g141_346i {x : Int32} {z : Int32} {a0 a1 a2 a3 a4 a5 a7 a8 : Option sl_V} : sl_Go xs N 141 346 [a0, a1, a2, a3, a4, a5, some (.inl z), a7, a8] (.inl x :: st) σ Q ↔ sl_Go xs N 141 348 [a0, a1, a2, a3, a4, a5, some (.inl z), some (.inl x), a8] st σ Q := gk_istore rfl ⟨Nat.le_of_ble_eq_true rfl, rfl⟩ rfl
theorem g141_346r {x : Int32} {z : sl_R} {a0 a1 a2 a3 a4 a5 a7 a8 : Option sl_V} : sl_Go xs N 141 346 [a0, a1, a2, a3, a4, a5, some (.inr (.inr z)), a7, a8] (.inl x :: st) σ Q ↔ sl_Go xs N 141 348 [a0, a1, a2, a3, a4, a5, some (.inr (.inr z)), some (.inl x), a8] st σ Q := gk_istore rfl ⟨Nat.le_of_ble_eq_true rfl, rfl⟩ rfl
theorem g141_348 {x : Int32} {a0 a1 a2 a3 a4 a5 a6 a8 : Option sl_V} : sl_Go xs N 141 348 [a0, a1, a2, a3, a4, a5, a6, some (.inl x), a8] st σ Q ↔ sl_Go xs N 141 350 [a0, a1, a2, a3, a4, a5, a6, some (.inl x), a8] (.inl x :: st) σ Q := gk_iload rfl rfl
theorem g141_350 {L : sl_L} : sl_Go xs N 141 350 L st σ Q ↔ sl_Go xs N 141 352 L (.inl 12 :: st) σ Q := gk_const rfl
theorem g141_352 {L : sl_L} {x y : Int32} : sl_Go xs N 141 352 L (.inl y :: .inl x :: st) σ Q ↔ (y ≤ x → sl_Go xs N 141 380 L st σ Q) ∧ (¬ y ≤ x → sl_Go xs N 141 355 L st σ Q) := gk_ige rfl
theorem g141_355 {x : sl_R} {a1 a2 a3 a4 a5 a6 a7 a8 : Option sl_V} : sl_Go xs N 141 355 [some (.inr (.inr x)), a1, a2, a3, a4, a5, a6, a7, a8] st σ Q ↔ sl_Go xs N 141 356 [some (.inr (.inr x)), a1, a2, a3, a4, a5, a6, a7, a8] (.inr (.inr x) :: st) σ Q := gk_aload rfl rfl
theorem g141_356 {L : sl_L} {i t : Nat} : sl_Go xs N 141 356 L (.inr (.inr (40, i, t)) :: st) σ Q ↔ sl_Go xs N 141 359 L (.inr (.inr (51, 0, 0)) :: st) σ Q := gk_get (g := .inr (51, 0, 0)) rfl rfl rfl
theorem g141_359 {L : sl_L} : sl_Go xs N 141 359 L st σ Q ↔ sl_Go xs N 141 361 L (.inl 12 :: st) σ Q := gk_const rfl
theorem g141_361 {x : Int32} {a0 a2 a3 a4 a5 a6 a7 a8 : Option sl_V} : sl_Go xs N 141 361 [a0, some (.inl x), a2, a3, a4, a5, a6, a7, a8] st σ Q ↔ sl_Go xs N 141 362 [a0, some (.inl x), a2, a3, a4, a5, a6, a7, a8] (.inl x :: st) σ Q := gk_iload rfl rfl
theorem g141_362 {L : sl_L} {x y : Int32} : sl_Go xs N 141 362 L (.inl y :: .inl x :: st) σ Q ↔ sl_Go xs N 141 363 L (.inl (x * y) :: st) σ Q := gk_bin (b := 10) rfl
theorem g141_363 {x : Int32} {a0 a1 a2 a3 a4 a5 a6 a8 : Option sl_V} : sl_Go xs N 141 363 [a0, a1, a2, a3, a4, a5, a6, some (.inl x), a8] st σ Q ↔ sl_Go xs N 141 365 [a0, a1, a2, a3, a4, a5, a6, some (.inl x), a8] (.inl x :: st) σ Q := gk_iload rfl rfl
theorem g141_365 {L : sl_L} {x y : Int32} : sl_Go xs N 141 365 L (.inl y :: .inl x :: st) σ Q ↔ sl_Go xs N 141 366 L (.inl (x + y) :: st) σ Q := gk_bin (b := 8) rfl
theorem g141_366 {x : sl_R} {a1 a2 a3 a4 a5 a6 a7 a8 : Option sl_V} : sl_Go xs N 141 366 [some (.inr (.inr x)), a1, a2, a3, a4, a5, a6, a7, a8] st σ Q ↔ sl_Go xs N 141 367 [some (.inr (.inr x)), a1, a2, a3, a4, a5, a6, a7, a8] (.inr (.inr x) :: st) σ Q := gk_aload rfl rfl
theorem g141_367 {L : sl_L} {i t : Nat} : sl_Go xs N 141 367 L (.inr (.inr (40, i, t)) :: st) σ Q ↔ sl_Go xs N 141 370 L (.inr (.inr (62, 0, 0)) :: st) σ Q := gk_get (g := .inr (62, 0, 0)) rfl rfl rfl
theorem g141_370 {x : Int32} {a0 a1 a2 a3 a4 a5 a6 a8 : Option sl_V} : sl_Go xs N 141 370 [a0, a1, a2, a3, a4, a5, a6, some (.inl x), a8] st σ Q ↔ sl_Go xs N 141 372 [a0, a1, a2, a3, a4, a5, a6, some (.inl x), a8] (.inl x :: st) σ Q := gk_iload rfl rfl
theorem g141_372 {L : sl_L} {j : Int32} {r : sl_R} : sl_Go xs N 141 372 L (.inl j :: .inr (.inr r) :: st) σ Q ↔ (0 ≤ j.toInt ∧ j.toInt < sl_wlen r 2) ∧ sl_Go xs N 141 373 L (.inl (sl_rd xs σ r j.toNatClampNeg) :: st) σ Q := gk_bald rfl
theorem g141_373 {L : sl_L} {j x : Int32} {r : sl_R} : sl_Go xs N 141 373 L (.inl x :: .inl j :: .inr (.inr r) :: st) σ Q ↔ ((0 ≤ j.toInt ∧ j.toInt < sl_wlen r 2) ∧ (x = 0 ∨ x = 1)) ∧ sl_Go xs N 141 374 L st (sl_wr σ r j.toNatClampNeg x) Q := gk_zast rfl
theorem g141_374n {x : Int32} {a0 a1 a2 a3 a4 a5 a8 : Option sl_V} : sl_Go xs N 141 374 [a0, a1, a2, a3, a4, a5, none, some (.inl x), a8] st σ Q ↔ sl_Go xs N 141 377 [a0, a1, a2, a3, a4, a5, none, some (.inl (x + 1)), a8] st σ Q := gk_iinc rfl rfl rfl rfl
theorem g141_374i {x : Int32} {z : Int32} {a0 a1 a2 a3 a4 a5 a8 : Option sl_V} : sl_Go xs N 141 374 [a0, a1, a2, a3, a4, a5, some (.inl z), some (.inl x), a8] st σ Q ↔ sl_Go xs N 141 377 [a0, a1, a2, a3, a4, a5, some (.inl z), some (.inl (x + 1)), a8] st σ Q := gk_iinc rfl rfl rfl rfl
theorem g141_374r {x : Int32} {z : sl_R} {a0 a1 a2 a3 a4 a5 a8 : Option sl_V} : sl_Go xs N 141 374 [a0, a1, a2, a3, a4, a5, some (.inr (.inr z)), some (.inl x), a8] st σ Q ↔ sl_Go xs N 141 377 [a0, a1, a2, a3, a4, a5, some (.inr (.inr z)), some (.inl (x + 1)), a8] st σ Q := gk_iinc rfl rfl rfl rfl
theorem g141_377 {L : sl_L} : sl_Go xs N 141 377 L st σ Q ↔ sl_Go xs N 141 348 L st σ Q := gk_goto rfl
theorem g141_380 {x : sl_R} {a1 a2 a3 a4 a5 a6 a7 a8 : Option sl_V} : sl_Go xs N 141 380 [some (.inr (.inr x)), a1, a2, a3, a4, a5, a6, a7, a8] st σ Q ↔ sl_Go xs N 141 381 [some (.inr (.inr x)), a1, a2, a3, a4, a5, a6, a7, a8] (.inr (.inr x) :: st) σ Q := gk_aload rfl rfl
theorem g141_381 {x : Int32} {a0 a1 a2 a3 a4 a5 a7 a8 : Option sl_V} : sl_Go xs N 141 381 [a0, a1, a2, a3, a4, a5, some (.inl x), a7, a8] st σ Q ↔ sl_Go xs N 141 383 [a0, a1, a2, a3, a4, a5, some (.inl x), a7, a8] (.inl x :: st) σ Q := gk_iload rfl rfl
theorem g141_383 {L : sl_L} {x : Int32} {i t : Nat} : sl_Go xs N 141 383 L (.inl x :: .inr (.inr (40, i, t)) :: st) σ Q ↔ sl_Go xs N 141 386 L st (sl_up σ 8 0 2 x) Q := gk_put0 (q := (8, 0, 2)) rfl rfl rfl
theorem g141_386 {x : Int32} {a0 a1 a2 a3 a4 a6 a7 a8 : Option sl_V} : sl_Go xs N 141 386 [a0, a1, a2, a3, a4, some (.inl x), a6, a7, a8] st σ Q ↔ sl_Go xs N 141 388 [a0, a1, a2, a3, a4, some (.inl x), a6, a7, a8] (.inl x :: st) σ Q := gk_iload rfl rfl
theorem g141_388 {L : sl_L} {x : Int32} : sl_Go xs N 141 388 L [.inl x] σ Q ↔ Q (some (.inl x)) σ := gk_iret rfl
theorem g142_0 {x : sl_R} : sl_Go xs N 142 0 [some (.inr (.inr x))] st σ Q ↔ sl_Go xs N 142 1 [some (.inr (.inr x))] (.inr (.inr x) :: st) σ Q := gk_aload rfl rfl
theorem g142_1 {L : sl_L} {i t : Nat} : sl_Go xs N 142 1 L (.inr (.inr (40, i, t)) :: st) σ Q ↔ sl_Go xs N 142 4 L (.inl (σ 8 0 2) :: st) σ Q := gk_get (g := .inl (8, 0, 2)) rfl rfl rfl
theorem g142_4 {L : sl_L} {x : Int32} : sl_Go xs N 142 4 L [.inl x] σ Q ↔ Q (some (.inl x)) σ := gk_iret rfl
theorem g143_0 {x : Int32} {a0 a2 a3 a4 a5 a6 : Option sl_V} : sl_Go xs N 143 0 [a0, some (.inl x), a2, a3, a4, a5, a6] st σ Q ↔ sl_Go xs N 143 1 [a0, some (.inl x), a2, a3, a4, a5, a6] (.inl x :: st) σ Q := gk_iload rfl rfl
theorem g143_1n {x : Int32} {a0 a2 a3 a4 a5 a6 : Option sl_V} : sl_Go xs N 143 1 [a0, none, a2, a3, a4, a5, a6] (.inl x :: st) σ Q ↔ sl_Go xs N 143 2 [a0, none, some (.inl x), a3, a4, a5, a6] st σ Q := gk_istore rfl ⟨Nat.le_of_ble_eq_true rfl, rfl⟩ rfl
theorem g143_1i {x : Int32} {z : Int32} {a0 a2 a3 a4 a5 a6 : Option sl_V} : sl_Go xs N 143 1 [a0, some (.inl z), a2, a3, a4, a5, a6] (.inl x :: st) σ Q ↔ sl_Go xs N 143 2 [a0, some (.inl z), some (.inl x), a3, a4, a5, a6] st σ Q := gk_istore rfl ⟨Nat.le_of_ble_eq_true rfl, rfl⟩ rfl
theorem g143_1r {x : Int32} {z : sl_R} {a0 a2 a3 a4 a5 a6 : Option sl_V} : sl_Go xs N 143 1 [a0, some (.inr (.inr z)), a2, a3, a4, a5, a6] (.inl x :: st) σ Q ↔ sl_Go xs N 143 2 [a0, some (.inr (.inr z)), some (.inl x), a3, a4, a5, a6] st σ Q := gk_istore rfl ⟨Nat.le_of_ble_eq_true rfl, rfl⟩ rfl
theorem g143_2 {x : sl_R} {a1 a2 a3 a4 a5 a6 : Option sl_V} : sl_Go xs N 143 2 [some (.inr (.inr x)), a1, a2, a3, a4, a5, a6] st σ Q ↔ sl_Go xs N 143 3 [some (.inr (.inr x)), a1, a2, a3, a4, a5, a6] (.inr (.inr x) :: st) σ Q := gk_aload rfl rfl
theorem g143_3 {L : sl_L} {i t : Nat} : sl_Go xs N 143 3 L (.inr (.inr (40, i, t)) :: st) σ Q ↔ sl_Go xs N 143 6 L (.inl (σ 6 0 0) :: st) σ Q := gk_get (g := .inl (6, 0, 0)) rfl rfl rfl
theorem g143_6 {L : sl_L} : sl_Go xs N 143 6 L st σ Q ↔ sl_Go xs N 143 7 L (.inl 1 :: st) σ Q := gk_const rfl
theorem g143_7 {L : sl_L} {x y : Int32} : sl_Go xs N 143 7 L (.inl y :: .inl x :: st) σ Q ↔ sl_Go xs N 143 8 L (.inl (x - y) :: st) σ Q := gk_bin (b := 9) rfl
theorem g143_8n {x : Int32} {a0 a1 a3 a4 a5 a6 : Option sl_V} : sl_Go xs N 143 8 [a0, a1, none, a3, a4, a5, a6] (.inl x :: st) σ Q ↔ sl_Go xs N 143 9 [a0, a1, none, some (.inl x), a4, a5, a6] st σ Q := gk_istore rfl ⟨Nat.le_of_ble_eq_true rfl, rfl⟩ rfl
theorem g143_8i {x : Int32} {z : Int32} {a0 a1 a3 a4 a5 a6 : Option sl_V} : sl_Go xs N 143 8 [a0, a1, some (.inl z), a3, a4, a5, a6] (.inl x :: st) σ Q ↔ sl_Go xs N 143 9 [a0, a1, some (.inl z), some (.inl x), a4, a5, a6] st σ Q := gk_istore rfl ⟨Nat.le_of_ble_eq_true rfl, rfl⟩ rfl
theorem g143_8r {x : Int32} {z : sl_R} {a0 a1 a3 a4 a5 a6 : Option sl_V} : sl_Go xs N 143 8 [a0, a1, some (.inr (.inr z)), a3, a4, a5, a6] (.inl x :: st) σ Q ↔ sl_Go xs N 143 9 [a0, a1, some (.inr (.inr z)), some (.inl x), a4, a5, a6] st σ Q := gk_istore rfl ⟨Nat.le_of_ble_eq_true rfl, rfl⟩ rfl
theorem g143_9 {x : Int32} {a0 a1 a2 a4 a5 a6 : Option sl_V} : sl_Go xs N 143 9 [a0, a1, a2, some (.inl x), a4, a5, a6] st σ Q ↔ sl_Go xs N 143 10 [a0, a1, a2, some (.inl x), a4, a5, a6] (.inl x :: st) σ Q := gk_iload rfl rfl
theorem g143_10 {L : sl_L} {x : Int32} : sl_Go xs N 143 10 L (.inl x :: st) σ Q ↔ (x < 0 → sl_Go xs N 143 42 L st σ Q) ∧ (¬ x < 0 → sl_Go xs N 143 13 L st σ Q) := gk_zlt rfl
theorem g143_13 {x : sl_R} {a1 a2 a3 a4 a5 a6 : Option sl_V} : sl_Go xs N 143 13 [some (.inr (.inr x)), a1, a2, a3, a4, a5, a6] st σ Q ↔ sl_Go xs N 143 14 [some (.inr (.inr x)), a1, a2, a3, a4, a5, a6] (.inr (.inr x) :: st) σ Q := gk_aload rfl rfl
theorem g143_14 {L : sl_L} {i t : Nat} : sl_Go xs N 143 14 L (.inr (.inr (40, i, t)) :: st) σ Q ↔ sl_Go xs N 143 17 L (.inr (.inr (65, 0, 0)) :: st) σ Q := gk_get (g := .inr (65, 0, 0)) rfl rfl rfl
theorem g143_17 {x : Int32} {a0 a1 a2 a4 a5 a6 : Option sl_V} : sl_Go xs N 143 17 [a0, a1, a2, some (.inl x), a4, a5, a6] st σ Q ↔ sl_Go xs N 143 18 [a0, a1, a2, some (.inl x), a4, a5, a6] (.inl x :: st) σ Q := gk_iload rfl rfl
theorem g143_18 {x : Int32} {a0 a1 a3 a4 a5 a6 : Option sl_V} : sl_Go xs N 143 18 [a0, a1, some (.inl x), a3, a4, a5, a6] st σ Q ↔ sl_Go xs N 143 19 [a0, a1, some (.inl x), a3, a4, a5, a6] (.inl x :: st) σ Q := gk_iload rfl rfl
theorem g143_19 {x : sl_R} {a1 a2 a3 a4 a5 a6 : Option sl_V} : sl_Go xs N 143 19 [some (.inr (.inr x)), a1, a2, a3, a4, a5, a6] st σ Q ↔ sl_Go xs N 143 20 [some (.inr (.inr x)), a1, a2, a3, a4, a5, a6] (.inr (.inr x) :: st) σ Q := gk_aload rfl rfl
theorem g143_20 {L : sl_L} {i t : Nat} : sl_Go xs N 143 20 L (.inr (.inr (40, i, t)) :: st) σ Q ↔ sl_Go xs N 143 23 L (.inl (σ 6 0 0) :: st) σ Q := gk_get (g := .inl (6, 0, 0)) rfl rfl rfl
theorem g143_23 {x : Int32} {a0 a1 a2 a4 a5 a6 : Option sl_V} : sl_Go xs N 143 23 [a0, a1, a2, some (.inl x), a4, a5, a6] st σ Q ↔ sl_Go xs N 143 24 [a0, a1, a2, some (.inl x), a4, a5, a6] (.inl x :: st) σ Q := gk_iload rfl rfl
theorem g143_24 {L : sl_L} {x y : Int32} : sl_Go xs N 143 24 L (.inl y :: .inl x :: st) σ Q ↔ sl_Go xs N 143 25 L (.inl (x - y) :: st) σ Q := gk_bin (b := 9) rfl
theorem g143_25 {L : sl_L} {x y : Int32} : sl_Go xs N 143 25 L (.inl y :: .inl x :: st) σ Q ↔ ¬ y = 0 ∧ sl_Go xs N 143 26 L (.inl (x - x / y * y) :: st) σ Q := gk_irem rfl
theorem g143_26 {L : sl_L} {j x : Int32} {r : sl_R} : sl_Go xs N 143 26 L (.inl x :: .inl j :: .inr (.inr r) :: st) σ Q ↔ (0 ≤ j.toInt ∧ j.toInt < sl_wlen r 0) ∧ sl_Go xs N 143 27 L st (sl_wr σ r j.toNatClampNeg x) Q := gk_iast rfl
theorem g143_27 {x : Int32} {a0 a1 a3 a4 a5 a6 : Option sl_V} : sl_Go xs N 143 27 [a0, a1, some (.inl x), a3, a4, a5, a6] st σ Q ↔ sl_Go xs N 143 28 [a0, a1, some (.inl x), a3, a4, a5, a6] (.inl x :: st) σ Q := gk_iload rfl rfl
theorem g143_28 {x : sl_R} {a1 a2 a3 a4 a5 a6 : Option sl_V} : sl_Go xs N 143 28 [some (.inr (.inr x)), a1, a2, a3, a4, a5, a6] st σ Q ↔ sl_Go xs N 143 29 [some (.inr (.inr x)), a1, a2, a3, a4, a5, a6] (.inr (.inr x) :: st) σ Q := gk_aload rfl rfl
theorem g143_29 {L : sl_L} {i t : Nat} : sl_Go xs N 143 29 L (.inr (.inr (40, i, t)) :: st) σ Q ↔ sl_Go xs N 143 32 L (.inl (σ 6 0 0) :: st) σ Q := gk_get (g := .inl (6, 0, 0)) rfl rfl rfl
theorem g143_32 {x : Int32} {a0 a1 a2 a4 a5 a6 : Option sl_V} : sl_Go xs N 143 32 [a0, a1, a2, some (.inl x), a4, a5, a6] st σ Q ↔ sl_Go xs N 143 33 [a0, a1, a2, some (.inl x), a4, a5, a6] (.inl x :: st) σ Q := gk_iload rfl rfl
theorem g143_33 {L : sl_L} {x y : Int32} : sl_Go xs N 143 33 L (.inl y :: .inl x :: st) σ Q ↔ sl_Go xs N 143 34 L (.inl (x - y) :: st) σ Q := gk_bin (b := 9) rfl
theorem g143_34 {L : sl_L} {x y : Int32} : sl_Go xs N 143 34 L (.inl y :: .inl x :: st) σ Q ↔ ¬ y = 0 ∧ sl_Go xs N 143 35 L (.inl (x / y) :: st) σ Q := gk_idiv rfl
theorem g143_35n {x : Int32} {a0 a2 a3 a4 a5 a6 : Option sl_V} : sl_Go xs N 143 35 [a0, none, a2, a3, a4, a5, a6] (.inl x :: st) σ Q ↔ sl_Go xs N 143 36 [a0, none, some (.inl x), a3, a4, a5, a6] st σ Q := gk_istore rfl ⟨Nat.le_of_ble_eq_true rfl, rfl⟩ rfl
theorem g143_35i {x : Int32} {z : Int32} {a0 a2 a3 a4 a5 a6 : Option sl_V} : sl_Go xs N 143 35 [a0, some (.inl z), a2, a3, a4, a5, a6] (.inl x :: st) σ Q ↔ sl_Go xs N 143 36 [a0, some (.inl z), some (.inl x), a3, a4, a5, a6] st σ Q := gk_istore rfl ⟨Nat.le_of_ble_eq_true rfl, rfl⟩ rfl
theorem g143_35r {x : Int32} {z : sl_R} {a0 a2 a3 a4 a5 a6 : Option sl_V} : sl_Go xs N 143 35 [a0, some (.inr (.inr z)), a2, a3, a4, a5, a6] (.inl x :: st) σ Q ↔ sl_Go xs N 143 36 [a0, some (.inr (.inr z)), some (.inl x), a3, a4, a5, a6] st σ Q := gk_istore rfl ⟨Nat.le_of_ble_eq_true rfl, rfl⟩ rfl
theorem g143_36n {x : Int32} {a0 a1 a4 a5 a6 : Option sl_V} : sl_Go xs N 143 36 [a0, a1, none, some (.inl x), a4, a5, a6] st σ Q ↔ sl_Go xs N 143 39 [a0, a1, none, some (.inl (x + (-1))), a4, a5, a6] st σ Q := gk_iinc rfl rfl rfl rfl
theorem g143_36i {x : Int32} {z : Int32} {a0 a1 a4 a5 a6 : Option sl_V} : sl_Go xs N 143 36 [a0, a1, some (.inl z), some (.inl x), a4, a5, a6] st σ Q ↔ sl_Go xs N 143 39 [a0, a1, some (.inl z), some (.inl (x + (-1))), a4, a5, a6] st σ Q := gk_iinc rfl rfl rfl rfl
theorem g143_36r {x : Int32} {z : sl_R} {a0 a1 a4 a5 a6 : Option sl_V} : sl_Go xs N 143 36 [a0, a1, some (.inr (.inr z)), some (.inl x), a4, a5, a6] st σ Q ↔ sl_Go xs N 143 39 [a0, a1, some (.inr (.inr z)), some (.inl (x + (-1))), a4, a5, a6] st σ Q := gk_iinc rfl rfl rfl rfl
theorem g143_39 {L : sl_L} : sl_Go xs N 143 39 L st σ Q ↔ sl_Go xs N 143 9 L st σ Q := gk_goto rfl
theorem g143_42 {L : sl_L} : sl_Go xs N 143 42 L st σ Q ↔ sl_Go xs N 143 43 L (.inl 0 :: st) σ Q := gk_const rfl
theorem g143_43n {x : Int32} {a0 a1 a3 a4 a5 a6 : Option sl_V} : sl_Go xs N 143 43 [a0, a1, none, a3, a4, a5, a6] (.inl x :: st) σ Q ↔ sl_Go xs N 143 44 [a0, a1, none, some (.inl x), a4, a5, a6] st σ Q := gk_istore rfl ⟨Nat.le_of_ble_eq_true rfl, rfl⟩ rfl
theorem g143_43i {x : Int32} {z : Int32} {a0 a1 a3 a4 a5 a6 : Option sl_V} : sl_Go xs N 143 43 [a0, a1, some (.inl z), a3, a4, a5, a6] (.inl x :: st) σ Q ↔ sl_Go xs N 143 44 [a0, a1, some (.inl z), some (.inl x), a4, a5, a6] st σ Q := gk_istore rfl ⟨Nat.le_of_ble_eq_true rfl, rfl⟩ rfl
theorem g143_43r {x : Int32} {z : sl_R} {a0 a1 a3 a4 a5 a6 : Option sl_V} : sl_Go xs N 143 43 [a0, a1, some (.inr (.inr z)), a3, a4, a5, a6] (.inl x :: st) σ Q ↔ sl_Go xs N 143 44 [a0, a1, some (.inr (.inr z)), some (.inl x), a4, a5, a6] st σ Q := gk_istore rfl ⟨Nat.le_of_ble_eq_true rfl, rfl⟩ rfl
theorem g143_44 {L : sl_L} : sl_Go xs N 143 44 L st σ Q ↔ sl_Go xs N 143 45 L (.inl 0 :: st) σ Q := gk_const rfl
theorem g143_45n {x : Int32} {a0 a1 a2 a4 a5 a6 : Option sl_V} : sl_Go xs N 143 45 [a0, a1, a2, none, a4, a5, a6] (.inl x :: st) σ Q ↔ sl_Go xs N 143 47 [a0, a1, a2, none, some (.inl x), a5, a6] st σ Q := gk_istore rfl ⟨Nat.le_of_ble_eq_true rfl, rfl⟩ rfl
theorem g143_45i {x : Int32} {z : Int32} {a0 a1 a2 a4 a5 a6 : Option sl_V} : sl_Go xs N 143 45 [a0, a1, a2, some (.inl z), a4, a5, a6] (.inl x :: st) σ Q ↔ sl_Go xs N 143 47 [a0, a1, a2, some (.inl z), some (.inl x), a5, a6] st σ Q := gk_istore rfl ⟨Nat.le_of_ble_eq_true rfl, rfl⟩ rfl
theorem g143_45r {x : Int32} {z : sl_R} {a0 a1 a2 a4 a5 a6 : Option sl_V} : sl_Go xs N 143 45 [a0, a1, a2, some (.inr (.inr z)), a4, a5, a6] (.inl x :: st) σ Q ↔ sl_Go xs N 143 47 [a0, a1, a2, some (.inr (.inr z)), some (.inl x), a5, a6] st σ Q := gk_istore rfl ⟨Nat.le_of_ble_eq_true rfl, rfl⟩ rfl
theorem g143_47 {x : Int32} {a0 a1 a2 a3 a5 a6 : Option sl_V} : sl_Go xs N 143 47 [a0, a1, a2, a3, some (.inl x), a5, a6] st σ Q ↔ sl_Go xs N 143 49 [a0, a1, a2, a3, some (.inl x), a5, a6] (.inl x :: st) σ Q := gk_iload rfl rfl
theorem g143_49 {x : sl_R} {a1 a2 a3 a4 a5 a6 : Option sl_V} : sl_Go xs N 143 49 [some (.inr (.inr x)), a1, a2, a3, a4, a5, a6] st σ Q ↔ sl_Go xs N 143 50 [some (.inr (.inr x)), a1, a2, a3, a4, a5, a6] (.inr (.inr x) :: st) σ Q := gk_aload rfl rfl
theorem g143_50 {L : sl_L} {i t : Nat} : sl_Go xs N 143 50 L (.inr (.inr (40, i, t)) :: st) σ Q ↔ sl_Go xs N 143 53 L (.inl (σ 6 0 0) :: st) σ Q := gk_get (g := .inl (6, 0, 0)) rfl rfl rfl
theorem g143_53 {L : sl_L} {x y : Int32} : sl_Go xs N 143 53 L (.inl y :: .inl x :: st) σ Q ↔ (y ≤ x → sl_Go xs N 143 131 L st σ Q) ∧ (¬ y ≤ x → sl_Go xs N 143 56 L st σ Q) := gk_ige rfl
theorem g143_56 {x : sl_R} {a1 a2 a3 a4 a5 a6 : Option sl_V} : sl_Go xs N 143 56 [some (.inr (.inr x)), a1, a2, a3, a4, a5, a6] st σ Q ↔ sl_Go xs N 143 57 [some (.inr (.inr x)), a1, a2, a3, a4, a5, a6] (.inr (.inr x) :: st) σ Q := gk_aload rfl rfl
theorem g143_57 {L : sl_L} {i t : Nat} : sl_Go xs N 143 57 L (.inr (.inr (40, i, t)) :: st) σ Q ↔ sl_Go xs N 143 60 L (.inr (.inr (65, 0, 0)) :: st) σ Q := gk_get (g := .inr (65, 0, 0)) rfl rfl rfl
theorem g143_60 {x : Int32} {a0 a1 a2 a3 a5 a6 : Option sl_V} : sl_Go xs N 143 60 [a0, a1, a2, a3, some (.inl x), a5, a6] st σ Q ↔ sl_Go xs N 143 62 [a0, a1, a2, a3, some (.inl x), a5, a6] (.inl x :: st) σ Q := gk_iload rfl rfl
theorem g143_62 {L : sl_L} {j : Int32} {r : sl_R} : sl_Go xs N 143 62 L (.inl j :: .inr (.inr r) :: st) σ Q ↔ (0 ≤ j.toInt ∧ j.toInt < sl_ilen N r) ∧ sl_Go xs N 143 63 L (.inl (sl_rd xs σ r j.toNatClampNeg) :: st) σ Q := gk_iald rfl
theorem g143_63n {x : Int32} {a0 a1 a2 a3 a5 a6 : Option sl_V} : sl_Go xs N 143 63 [a0, a1, a2, a3, none, a5, a6] (.inl x :: st) σ Q ↔ sl_Go xs N 143 65 [a0, a1, a2, a3, none, some (.inl x), a6] st σ Q := gk_istore rfl ⟨Nat.le_of_ble_eq_true rfl, rfl⟩ rfl
theorem g143_63i {x : Int32} {z : Int32} {a0 a1 a2 a3 a5 a6 : Option sl_V} : sl_Go xs N 143 63 [a0, a1, a2, a3, some (.inl z), a5, a6] (.inl x :: st) σ Q ↔ sl_Go xs N 143 65 [a0, a1, a2, a3, some (.inl z), some (.inl x), a6] st σ Q := gk_istore rfl ⟨Nat.le_of_ble_eq_true rfl, rfl⟩ rfl
theorem g143_63r {x : Int32} {z : sl_R} {a0 a1 a2 a3 a5 a6 : Option sl_V} : sl_Go xs N 143 63 [a0, a1, a2, a3, some (.inr (.inr z)), a5, a6] (.inl x :: st) σ Q ↔ sl_Go xs N 143 65 [a0, a1, a2, a3, some (.inr (.inr z)), some (.inl x), a6] st σ Q := gk_istore rfl ⟨Nat.le_of_ble_eq_true rfl, rfl⟩ rfl
theorem g143_65 {L : sl_L} : sl_Go xs N 143 65 L st σ Q ↔ sl_Go xs N 143 66 L (.inl 0 :: st) σ Q := gk_const rfl
theorem g143_66n {x : Int32} {a0 a1 a2 a3 a4 a6 : Option sl_V} : sl_Go xs N 143 66 [a0, a1, a2, a3, a4, none, a6] (.inl x :: st) σ Q ↔ sl_Go xs N 143 68 [a0, a1, a2, a3, a4, none, some (.inl x)] st σ Q := gk_istore rfl ⟨Nat.le_of_ble_eq_true rfl, rfl⟩ rfl
theorem g143_66i {x : Int32} {z : Int32} {a0 a1 a2 a3 a4 a6 : Option sl_V} : sl_Go xs N 143 66 [a0, a1, a2, a3, a4, some (.inl z), a6] (.inl x :: st) σ Q ↔ sl_Go xs N 143 68 [a0, a1, a2, a3, a4, some (.inl z), some (.inl x)] st σ Q := gk_istore rfl ⟨Nat.le_of_ble_eq_true rfl, rfl⟩ rfl
theorem g143_66r {x : Int32} {z : sl_R} {a0 a1 a2 a3 a4 a6 : Option sl_V} : sl_Go xs N 143 66 [a0, a1, a2, a3, a4, some (.inr (.inr z)), a6] (.inl x :: st) σ Q ↔ sl_Go xs N 143 68 [a0, a1, a2, a3, a4, some (.inr (.inr z)), some (.inl x)] st σ Q := gk_istore rfl ⟨Nat.le_of_ble_eq_true rfl, rfl⟩ rfl
theorem g143_68 {x : Int32} {a0 a1 a2 a4 a5 a6 : Option sl_V} : sl_Go xs N 143 68 [a0, a1, a2, some (.inl x), a4, a5, a6] st σ Q ↔ sl_Go xs N 143 69 [a0, a1, a2, some (.inl x), a4, a5, a6] (.inl x :: st) σ Q := gk_iload rfl rfl
theorem g143_69 {x : Int32} {a0 a1 a2 a3 a4 a5 : Option sl_V} : sl_Go xs N 143 69 [a0, a1, a2, a3, a4, a5, some (.inl x)] st σ Q ↔ sl_Go xs N 143 71 [a0, a1, a2, a3, a4, a5, some (.inl x)] (.inl x :: st) σ Q := gk_iload rfl rfl
theorem g143_71 {L : sl_L} {x y : Int32} : sl_Go xs N 143 71 L (.inl y :: .inl x :: st) σ Q ↔ sl_Go xs N 143 72 L (.inl (x >>> (y &&& 31)) :: st) σ Q := gk_bin (b := 15) rfl
theorem g143_72 {L : sl_L} : sl_Go xs N 143 72 L st σ Q ↔ sl_Go xs N 143 73 L (.inl 1 :: st) σ Q := gk_const rfl
theorem g143_73 {L : sl_L} {x y : Int32} : sl_Go xs N 143 73 L (.inl y :: .inl x :: st) σ Q ↔ sl_Go xs N 143 74 L (.inl (x &&& y) :: st) σ Q := gk_bin (b := 11) rfl
theorem g143_74 {L : sl_L} : sl_Go xs N 143 74 L st σ Q ↔ sl_Go xs N 143 75 L (.inl 1 :: st) σ Q := gk_const rfl
theorem g143_75 {L : sl_L} {x y : Int32} : sl_Go xs N 143 75 L (.inl y :: .inl x :: st) σ Q ↔ (x = y → sl_Go xs N 143 83 L st σ Q) ∧ (¬ x = y → sl_Go xs N 143 78 L st σ Q) := gk_ieq rfl
theorem g143_78 {x : Int32} {a0 a1 a2 a3 a4 a6 : Option sl_V} : sl_Go xs N 143 78 [a0, a1, a2, a3, a4, some (.inl x), a6] st σ Q ↔ sl_Go xs N 143 80 [a0, a1, a2, a3, a4, some (.inl x), a6] (.inl x :: st) σ Q := gk_iload rfl rfl
theorem g143_80 {L : sl_L} {x : Int32} : sl_Go xs N 143 80 L (.inl x :: st) σ Q ↔ (x ≤ 0 → sl_Go xs N 143 109 L st σ Q) ∧ (¬ x ≤ 0 → sl_Go xs N 143 83 L st σ Q) := gk_zle rfl
theorem g143_83 {x : Int32} {a0 a1 a2 a3 a4 a6 : Option sl_V} : sl_Go xs N 143 83 [a0, a1, a2, a3, a4, some (.inl x), a6] st σ Q ↔ sl_Go xs N 143 85 [a0, a1, a2, a3, a4, some (.inl x), a6] (.inl x :: st) σ Q := gk_iload rfl rfl
theorem g143_85 {x : Int32} {a0 a1 a2 a4 a5 a6 : Option sl_V} : sl_Go xs N 143 85 [a0, a1, a2, some (.inl x), a4, a5, a6] st σ Q ↔ sl_Go xs N 143 86 [a0, a1, a2, some (.inl x), a4, a5, a6] (.inl x :: st) σ Q := gk_iload rfl rfl
theorem g143_86 {x : Int32} {a0 a1 a2 a3 a4 a5 : Option sl_V} : sl_Go xs N 143 86 [a0, a1, a2, a3, a4, a5, some (.inl x)] st σ Q ↔ sl_Go xs N 143 88 [a0, a1, a2, a3, a4, a5, some (.inl x)] (.inl x :: st) σ Q := gk_iload rfl rfl
theorem g143_88 {L : sl_L} {x y : Int32} : sl_Go xs N 143 88 L (.inl y :: .inl x :: st) σ Q ↔ sl_Go xs N 143 89 L (.inl (x >>> (y &&& 31)) :: st) σ Q := gk_bin (b := 15) rfl
theorem g143_89 {L : sl_L} : sl_Go xs N 143 89 L st σ Q ↔ sl_Go xs N 143 90 L (.inl 1 :: st) σ Q := gk_const rfl
theorem g143_90 {L : sl_L} {x y : Int32} : sl_Go xs N 143 90 L (.inl y :: .inl x :: st) σ Q ↔ sl_Go xs N 143 91 L (.inl (x &&& y) :: st) σ Q := gk_bin (b := 11) rfl
theorem g143_91 {L : sl_L} : sl_Go xs N 143 91 L st σ Q ↔ sl_Go xs N 143 92 L (.inl 1 :: st) σ Q := gk_const rfl
theorem g143_92 {L : sl_L} {x y : Int32} : sl_Go xs N 143 92 L (.inl y :: .inl x :: st) σ Q ↔ (¬ x = y → sl_Go xs N 143 99 L st σ Q) ∧ (x = y → sl_Go xs N 143 95 L st σ Q) := gk_ine rfl
theorem g143_95 {L : sl_L} : sl_Go xs N 143 95 L st σ Q ↔ sl_Go xs N 143 96 L (.inl 0 :: st) σ Q := gk_const rfl
theorem g143_96 {L : sl_L} : sl_Go xs N 143 96 L st σ Q ↔ sl_Go xs N 143 100 L st σ Q := gk_goto rfl
theorem g143_99 {L : sl_L} : sl_Go xs N 143 99 L st σ Q ↔ sl_Go xs N 143 100 L (.inl 1 :: st) σ Q := gk_const rfl
theorem g143_100 {L : sl_L} {x y : Int32} : sl_Go xs N 143 100 L (.inl y :: .inl x :: st) σ Q ↔ sl_Go xs N 143 101 L (.inl (x - y) :: st) σ Q := gk_bin (b := 9) rfl
theorem g143_101n {x : Int32} {a0 a1 a2 a3 a5 a6 : Option sl_V} : sl_Go xs N 143 101 [a0, a1, a2, a3, none, a5, a6] (.inl x :: st) σ Q ↔ sl_Go xs N 143 103 [a0, a1, a2, a3, none, some (.inl x), a6] st σ Q := gk_istore rfl ⟨Nat.le_of_ble_eq_true rfl, rfl⟩ rfl
theorem g143_101i {x : Int32} {z : Int32} {a0 a1 a2 a3 a5 a6 : Option sl_V} : sl_Go xs N 143 101 [a0, a1, a2, a3, some (.inl z), a5, a6] (.inl x :: st) σ Q ↔ sl_Go xs N 143 103 [a0, a1, a2, a3, some (.inl z), some (.inl x), a6] st σ Q := gk_istore rfl ⟨Nat.le_of_ble_eq_true rfl, rfl⟩ rfl
theorem g143_101r {x : Int32} {z : sl_R} {a0 a1 a2 a3 a5 a6 : Option sl_V} : sl_Go xs N 143 101 [a0, a1, a2, a3, some (.inr (.inr z)), a5, a6] (.inl x :: st) σ Q ↔ sl_Go xs N 143 103 [a0, a1, a2, a3, some (.inr (.inr z)), some (.inl x), a6] st σ Q := gk_istore rfl ⟨Nat.le_of_ble_eq_true rfl, rfl⟩ rfl
theorem g143_103n {x : Int32} {a0 a1 a2 a3 a4 : Option sl_V} : sl_Go xs N 143 103 [a0, a1, a2, a3, a4, none, some (.inl x)] st σ Q ↔ sl_Go xs N 143 106 [a0, a1, a2, a3, a4, none, some (.inl (x + 1))] st σ Q := gk_iinc rfl rfl rfl rfl
theorem g143_103i {x : Int32} {z : Int32} {a0 a1 a2 a3 a4 : Option sl_V} : sl_Go xs N 143 103 [a0, a1, a2, a3, a4, some (.inl z), some (.inl x)] st σ Q ↔ sl_Go xs N 143 106 [a0, a1, a2, a3, a4, some (.inl z), some (.inl (x + 1))] st σ Q := gk_iinc rfl rfl rfl rfl
theorem g143_103r {x : Int32} {z : sl_R} {a0 a1 a2 a3 a4 : Option sl_V} : sl_Go xs N 143 103 [a0, a1, a2, a3, a4, some (.inr (.inr z)), some (.inl x)] st σ Q ↔ sl_Go xs N 143 106 [a0, a1, a2, a3, a4, some (.inr (.inr z)), some (.inl (x + 1))] st σ Q := gk_iinc rfl rfl rfl rfl
theorem g143_106 {L : sl_L} : sl_Go xs N 143 106 L st σ Q ↔ sl_Go xs N 143 68 L st σ Q := gk_goto rfl
theorem g143_109 {x : Int32} {a0 a1 a2 a4 a5 a6 : Option sl_V} : sl_Go xs N 143 109 [a0, a1, a2, some (.inl x), a4, a5, a6] st σ Q ↔ sl_Go xs N 143 110 [a0, a1, a2, some (.inl x), a4, a5, a6] (.inl x :: st) σ Q := gk_iload rfl rfl
theorem g143_110 {L : sl_L} : sl_Go xs N 143 110 L st σ Q ↔ sl_Go xs N 143 111 L (.inl 1 :: st) σ Q := gk_const rfl
theorem g143_111 {x : Int32} {a0 a1 a2 a3 a4 a5 : Option sl_V} : sl_Go xs N 143 111 [a0, a1, a2, a3, a4, a5, some (.inl x)] st σ Q ↔ sl_Go xs N 143 113 [a0, a1, a2, a3, a4, a5, some (.inl x)] (.inl x :: st) σ Q := gk_iload rfl rfl
theorem g143_113 {L : sl_L} {x y : Int32} : sl_Go xs N 143 113 L (.inl y :: .inl x :: st) σ Q ↔ sl_Go xs N 143 114 L (.inl (x <<< (y &&& 31)) :: st) σ Q := gk_bin (b := 14) rfl
theorem g143_114 {L : sl_L} {x y : Int32} : sl_Go xs N 143 114 L (.inl y :: .inl x :: st) σ Q ↔ sl_Go xs N 143 115 L (.inl (x ||| y) :: st) σ Q := gk_bin (b := 12) rfl
theorem g143_115n {x : Int32} {a0 a1 a3 a4 a5 a6 : Option sl_V} : sl_Go xs N 143 115 [a0, a1, none, a3, a4, a5, a6] (.inl x :: st) σ Q ↔ sl_Go xs N 143 116 [a0, a1, none, some (.inl x), a4, a5, a6] st σ Q := gk_istore rfl ⟨Nat.le_of_ble_eq_true rfl, rfl⟩ rfl
theorem g143_115i {x : Int32} {z : Int32} {a0 a1 a3 a4 a5 a6 : Option sl_V} : sl_Go xs N 143 115 [a0, a1, some (.inl z), a3, a4, a5, a6] (.inl x :: st) σ Q ↔ sl_Go xs N 143 116 [a0, a1, some (.inl z), some (.inl x), a4, a5, a6] st σ Q := gk_istore rfl ⟨Nat.le_of_ble_eq_true rfl, rfl⟩ rfl
theorem g143_115r {x : Int32} {z : sl_R} {a0 a1 a3 a4 a5 a6 : Option sl_V} : sl_Go xs N 143 115 [a0, a1, some (.inr (.inr z)), a3, a4, a5, a6] (.inl x :: st) σ Q ↔ sl_Go xs N 143 116 [a0, a1, some (.inr (.inr z)), some (.inl x), a4, a5, a6] st σ Q := gk_istore rfl ⟨Nat.le_of_ble_eq_true rfl, rfl⟩ rfl
theorem g143_116 {x : sl_R} {a1 a2 a3 a4 a5 a6 : Option sl_V} : sl_Go xs N 143 116 [some (.inr (.inr x)), a1, a2, a3, a4, a5, a6] st σ Q ↔ sl_Go xs N 143 117 [some (.inr (.inr x)), a1, a2, a3, a4, a5, a6] (.inr (.inr x) :: st) σ Q := gk_aload rfl rfl
theorem g143_117 {L : sl_L} {i t : Nat} : sl_Go xs N 143 117 L (.inr (.inr (40, i, t)) :: st) σ Q ↔ sl_Go xs N 143 120 L (.inr (.inr (63, 0, 0)) :: st) σ Q := gk_get (g := .inr (63, 0, 0)) rfl rfl rfl
theorem g143_120 {x : Int32} {a0 a1 a2 a3 a5 a6 : Option sl_V} : sl_Go xs N 143 120 [a0, a1, a2, a3, some (.inl x), a5, a6] st σ Q ↔ sl_Go xs N 143 122 [a0, a1, a2, a3, some (.inl x), a5, a6] (.inl x :: st) σ Q := gk_iload rfl rfl
theorem g143_122 {x : Int32} {a0 a1 a2 a3 a4 a5 : Option sl_V} : sl_Go xs N 143 122 [a0, a1, a2, a3, a4, a5, some (.inl x)] st σ Q ↔ sl_Go xs N 143 124 [a0, a1, a2, a3, a4, a5, some (.inl x)] (.inl x :: st) σ Q := gk_iload rfl rfl
theorem g143_124 {L : sl_L} {j x : Int32} {r : sl_R} : sl_Go xs N 143 124 L (.inl x :: .inl j :: .inr (.inr r) :: st) σ Q ↔ (0 ≤ j.toInt ∧ j.toInt < sl_wlen r 0) ∧ sl_Go xs N 143 125 L st (sl_wr σ r j.toNatClampNeg x) Q := gk_iast rfl
theorem g143_125n {x : Int32} {a0 a1 a2 a5 a6 : Option sl_V} : sl_Go xs N 143 125 [a0, a1, a2, none, some (.inl x), a5, a6] st σ Q ↔ sl_Go xs N 143 128 [a0, a1, a2, none, some (.inl (x + 1)), a5, a6] st σ Q := gk_iinc rfl rfl rfl rfl
theorem g143_125i {x : Int32} {z : Int32} {a0 a1 a2 a5 a6 : Option sl_V} : sl_Go xs N 143 125 [a0, a1, a2, some (.inl z), some (.inl x), a5, a6] st σ Q ↔ sl_Go xs N 143 128 [a0, a1, a2, some (.inl z), some (.inl (x + 1)), a5, a6] st σ Q := gk_iinc rfl rfl rfl rfl
theorem g143_125r {x : Int32} {z : sl_R} {a0 a1 a2 a5 a6 : Option sl_V} : sl_Go xs N 143 125 [a0, a1, a2, some (.inr (.inr z)), some (.inl x), a5, a6] st σ Q ↔ sl_Go xs N 143 128 [a0, a1, a2, some (.inr (.inr z)), some (.inl (x + 1)), a5, a6] st σ Q := gk_iinc rfl rfl rfl rfl
theorem g143_128 {L : sl_L} : sl_Go xs N 143 128 L st σ Q ↔ sl_Go xs N 143 47 L st σ Q := gk_goto rfl
theorem g143_131 {L : sl_L} : sl_Go xs N 143 131 L [] σ Q ↔ Q none σ := gk_vret rfl
end SLI
