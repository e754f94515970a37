section SLK
variable {xs : Nat → Int32} {N : Nat} {m pc nx a b : Nat} {v : Int32} {L : sl_L} {st : List sl_V} {σ : sl_S} {Q : Option sl_V → sl_S → Prop}
theorem gk_const (h : sl_code m pc = some (nx, 0, a, b, v)) : sl_Go xs N m pc L st σ Q ↔ sl_Go xs N m nx L (.inl v :: st) σ Q := sl_go_nx (sl_stepOf h)
theorem gk_iload {x : Int32} (h : sl_code m pc = some (nx, 1, a, b, v)) (hl : L[a]? = some (some (.inl x))) : sl_Go xs N m pc L st σ Q ↔ sl_Go xs N m nx L (.inl x :: st) σ Q :=
  sl_go_nx ((sl_stepOf h).trans (show (match L[a]? with | some (some (.inl x)) => sl_nx nx L (.inl x :: st) σ | _ => none) = _ by rw [hl]))
theorem gk_lload {x : Int64} (h : sl_code m pc = some (nx, 2, a, b, v)) (hl : L[a]? = some (some (.inr (.inl x)))) : sl_Go xs N m pc L st σ Q ↔ sl_Go xs N m nx L (.inr (.inl x) :: st) σ Q :=
  sl_go_nx ((sl_stepOf h).trans (show (match L[a]? with | some (some (.inr (.inl x))) => sl_nx nx L (.inr (.inl x) :: st) σ | _ => none) = _ by rw [hl]))
theorem gk_aload {x : sl_R} (h : sl_code m pc = some (nx, 3, a, b, v)) (hl : L[a]? = some (some (.inr (.inr x)))) : sl_Go xs N m pc L st σ Q ↔ sl_Go xs N m nx L (.inr (.inr x) :: st) σ Q :=
  sl_go_nx ((sl_stepOf h).trans (show (match L[a]? with | some (some (.inr (.inr x))) => sl_nx nx L (.inr (.inr x) :: st) σ | _ => none) = _ by rw [hl]))
theorem gk_istore {x : Int32} {L' : sl_L} (h : sl_code m pc = some (nx, 4, a, b, v)) (h1 : a < L.length ∧ sl_nl L a = true) (h2 : L.set a (some (.inl x)) = L') : sl_Go xs N m pc L (.inl x :: st) σ Q ↔ sl_Go xs N m nx L' st σ Q :=
  sl_go_nx ((sl_stepOf h).trans (show (if a < L.length ∧ sl_nl L a = true then sl_nx nx (L.set a (some (.inl x))) st σ else none) = _ by rw [if_pos h1, h2]))
theorem gk_lstore {x : Int64} {L' : sl_L} (h : sl_code m pc = some (nx, 5, a, b, v)) (h1 : a + 1 < L.length ∧ sl_nl L a = true) (h2 : (L.set a (some (.inr (.inl x)))).set (a + 1) none = L') : sl_Go xs N m pc L (.inr (.inl x) :: st) σ Q ↔ sl_Go xs N m nx L' st σ Q :=
  sl_go_nx ((sl_stepOf h).trans (show (if a + 1 < L.length ∧ sl_nl L a = true then sl_nx nx ((L.set a (some (.inr (.inl x)))).set (a + 1) none) st σ else none) = _ by rw [if_pos h1, h2]))
theorem gk_astore {x : sl_R} {L' : sl_L} (h : sl_code m pc = some (nx, 6, a, b, v)) (h1 : a < L.length ∧ sl_nl L a = true) (h2 : L.set a (some (.inr (.inr x))) = L') : sl_Go xs N m pc L (.inr (.inr x) :: st) σ Q ↔ sl_Go xs N m nx L' st σ Q :=
  sl_go_nx ((sl_stepOf h).trans (show (if a < L.length ∧ sl_nl L a = true then sl_nx nx (L.set a (some (.inr (.inr x)))) st σ else none) = _ by rw [if_pos h1, h2]))
theorem gk_iinc {x : Int32} {L' : sl_L} (h : sl_code m pc = some (nx, 7, a, b, v)) (hl : L[a]? = some (some (.inl x))) (h1 : sl_nl L a = true) (h2 : L.set a (some (.inl (x + v))) = L') : sl_Go xs N m pc L st σ Q ↔ sl_Go xs N m nx L' st σ Q :=
  sl_go_nx ((sl_stepOf h).trans (show (match L[a]? with | some (some (.inl x)) => if sl_nl L a = true then sl_nx nx (L.set a (some (.inl (x + v)))) st σ else none | _ => none) = _ by rw [hl]; dsimp only; rw [if_pos h1, h2]))
theorem gk_bin {x y : Int32} (h : sl_code m pc = some (nx, 8, a, b, v)) : sl_Go xs N m pc L (.inl y :: .inl x :: st) σ Q ↔ sl_Go xs N m nx L (.inl (sl_bin b x y) :: st) σ Q := sl_go_nx (sl_stepOf h)
theorem gk_idiv {x y : Int32} (h : sl_code m pc = some (nx, 17, a, b, v)) : sl_Go xs N m pc L (.inl y :: .inl x :: st) σ Q ↔ ¬ y = 0 ∧ sl_Go xs N m nx L (.inl (x / y) :: st) σ Q := sl_go_un (sl_stepOf h)
theorem gk_irem {x y : Int32} (h : sl_code m pc = some (nx, 18, a, b, v)) : sl_Go xs N m pc L (.inl y :: .inl x :: st) σ Q ↔ ¬ y = 0 ∧ sl_Go xs N m nx L (.inl (x - x / y * y) :: st) σ Q := sl_go_un (sl_stepOf h)
theorem gk_ineg {x : Int32} (h : sl_code m pc = some (nx, 19, a, b, v)) : sl_Go xs N m pc L (.inl x :: st) σ Q ↔ sl_Go xs N m nx L (.inl (-x) :: st) σ Q := sl_go_nx (sl_stepOf h)
theorem gk_i2l {x : Int32} (h : sl_code m pc = some (nx, 20, a, b, v)) : sl_Go xs N m pc L (.inl x :: st) σ Q ↔ sl_Go xs N m nx L (.inr (.inl x.toInt64) :: st) σ Q := sl_go_nx (sl_stepOf h)
theorem gk_l2i {x : Int64} (h : sl_code m pc = some (nx, 21, a, b, v)) : sl_Go xs N m pc L (.inr (.inl x) :: st) σ Q ↔ sl_Go xs N m nx L (.inl x.toInt32 :: st) σ Q := sl_go_nx (sl_stepOf h)
theorem gk_i2b {x : Int32} (h : sl_code m pc = some (nx, 22, a, b, v)) : sl_Go xs N m pc L (.inl x :: st) σ Q ↔ sl_Go xs N m nx L (.inl x.toInt8.toInt32 :: st) σ Q := sl_go_nx (sl_stepOf h)
theorem gk_i2s {x : Int32} (h : sl_code m pc = some (nx, 23, a, b, v)) : sl_Go xs N m pc L (.inl x :: st) σ Q ↔ sl_Go xs N m nx L (.inl x.toInt16.toInt32 :: st) σ Q := sl_go_nx (sl_stepOf h)
theorem gk_lin {x y : Int64} (h : sl_code m pc = some (nx, 24, a, b, v)) : sl_Go xs N m pc L (.inr (.inl y) :: .inr (.inl x) :: st) σ Q ↔ sl_Go xs N m nx L (.inr (.inl (sl_lin b x y)) :: st) σ Q := sl_go_nx (sl_stepOf h)
theorem gk_ldiv {x y : Int64} (h : sl_code m pc = some (nx, 25, a, b, v)) : sl_Go xs N m pc L (.inr (.inl y) :: .inr (.inl x) :: st) σ Q ↔ ¬ y = 0 ∧ sl_Go xs N m nx L (.inr (.inl (x / y)) :: st) σ Q := sl_go_un (sl_stepOf h)
theorem gk_lsh {x : Int64} {y : Int32} (h : sl_code m pc = some (nx, 26, a, b, v)) : sl_Go xs N m pc L (.inl y :: .inr (.inl x) :: st) σ Q ↔ sl_Go xs N m nx L (.inr (.inl (if b = 0 then x <<< (y.toInt64 &&& 63) else x >>> (y.toInt64 &&& 63))) :: st) σ Q := sl_go_nx (sl_stepOf h)
theorem gk_lneg {x : Int64} (h : sl_code m pc = some (nx, 27, a, b, v)) : sl_Go xs N m pc L (.inr (.inl x) :: st) σ Q ↔ sl_Go xs N m nx L (.inr (.inl (-x)) :: st) σ Q := sl_go_nx (sl_stepOf h)
theorem gk_lcmp {x y : Int64} (h : sl_code m pc = some (nx, 28, a, b, v)) : sl_Go xs N m pc L (.inr (.inl y) :: .inr (.inl x) :: st) σ Q ↔ sl_Go xs N m nx L (.inl (lg_cmp x y) :: st) σ Q := sl_go_nx (sl_stepOf h)
theorem gk_lconst (h : sl_code m pc = some (nx, 29, a, b, v)) : sl_Go xs N m pc L st σ Q ↔ sl_Go xs N m nx L (.inr (.inl (sl_lk b)) :: st) σ Q := sl_go_nx (sl_stepOf h)
theorem gk_get {r : sl_R} {sl : List sl_G} {g : sl_G} (h : sl_code m pc = some (nx, 100, a, b, v)) (ho : sl_obj r.1 r.2.1 r.2.2 = some (a, sl)) (hb : sl[b]? = some g) : sl_Go xs N m pc L (.inr (.inr r) :: st) σ Q ↔ sl_Go xs N m nx L (sl_gi σ g :: st) σ Q :=
  sl_go_nx ((sl_stepOf h).trans (show (match sl_obj r.1 r.2.1 r.2.2 with
      | some (ci, sl) => if ci = a then match sl[b]? with | some g => sl_nx nx L (sl_gi σ g :: st) σ | none => none else none
      | none => none) = _ by rw [ho]; dsimp only; rw [if_pos rfl, hb]))
theorem gk_put {r : sl_R} {x : Int32} {sl : List sl_G} {q : Nat × Nat × Nat} (h : sl_code m pc = some (nx, 101, a, b, v)) (ho : sl_obj r.1 r.2.1 r.2.2 = some (a, sl)) (hb : sl[b]? = some (.inl q)) : sl_Go xs N m pc L (.inl x :: .inr (.inr r) :: st) σ Q ↔ (v = 0 ∨ x = 0 ∨ x = 1) ∧ sl_Go xs N m nx L st (sl_up σ q.1 q.2.1 q.2.2 x) Q :=
  sl_go_if ((sl_stepOf h).trans (show (match sl_obj r.1 r.2.1 r.2.2 with
      | some (ci, sl) => if ci = a ∧ (v = 0 ∨ x = 0 ∨ x = 1) then match sl[b]? with | some (.inl q) => sl_nx nx L st (sl_up σ q.1 q.2.1 q.2.2 x) | _ => none else none
      | none => none) = _ by rw [ho]; dsimp only; rw [hb]; simp only [true_and]))
theorem gk_put0 {r : sl_R} {x : Int32} {sl : List sl_G} {q : Nat × Nat × Nat} (h : sl_code m pc = some (nx, 101, a, b, 0)) (ho : sl_obj r.1 r.2.1 r.2.2 = some (a, sl)) (hb : sl[b]? = some (.inl q)) : sl_Go xs N m pc L (.inl x :: .inr (.inr r) :: st) σ Q ↔ sl_Go xs N m nx L st (sl_up σ q.1 q.2.1 q.2.2 x) Q :=
  (gk_put h ho hb).trans ⟨fun h => h.2, fun h => ⟨Or.inl rfl, h⟩⟩
theorem gk_put1 {r : sl_R} {x : Int32} {sl : List sl_G} {q : Nat × Nat × Nat} (h : sl_code m pc = some (nx, 101, a, b, 1)) (ho : sl_obj r.1 r.2.1 r.2.2 = some (a, sl)) (hb : sl[b]? = some (.inl q)) : sl_Go xs N m pc L (.inl x :: .inr (.inr r) :: st) σ Q ↔ (x = 0 ∨ x = 1) ∧ sl_Go xs N m nx L st (sl_up σ q.1 q.2.1 q.2.2 x) Q :=
  (gk_put h ho hb).trans ⟨fun h => ⟨h.1.resolve_left (by decide), h.2⟩, fun h => ⟨Or.inr h.1, h.2⟩⟩
theorem gk_gets (h : sl_code m pc = some (nx, 102, a, b, v)) : sl_Go xs N m pc L st σ Q ↔ sl_Go xs N m nx L (.inr (.inr (a, 0, 0)) :: st) σ Q := sl_go_nx (sl_stepOf h)
theorem gk_aald {r : sl_R} {j : Int32} (h : sl_code m pc = some (nx, 103, a, b, v)) : sl_Go xs N m pc L (.inl j :: .inr (.inr r) :: st) σ Q ↔ (0 ≤ j.toInt ∧ j.toInt < sl_rlen r) ∧ sl_Go xs N m nx L (.inr (.inr (sl_rg r j.toNatClampNeg)) :: st) σ Q := sl_go_if (sl_stepOf h)
theorem gk_iald {r : sl_R} {j : Int32} (h : sl_code m pc = some (nx, 104, a, b, v)) : sl_Go xs N m pc L (.inl j :: .inr (.inr r) :: st) σ Q ↔ (0 ≤ j.toInt ∧ j.toInt < sl_ilen N r) ∧ sl_Go xs N m nx L (.inl (sl_rd xs σ r j.toNatClampNeg) :: st) σ Q := sl_go_if (sl_stepOf h)
theorem gk_bald {r : sl_R} {j : Int32} (h : sl_code m pc = some (nx, 105, a, b, v)) : sl_Go xs N m pc L (.inl j :: .inr (.inr r) :: st) σ Q ↔ (0 ≤ j.toInt ∧ j.toInt < sl_wlen r b) ∧ sl_Go xs N m nx L (.inl (sl_rd xs σ r j.toNatClampNeg) :: st) σ Q := sl_go_if (sl_stepOf h)
theorem gk_iast {r : sl_R} {j x : Int32} (h : sl_code m pc = some (nx, 106, a, b, v)) : sl_Go xs N m pc L (.inl x :: .inl j :: .inr (.inr r) :: st) σ Q ↔ (0 ≤ j.toInt ∧ j.toInt < sl_wlen r 0) ∧ sl_Go xs N m nx L st (sl_wr σ r j.toNatClampNeg x) Q := sl_go_if (sl_stepOf h)
theorem gk_bast {r : sl_R} {j x : Int32} (h : sl_code m pc = some (nx, 107, a, b, v)) : sl_Go xs N m pc L (.inl x :: .inl j :: .inr (.inr r) :: st) σ Q ↔ (0 ≤ j.toInt ∧ j.toInt < sl_wlen r 1) ∧ sl_Go xs N m nx L st (sl_wr σ r j.toNatClampNeg x.toInt8.toInt32) Q := sl_go_if (sl_stepOf h)
theorem gk_zast {r : sl_R} {j x : Int32} (h : sl_code m pc = some (nx, 108, a, b, v)) : sl_Go xs N m pc L (.inl x :: .inl j :: .inr (.inr r) :: st) σ Q ↔ ((0 ≤ j.toInt ∧ j.toInt < sl_wlen r 2) ∧ (x = 0 ∨ x = 1)) ∧ sl_Go xs N m nx L st (sl_wr σ r j.toNatClampNeg x) Q := sl_go_if (sl_stepOf h)
theorem gk_alen {r : sl_R} (h : sl_code m pc = some (nx, 109, a, b, v)) : sl_Go xs N m pc L (.inr (.inr r) :: st) σ Q ↔ ¬ sl_ilen N r = 0 ∧ sl_Go xs N m nx L (.inl (nI (sl_ilen N r)) :: st) σ Q := sl_go_un (sl_stepOf h)
theorem gk_copy {q r : sl_R} {i j n : Int32} (h : sl_code m pc = some (nx, 110, a, b, v)) : sl_Go xs N m pc L (.inl n :: .inl j :: .inr (.inr r) :: .inl i :: .inr (.inr q) :: st) σ Q ↔ (0 ≤ n.toInt ∧ 0 ≤ i.toInt ∧ 0 ≤ j.toInt ∧ i.toInt + n.toInt ≤ sl_wlen q 0 ∧ j.toInt + n.toInt ≤ sl_wlen r 0 ∧ sl_cw st ≤ 8 ∧ 0 < sl_wlen q 0 ∧ 0 < sl_wlen r 0) ∧ sl_Go xs N m nx L st (sl_cp σ q r i.toNatClampNeg j.toNatClampNeg n.toNatClampNeg) Q := sl_go_if (sl_stepOf h)
theorem gk_mabs {x : Int32} (h : sl_code m pc = some (nx, 111, a, b, v)) : sl_Go xs N m pc L (.inl x :: st) σ Q ↔ sl_cw st ≤ 8 ∧ sl_Go xs N m nx L (.inl (if 0 ≤ x then x else 0 - x) :: st) σ Q := sl_go_if (sl_stepOf h)
theorem gk_mmax {x y : Int32} (h : sl_code m pc = some (nx, 112, a, b, v)) : sl_Go xs N m pc L (.inl y :: .inl x :: st) σ Q ↔ sl_cw st ≤ 8 ∧ sl_Go xs N m nx L (.inl (if x < y then y else x) :: st) σ Q := sl_go_if (sl_stepOf h)
theorem gk_mmin {x y : Int32} (h : sl_code m pc = some (nx, 113, a, b, v)) : sl_Go xs N m pc L (.inl y :: .inl x :: st) σ Q ↔ sl_cw st ≤ 8 ∧ sl_Go xs N m nx L (.inl (if y < x then y else x) :: st) σ Q := sl_go_if (sl_stepOf h)
theorem gk_labs {x : Int64} (h : sl_code m pc = some (nx, 114, a, b, v)) : sl_Go xs N m pc L (.inr (.inl x) :: st) σ Q ↔ sl_cw st ≤ 8 ∧ sl_Go xs N m nx L (.inr (.inl (if 0 < x then x else -x)) :: st) σ Q := sl_go_if (sl_stepOf h)
theorem sl_sC {k kk : Nat} (h : sl_code m pc = some (nx, kk, a, b, v)) (h1 : ¬ kk < 100) (h2 : ¬ kk < 200) (hk : kk - 200 = k) : sl_step xs N m pc L st σ = sl_stepC k a b v (sl_sw b) (sl_ml a) nx L st σ := by
  rw [sl_stepOf h]
  unfold sl_stepE
  dsimp only
  rw [if_neg h1, if_neg h2, hk]
theorem gk_goto (h : sl_code m pc = some (nx, 200, a, b, v)) : sl_Go xs N m pc L st σ Q ↔ sl_Go xs N m a L st σ Q := sl_go_nx (sl_sC h (by decide) (by decide) rfl)
theorem gk_ieq {x y : Int32} (h : sl_code m pc = some (nx, 201, a, 0, v)) : sl_Go xs N m pc L (.inl y :: .inl x :: st) σ Q ↔ (x = y → sl_Go xs N m a L st σ Q) ∧ (¬ x = y → sl_Go xs N m nx L st σ Q) := sl_go_br rfl (sl_sC h (by decide) (by decide) rfl)
theorem gk_ine {x y : Int32} (h : sl_code m pc = some (nx, 201, a, 1, v)) : sl_Go xs N m pc L (.inl y :: .inl x :: st) σ Q ↔ (¬ x = y → sl_Go xs N m a L st σ Q) ∧ (x = y → sl_Go xs N m nx L st σ Q) := by rw [sl_go_br (c := ¬ x = y) rfl (sl_sC h (by decide) (by decide) rfl)]; simp only [Decidable.not_not]
theorem gk_ilt {x y : Int32} (h : sl_code m pc = some (nx, 201, a, 2, v)) : sl_Go xs N m pc L (.inl y :: .inl x :: st) σ Q ↔ (x < y → sl_Go xs N m a L st σ Q) ∧ (¬ x < y → sl_Go xs N m nx L st σ Q) := sl_go_br rfl (sl_sC h (by decide) (by decide) rfl)
theorem gk_ige {x y : Int32} (h : sl_code m pc = some (nx, 201, a, 3, v)) : sl_Go xs N m pc L (.inl y :: .inl x :: st) σ Q ↔ (y ≤ x → sl_Go xs N m a L st σ Q) ∧ (¬ y ≤ x → sl_Go xs N m nx L st σ Q) := sl_go_br rfl (sl_sC h (by decide) (by decide) rfl)
theorem gk_igt {x y : Int32} (h : sl_code m pc = some (nx, 201, a, 4, v)) : sl_Go xs N m pc L (.inl y :: .inl x :: st) σ Q ↔ (y < x → sl_Go xs N m a L st σ Q) ∧ (¬ y < x → sl_Go xs N m nx L st σ Q) := sl_go_br rfl (sl_sC h (by decide) (by decide) rfl)
theorem gk_ile {x y : Int32} (h : sl_code m pc = some (nx, 201, a, 5, v)) : sl_Go xs N m pc L (.inl y :: .inl x :: st) σ Q ↔ (x ≤ y → sl_Go xs N m a L st σ Q) ∧ (¬ x ≤ y → sl_Go xs N m nx L st σ Q) := sl_go_br rfl (sl_sC h (by decide) (by decide) rfl)
theorem gk_zeq {x : Int32} (h : sl_code m pc = some (nx, 202, a, 0, v)) : sl_Go xs N m pc L (.inl x :: st) σ Q ↔ (x = 0 → sl_Go xs N m a L st σ Q) ∧ (¬ x = 0 → sl_Go xs N m nx L st σ Q) := sl_go_br rfl (sl_sC h (by decide) (by decide) rfl)
theorem gk_zne {x : Int32} (h : sl_code m pc = some (nx, 202, a, 1, v)) : sl_Go xs N m pc L (.inl x :: st) σ Q ↔ (¬ x = 0 → sl_Go xs N m a L st σ Q) ∧ (x = 0 → sl_Go xs N m nx L st σ Q) := by rw [sl_go_br (c := ¬ x = 0) rfl (sl_sC h (by decide) (by decide) rfl)]; simp only [Decidable.not_not]
theorem gk_zlt {x : Int32} (h : sl_code m pc = some (nx, 202, a, 2, v)) : sl_Go xs N m pc L (.inl x :: st) σ Q ↔ (x < 0 → sl_Go xs N m a L st σ Q) ∧ (¬ x < 0 → sl_Go xs N m nx L st σ Q) := sl_go_br rfl (sl_sC h (by decide) (by decide) rfl)
theorem gk_zge {x : Int32} (h : sl_code m pc = some (nx, 202, a, 3, v)) : sl_Go xs N m pc L (.inl x :: st) σ Q ↔ (0 ≤ x → sl_Go xs N m a L st σ Q) ∧ (¬ 0 ≤ x → sl_Go xs N m nx L st σ Q) := sl_go_br rfl (sl_sC h (by decide) (by decide) rfl)
theorem gk_zgt {x : Int32} (h : sl_code m pc = some (nx, 202, a, 4, v)) : sl_Go xs N m pc L (.inl x :: st) σ Q ↔ (0 < x → sl_Go xs N m a L st σ Q) ∧ (¬ 0 < x → sl_Go xs N m nx L st σ Q) := sl_go_br rfl (sl_sC h (by decide) (by decide) rfl)
theorem gk_zle {x : Int32} (h : sl_code m pc = some (nx, 202, a, 5, v)) : sl_Go xs N m pc L (.inl x :: st) σ Q ↔ (x ≤ 0 → sl_Go xs N m a L st σ Q) ∧ (¬ x ≤ 0 → sl_Go xs N m nx L st σ Q) := sl_go_br rfl (sl_sC h (by decide) (by decide) rfl)
def sl_jx (P : Nat → Prop) (off : Nat) (x : Int32) : Nat → List Nat → Prop
  | _, [] => P off
  | i, t :: ts => (x = nI i → P t) ∧ (¬ x = nI i → sl_jx P off x (i + 1) ts)
theorem sl_jx_out (P : Nat → Prop) (off : Nat) (x : Int32) : ∀ (ts : List Nat) (i : Nat), (∀ j, i ≤ j → j < i + ts.length → ¬ x = nI j) → (sl_jx P off x i ts ↔ P off)
  | [], i, _ => Iff.rfl
  | t :: ts, i, h => by
    have h0 : ¬ x = nI i := h i (Nat.le_refl i) (by simp)
    rw [sl_jx, sl_jx_out P off x ts (i + 1) (fun j h1 h2 => h j (by omega) (by simp; omega))]
    exact ⟨fun h => h.2 h0, fun h => ⟨fun e => absurd e h0, fun _ => h⟩⟩
theorem sl_jx_in (P : Nat → Prop) (off : Nat) : ∀ (ts : List Nat) (i k : Nat), k < ts.length → i + ts.length < 2 ^ 31 → (sl_jx P off (nI (i + k)) i ts ↔ P (ts.getD k off))
  | [], i, k, h, _ => absurd h (by simp)
  | t :: ts, i, 0, h, _ => by
    rw [sl_jx]
    exact ⟨fun h => h.1 rfl, fun h => ⟨fun _ => h, fun e => absurd rfl e⟩⟩
  | t :: ts, i, k + 1, h, hb => by
    have hb2 : i + (ts.length + 1) < 2 ^ 31 := hb
    have h2 : k < ts.length := by simpa using h
    have h0 : ¬ nI (i + (k + 1)) = nI i := by
      rw [nI_eq (by omega) (by omega)]
      omega
    have ih := sl_jx_in P off ts (i + 1) k h2 (by omega)
    rw [show i + 1 + k = i + (k + 1) by omega] at ih
    rw [sl_jx, ih]
    exact ⟨fun h => by simpa using h.2 h0, fun h => ⟨fun e => absurd e h0, fun _ => by simpa using h⟩⟩
theorem sl_jump_iff (P : Nat → Prop) (off : Nat) (ts : List Nat) (x : Int32) (hl : ts.length < 1000) : P (sl_jump off ts x) ↔ sl_jx P off x 0 ts := by
  unfold sl_jump
  by_cases h : x < 0
  · rw [if_pos h]
    refine (sl_jx_out P off x ts 0 (fun j _ h2 e => ?_)).symm
    rw [e] at h
    exact nI_pos (by omega) h
  · rw [if_neg h]
    obtain ⟨j, hj, rfl⟩ := nI_of h
    rw [nI_clamp hj]
    by_cases hk : j < ts.length
    · have := sl_jx_in P off ts 0 j hk (by omega)
      rw [Nat.zero_add] at this
      exact this.symm
    · rw [List.getD_eq_getElem?_getD, List.getElem?_eq_none (by omega)]
      refine (sl_jx_out P off _ ts 0 (fun i _ h2 e => ?_)).symm
      rw [nI_eq hj (by omega)] at e
      omega
theorem gk_sw {x : Int32} {ts : List Nat} (h : sl_code m pc = some (nx, 203, a, b, v)) (ht : sl_sw b = ts) (hl : ts.length < 1000) : sl_Go xs N m pc L (.inl x :: st) σ Q ↔ sl_jx (fun t => sl_Go xs N m t L st σ Q) a x 0 ts := by
  subst ht
  rw [← sl_jump_iff _ _ _ _ hl]
  exact sl_go_nx (sl_sC h (by decide) (by decide) rfl)
theorem gk_call {as rest : List sl_V} {L' : sl_L} (h : sl_code m pc = some (nx, 204, a, b, v)) (h1 : b ≤ st.length) (h2 : (st.take b).reverse = as) (h3 : st.drop b = rest) (h4 : sl_mkL a as = L') (h5 : sl_rc v as = true) (h6 : (sl_mkA as).length ≤ sl_ml a) : sl_Go xs N m pc L st σ Q ↔ sl_cw rest ≤ 8 ∧ sl_Go xs N a 0 L' [] σ (fun r τ => sl_Go xs N m nx L (r.toList ++ rest) τ Q) := by
  subst h2; subst h3; subst h4
  have hs : sl_step xs N m pc L st σ = if b ≤ st.length ∧ sl_cw (st.drop b) ≤ 8 ∧ sl_rc v (st.take b).reverse = true ∧ (sl_mkA (st.take b).reverse).length ≤ sl_ml a then some (.inr (.inl (a, (st.take b).reverse, nx, st.drop b))) else none := sl_sC h (by decide) (by decide) rfl
  by_cases hc : sl_cw (st.drop b) ≤ 8
  · rw [if_pos ⟨h1, hc, h5, h6⟩] at hs
    rw [sl_go_call hs]
    exact ⟨fun h => ⟨hc, h⟩, fun h => h.2⟩
  · rw [if_neg (fun q => hc q.2.1)] at hs
    rw [sl_go_none hs]
    exact ⟨fun h => h.elim, fun h => hc h.1⟩
theorem gk_iret {x : Int32} (h : sl_code m pc = some (nx, 205, a, b, 0)) : sl_Go xs N m pc L [.inl x] σ Q ↔ Q (some (.inl x)) σ := sl_go_ret (sl_sC h (by decide) (by decide) rfl)
theorem gk_zret {x : Int32} (h : sl_code m pc = some (nx, 205, a, b, 1)) : sl_Go xs N m pc L [.inl x] σ Q ↔ (x = 0 ∨ x = 1) ∧ Q (some (.inl x)) σ := by
  have hs : sl_step xs N m pc L [.inl x] σ = if (1 : Int32) = 0 ∨ x = 0 ∨ x = 1 then some (.inr (.inr (some (.inl x)))) else none := sl_sC h (by decide) (by decide) rfl
  by_cases hc : x = 0 ∨ x = 1
  · rw [if_pos (Or.inr hc)] at hs
    rw [sl_go_ret hs]
    exact ⟨fun h => ⟨hc, h⟩, fun h => h.2⟩
  · rw [if_neg (fun q => q.elim (by decide) hc)] at hs
    rw [sl_go_none hs]
    exact ⟨fun h => h.elim, fun h => hc h.1⟩
theorem gk_vret (h : sl_code m pc = some (nx, 206, a, b, v)) : sl_Go xs N m pc L [] σ Q ↔ Q none σ := sl_go_ret (sl_sC h (by decide) (by decide) rfl)
theorem gk_lret {x : Int64} (h : sl_code m pc = some (nx, 207, a, b, v)) : sl_Go xs N m pc L [.inr (.inl x)] σ Q ↔ Q (some (.inr (.inl x))) σ := sl_go_ret (sl_sC h (by decide) (by decide) rfl)
theorem gk_dupi {x : Int32} (h : sl_code m pc = some (nx, 208, a, b, v)) : sl_Go xs N m pc L (.inl x :: st) σ Q ↔ sl_Go xs N m nx L (.inl x :: .inl x :: st) σ Q := sl_go_nx (sl_sC h (by decide) (by decide) rfl)
theorem gk_dupr {x : sl_R} (h : sl_code m pc = some (nx, 208, a, b, v)) : sl_Go xs N m pc L (.inr (.inr x) :: st) σ Q ↔ sl_Go xs N m nx L (.inr (.inr x) :: .inr (.inr x) :: st) σ Q := sl_go_nx (sl_sC h (by decide) (by decide) rfl)
theorem gk_dup2 {x : sl_R} {y : Int32} (h : sl_code m pc = some (nx, 209, a, b, v)) : sl_Go xs N m pc L (.inl y :: .inr (.inr x) :: st) σ Q ↔ sl_Go xs N m nx L (.inl y :: .inr (.inr x) :: .inl y :: .inr (.inr x) :: st) σ Q := sl_go_nx (sl_sC h (by decide) (by decide) rfl)
end SLK
