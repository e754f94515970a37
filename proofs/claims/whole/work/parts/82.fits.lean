section SPFI
variable {xs : Nat → Int32} {N : Nat} {σ : sl_S} {kd cl mt mc : Nat → Nat} {nT nM nW nR nF : Nat} {Q : Option sl_V → sl_S → Prop}
theorem jl_int (v : Int32) : v.toInt64.toInt = v.toInt := Int32.toInt_toInt64 v
theorem lg_0 {x y : Int64} : lg_cmp x y = 0 ↔ x.toInt = y.toInt := by
  unfold lg_cmp
  by_cases h1 : x > y
  · rw [if_pos h1]
    have q := Int64.lt_iff_toInt_lt.mp h1
    exact ⟨fun e => absurd e (by decide), fun e => by omega⟩
  · rw [if_neg h1]
    by_cases h2 : x = y
    · rw [if_pos h2]
      exact ⟨fun _ => congrArg Int64.toInt h2, fun _ => rfl⟩
    · rw [if_neg h2]
      exact ⟨fun e => absurd e (by decide), fun e => absurd (Int64.toInt_inj.mp e) h2⟩
theorem lg_le {x y : Int64} : lg_cmp x y ≤ 0 ↔ x.toInt ≤ y.toInt := by
  unfold lg_cmp
  by_cases h1 : x > y
  · rw [if_pos h1]
    have q := Int64.lt_iff_toInt_lt.mp h1
    exact ⟨fun e => absurd e (by decide), fun e => by omega⟩
  · rw [if_neg h1]
    have q : ¬ y.toInt < x.toInt := fun e => h1 (Int64.lt_iff_toInt_lt.mpr e)
    by_cases h2 : x = y
    · rw [if_pos h2]
      exact ⟨fun _ => by omega, fun _ => by decide⟩
    · rw [if_neg h2]
      exact ⟨fun _ => by omega, fun _ => by decide⟩
theorem jl_neg1 {v : Int32} : lg_cmp v.toInt64 (-1) = 0 ↔ v = -1 := by
  rw [lg_0, jl_int]
  constructor
  · intro e
    exact sp_toi e
  · intro e
    rw [e]
    rfl
theorem jl_off {v l o : Int32} (hl : 0 ≤ l.toInt ∧ l.toInt ≤ 99) (ho : 0 ≤ o.toInt ∧ o.toInt ≤ 99) : lg_cmp (if 0 < v.toInt64 - l.toInt64 then v.toInt64 - l.toInt64 else -(v.toInt64 - l.toInt64)) o.toInt64 ≤ 0 ↔ (l - o ≤ v ∧ v ≤ l + o) := by
  have hv1 := v.toInt_lt
  have hv2 := v.le_toInt
  have e0 : (0 : Int64).toInt = 0 := rfl
  have d : (v.toInt64 - l.toInt64).toInt = v.toInt - l.toInt := by
    rw [Int64.toInt_sub, jl_int, jl_int]
    rw [Int.bmod_def]
    split <;> omega
  have a : (if 0 < v.toInt64 - l.toInt64 then v.toInt64 - l.toInt64 else -(v.toInt64 - l.toInt64)).toInt = if 0 < v.toInt - l.toInt then v.toInt - l.toInt else -(v.toInt - l.toInt) := by
    by_cases h : 0 < v.toInt64 - l.toInt64
    · rw [if_pos h]
      have q := Int64.lt_iff_toInt_lt.mp h
      rw [d, e0] at q
      rw [if_pos q, d]
    · rw [if_neg h]
      have q : ¬ 0 < v.toInt - l.toInt := fun x => h (Int64.lt_iff_toInt_lt.mpr (by rw [d, e0]; exact x))
      rw [if_neg q, Int64.toInt_neg, d, Int.bmod_def]
      split <;> omega
  generalize (if 0 < v.toInt64 - l.toInt64 then v.toInt64 - l.toInt64 else -(v.toInt64 - l.toInt64)) = A at *
  have b1 := sp_sub (x := l) (y := o) (by omega) (by omega)
  have b2 := sp_add (x := l) (y := o) (by omega) (by omega)
  rw [lg_le, jl_int, a, sp_le (l - o), sp_le v, b1, b2]
  split <;> omega
/-- a number of a record lets a level be -/
def jok (V L : Nat → Int32) (o : Int32) (k : Nat) : Prop := V k = -1 ∨ (L k - o ≤ V k ∧ V k ≤ L k + o)
end SPFI
