section SLR
variable (xs : Nat → Int32) (N : Nat)
def sl_step (m pc : Nat) (L : sl_L) (st : List sl_V) (σ : sl_S) : Option sl_Q := match sl_code m pc with
  | none => none
  | some (nx, e) => sl_stepE xs N sl_sw sl_ml e nx L st σ
def sl_run : Nat → Nat → Nat → sl_L → List sl_V → sl_S → Option (Option sl_V × sl_S)
  | 0, _, _, _, _, _ => none
  | n + 1, m, pc, L, st, σ => match sl_step xs N m pc L st σ with
    | none => none
    | some (.inl q) => sl_run n m q.1 q.2.1 q.2.2.1 q.2.2.2
    | some (.inr (.inl q)) => match sl_run n q.1 0 (sl_mkL q.1 q.2.1) [] σ with
      | none => none
      | some u => sl_run n m q.2.2.1 L (u.1.toList ++ q.2.2.2) u.2
    | some (.inr (.inr r)) => some (r, σ)
theorem sl_mono : ∀ (n m pc : Nat) (L : sl_L) (st : List sl_V) (σ : sl_S) (u : Option sl_V × sl_S), sl_run xs N n m pc L st σ = some u → sl_run xs N (n + 1) m pc L st σ = some u := by
  intro n
  induction n with
  | zero => intro m pc L st σ u h; cases h
  | succ n ih =>
    intro m pc L st σ u h
    rw [sl_run] at h ⊢
    cases hs : sl_step xs N m pc L st σ with
    | none => rw [hs] at h; cases h
    | some q =>
      rw [hs] at h
      rcases q with q | q | q
      · exact ih _ _ _ _ _ _ h
      · dsimp only at h ⊢
        cases hc : sl_run xs N n q.1 0 (sl_mkL q.1 q.2.1) [] σ with
        | none => rw [hc] at h; cases h
        | some w =>
          rw [hc] at h
          rw [ih _ _ _ _ _ _ hc]
          exact ih _ _ _ _ _ _ h
      · exact h
theorem sl_mono2 {n k m pc : Nat} {L : sl_L} {st : List sl_V} {σ : sl_S} {u : Option sl_V × sl_S} (h : sl_run xs N n m pc L st σ = some u) : sl_run xs N (n + k) m pc L st σ = some u := by
  induction k with
  | zero => exact h
  | succ k ih => exact sl_mono xs N _ _ _ _ _ _ _ ih
/-- from here it comes to an end, with Q -/
def sl_Go (m pc : Nat) (L : sl_L) (st : List sl_V) (σ : sl_S) (Q : Option sl_V → sl_S → Prop) : Prop := ∃ (n : Nat) (u : Option sl_V × sl_S), sl_run xs N n m pc L st σ = some u ∧ Q u.1 u.2
end SLR
section SLG
variable {xs : Nat → Int32} {N : Nat} {m pc nx a b : Nat} {v : Int32} {L : sl_L} {st : List sl_V} {σ : sl_S} {Q : Option sl_V → sl_S → Prop}
theorem sl_go_none (h : sl_step xs N m pc L st σ = none) : sl_Go xs N m pc L st σ Q ↔ False := by
  refine ⟨fun ⟨n, u, h1, _⟩ => ?_, fun h => h.elim⟩
  cases n with
  | zero => cases h1
  | succ n => rw [sl_run, h] at h1; cases h1
theorem sl_go_nx {pc' : Nat} {L' : sl_L} {st' : List sl_V} {σ' : sl_S} (h : sl_step xs N m pc L st σ = sl_nx pc' L' st' σ') : sl_Go xs N m pc L st σ Q ↔ sl_Go xs N m pc' L' st' σ' Q := by
  constructor
  · rintro ⟨n, u, h1, h2⟩
    cases n with
    | zero => cases h1
    | succ n => rw [sl_run, h] at h1; exact ⟨n, u, h1, h2⟩
  · rintro ⟨n, u, h1, h2⟩
    exact ⟨n + 1, u, by rw [sl_run, h]; exact h1, h2⟩
theorem sl_go_call {m' : Nat} {as : List sl_V} {st' : List sl_V} (h : sl_step xs N m pc L st σ = some (.inr (.inl (m', as, nx, st')))) : sl_Go xs N m pc L st σ Q ↔ sl_Go xs N m' 0 (sl_mkL m' as) [] σ (fun r τ => sl_Go xs N m nx L (r.toList ++ st') τ Q) := by
  constructor
  · rintro ⟨n, u, h1, h2⟩
    cases n with
    | zero => cases h1
    | succ n =>
      rw [sl_run, h] at h1
      dsimp only at h1
      cases hc : sl_run xs N n m' 0 (sl_mkL m' as) [] σ with
      | none => rw [hc] at h1; cases h1
      | some w => rw [hc] at h1; exact ⟨n, w, hc, n, u, h1, h2⟩
  · rintro ⟨n, w, h1, k, u, h2, h3⟩
    refine ⟨n + k + 1, u, ?_, h3⟩
    rw [sl_run, h]
    dsimp only
    rw [sl_mono2 xs N h1, Nat.add_comm n k]
    exact sl_mono2 xs N h2
theorem sl_go_ret {r : Option sl_V} (h : sl_step xs N m pc L st σ = some (.inr (.inr r))) : sl_Go xs N m pc L st σ Q ↔ Q r σ := by
  constructor
  · rintro ⟨n, u, h1, h2⟩
    cases n with
    | zero => cases h1
    | succ n => rw [sl_run, h] at h1; cases h1; exact h2
  · intro h2
    exact ⟨1, (r, σ), by rw [sl_run, h], h2⟩
theorem sl_Go.mono {Q' : Option sl_V → sl_S → Prop} (h : sl_Go xs N m pc L st σ Q) (hq : ∀ r τ, Q r τ → Q' r τ) : sl_Go xs N m pc L st σ Q' := by
  obtain ⟨n, u, h1, h2⟩ := h
  exact ⟨n, u, h1, hq _ _ h2⟩
theorem sl_go_if {c : Prop} [Decidable c] {pc' : Nat} {L' : sl_L} {st' : List sl_V} {σ' : sl_S} (h : sl_step xs N m pc L st σ = if c then sl_nx pc' L' st' σ' else none) : sl_Go xs N m pc L st σ Q ↔ c ∧ sl_Go xs N m pc' L' st' σ' Q := by
  by_cases hc : c
  · rw [if_pos hc] at h
    rw [sl_go_nx h]
    exact ⟨fun h => ⟨hc, h⟩, fun h => h.2⟩
  · rw [if_neg hc] at h
    rw [sl_go_none h]
    exact ⟨fun h => h.elim, fun h => hc h.1⟩
theorem sl_go_un {c : Prop} [Decidable c] {pc' : Nat} {L' : sl_L} {st' : List sl_V} {σ' : sl_S} (h : sl_step xs N m pc L st σ = if c then none else sl_nx pc' L' st' σ') : sl_Go xs N m pc L st σ Q ↔ ¬ c ∧ sl_Go xs N m pc' L' st' σ' Q := by
  by_cases hc : c
  · rw [if_pos hc] at h
    rw [sl_go_none h]
    exact ⟨fun h => h.elim, fun h => h.1 hc⟩
  · rw [if_neg hc] at h
    rw [sl_go_nx h]
    exact ⟨fun h => ⟨hc, h⟩, fun h => h.2⟩
theorem sl_go_br {c : Prop} [Decidable c] {x : Bool} {p1 p2 : Nat} {L' : sl_L} {st' : List sl_V} {σ' : sl_S} (hx : x = decide c) (h : sl_step xs N m pc L st σ = sl_nx (if x = true then p1 else p2) L' st' σ') : sl_Go xs N m pc L st σ Q ↔ (c → sl_Go xs N m p1 L' st' σ' Q) ∧ (¬ c → sl_Go xs N m p2 L' st' σ' Q) := by
  rw [sl_go_nx h]
  subst hx
  by_cases hc : c
  · simp [hc]
  · simp [hc]
theorem sl_stepOf {e : sl_E} (h : sl_code m pc = some (nx, e)) : sl_step xs N m pc L st σ = sl_stepE xs N sl_sw sl_ml e nx L st σ := by
  unfold sl_step
  rw [h]
end SLG
