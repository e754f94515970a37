section SPYZ
variable {xs : Nat → Int32} {N : Nat} {σ : sl_S} {kd cl mt mc : Nat → Nat} {nT nM nW nR nF : Nat} {Q : Option sl_V → sl_S → Prop}
/-- the state after a way was read: the same but in what isn't told -/
theorem jJ.read (h : jJ σ kd cl mt mc nT nM nW nR nF) {P R A B : Nat → Nat → Int32} {nW' : Nat} (hW : nW' ≤ 6) (hP : ∀ k, k < 8 → ¬ k = 0 → P k = σ 5 k) (hP0 : ∀ j, ¬ j = 2 → P 0 j = σ 5 0 j) (hR : ∀ k, k < 8 → ¬ k = 0 → R k = σ 6 k) (hR0 : ∀ j, ¬ j = 2 → R 0 j = σ 6 0 j) (h02 : P 0 2 = nI nW' ∧ R 0 2 = nI nW') (hw : ∀ y, y < nW' → P 8 y = R 8 y ∧ ∃ nl, nl ≤ 12 ∧ R 8 y = nI nl ∧ ∀ k, k < nl → (P 9 (12 * y + k) = R 9 (12 * y + k) ∧ P 10 (12 * y + k) = R 10 (12 * y + k)) ∧ sp_sm 50 (R 10 (12 * y + k))) (hn : nW ≤ nW') (h8 : ∀ y, y < nW → R 8 y = σ 6 8 y) (hA : ∀ k, ¬ k = 0 → A k = σ 7 k) (hA0 : ∀ j, j < 3 → A 0 j = σ 7 0 j) (hB : ∀ k, ¬ k = 0 → B k = σ 8 k) (hB0 : ∀ j, j < 3 ∨ j = 8 ∨ j = 9 → B 0 j = σ 8 0 j) (h03 : A 0 3 = 0 ∧ B 0 3 = 0) {τ : sl_S} (t1 : τ 1 = σ 1) (t2 : τ 2 = σ 2) (t3 : τ 3 = σ 3) (t4 : τ 4 = σ 4) (t5 : τ 5 = P) (t6 : τ 6 = R) (t7 : τ 7 = A) (t8 : τ 8 = B) : jJ τ kd cl mt mc nT nM nW' nR 0 := by
  obtain ⟨⟨r1, r2, r3, r4, ⟨s1, s2, s3, s4, s5, s6⟩, r6, k1, k2, k3, k4, k5⟩, hL, ⟨⟨i1, i2, i3⟩, io⟩, hS⟩ := h
  have lk : ∀ {C M : Nat → Nat → Int32} {zT zM : Nat}, jL C M (σ 6) cl nT nM nW zT zM → jL C M R cl nT nM nW' zT zM := by
    intro C M zT zM hL
    obtain ⟨a1, a2, ⟨b1, b2, b3, b4, b5, b6⟩, a4⟩ := hL
    refine ⟨a1, a2, ⟨?_, b2, ?_, b4, b5, b6⟩, a4⟩
    · unfold sp_Lv at b1 ⊢
      rw [hR 3 (by decide) (by decide)]
      exact b1
    · rcases b3 with e | ⟨y, nl, n, g1, g2, g3, g4⟩
      · exact .inl e
      · exact .inr ⟨y, nl, n, by omega, g2, by rw [h8 y g1]; exact g3, g4⟩
  unfold jJ
  rw [t1, t2, t3, t4, t5, t6, t7, t8]
  refine ⟨⟨?_, ?_, ?_, ?_, ⟨?_, s2, ?_, ?_, s5, ?_⟩, ?_, ?_, ?_, h02.2, hW, ?_⟩, lk hL, ⟨⟨?_, ?_, ?_⟩, io⟩, ?_⟩
  · intro k hk hk5
    by_cases e : k = 0
    · subst e
      funext j
      by_cases e2 : j = 2
      · rw [e2, h02.1, h02.2]
      · rw [hP0 j e2, hR0 j e2, r1 0 hk hk5]
    · rw [hP k hk e, hR k hk e, r1 k hk hk5]
  · rw [hP 5 (by decide) (by decide), hR 5 (by decide) (by decide)]
    exact r2
  · rw [hR 5 (by decide) (by decide)]
    exact r3
  · intro y hy
    obtain ⟨a, nl, b, c, d⟩ := hw y hy
    exact ⟨a, nl, b, c, fun k hk => (d k hk).1⟩
  · rw [hR0 0 (by decide)]
    exact s1
  · rw [hR 2 (by decide) (by decide)]
    exact s3
  · rw [hR0 1 (by decide)]
    exact s4
  · rw [hR 6 (by decide) (by decide), hR 7 (by decide) (by decide)]
    exact s6
  · unfold sp_Kd at r6 ⊢
    rw [hR 1 (by decide) (by decide)]
    exact r6
  · rw [hR 3 (by decide) (by decide), hR 4 (by decide) (by decide)]
    exact k1
  · rw [hR0 3 (by decide)]
    exact k2
  · intro y hy
    obtain ⟨a, nl, b, c, d⟩ := hw y hy
    exact ⟨nl, b, c, fun k hk => (d k hk).2⟩
  · rw [hA0 0 (by decide), hB0 0 (by decide)]
    exact i1
  · rw [hB0 0 (by decide)]
    exact i2
  · intro hb
    rw [hB0 0 (by decide)] at hb
    obtain ⟨kT, kM, M, a1, a2, a3, a4, a5, a6⟩ := i3 hb
    exact ⟨kT, kM, M, by rw [hB0 8 (by decide)]; exact a1, by rw [hB0 9 (by decide)]; exact a2, a3, a4, lk a5, by rw [hB 15 (by decide)]; exact a6⟩
  · obtain ⟨a1, a2, a3, a4, a5, a6, a7, a8, a9, c1, c2, c3, c4⟩ := hS
    unfold jS
    rw [hA0 1 (by decide), hB0 1 (by decide), hA0 2 (by decide), hB0 2 (by decide), h03.1, h03.2, hA 1 (by decide), hB 1 (by decide), hA 5 (by decide), hB 5 (by decide), hA 6 (by decide), hB 6 (by decide), hA 7 (by decide), hB 7 (by decide), hA 8 (by decide), hB 8 (by decide), hA 9 (by decide), hB 9 (by decide), hA 10 (by decide), hB 10 (by decide), hA 11 (by decide), hB 11 (by decide), hA 12 (by decide), hB 12 (by decide), hA 13 (by decide), hB 13 (by decide), hB 19 (by decide), hB 20 (by decide)]
    refine ⟨a1, a2, a3, a4, rfl, rfl, by omega, a8, a9, ?_, c2, c3, c4⟩
    intro r hr
    obtain ⟨d1, d2, d3⟩ := c1 r hr
    refine ⟨d1, ?_, d3⟩
    rcases d2 with e | ⟨y, y1, y2⟩
    · exact .inl e
    · exact .inr ⟨y, by omega, y2⟩
end SPYZ
