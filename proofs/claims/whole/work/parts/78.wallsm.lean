section SPWM
variable {xs : Nat → Int32} {N : Nat} {σ : sl_S} {kd cl mt mc : Nat → Nat} {nT nM nW nR nF : Nat} {Q : Option sl_V → sl_S → Prop}
/-- walls taken away, walls set -/
def jcl0 (R : Nat → Nat → Int32) (t : Nat) (it : Nat → Nat) : Nat → Nat → Nat → Int32
  | 0 => R
  | k + 1 => sl_u2 (jcl0 R t it k) 5 (12 * t + it k) 0
def jst1 (R : Nat → Nat → Int32) (t : Nat) (it : Nat → Nat) (f : Nat → Bool) : Nat → Nat → Nat → Int32
  | 0 => R
  | k + 1 => if f k then sl_u2 (jst1 R t it f k) 5 (12 * t + it k) 1 else jst1 R t it f k
def jRs (R : Nat → Nat → Int32) (t : Nat) (it : Nat → Nat) (f : Nat → Bool) (S : Nat) : Nat → Nat → Int32 := jst1 (jcl0 R t it S) t it f S
theorem jcl0_k {R : Nat → Nat → Int32} {t k : Nat} {it : Nat → Nat} (h : ¬ k = 5) : ∀ n, jcl0 R t it n k = R k
  | 0 => rfl
  | n + 1 => by rw [jcl0, sp_u2_ne h, jcl0_k h n]
theorem jst1_k {R : Nat → Nat → Int32} {t k : Nat} {it : Nat → Nat} {f : Nat → Bool} (h : ¬ k = 5) : ∀ n, jst1 R t it f n k = R k
  | 0 => rfl
  | n + 1 => by
    rw [jst1]
    split
    · rw [sp_u2_ne h, jst1_k h n]
    · rw [jst1_k h n]
theorem jRs_k {R : Nat → Nat → Int32} {t k S : Nat} {it : Nat → Nat} {f : Nat → Bool} (h : ¬ k = 5) : jRs R t it f S k = R k := by
  unfold jRs
  rw [jst1_k h, jcl0_k h]
theorem jcl0_e {R : Nat → Nat → Int32} {t j : Nat} {it : Nat → Nat} : ∀ n, (∀ k, k < n → ¬ j = 12 * t + it k) → jcl0 R t it n 5 j = R 5 j
  | 0, _ => rfl
  | n + 1, h => by rw [jcl0, sp_u2_eq, sp_u1_ne (h n (by omega)), jcl0_e n (fun k hk => h k (by omega))]
theorem jcl0_h {R : Nat → Nat → Int32} {t j : Nat} {it : Nat → Nat} : ∀ n, (∃ k, k < n ∧ j = 12 * t + it k) → jcl0 R t it n 5 j = 0
  | 0, h => by
    obtain ⟨k, hk, -⟩ := h
    omega
  | n + 1, h => by
    rw [jcl0, sp_u2_eq]
    by_cases e : j = 12 * t + it n
    · rw [e, sp_u1_eq]
    · rw [sp_u1_ne e]
      obtain ⟨k, hk, hj⟩ := h
      refine jcl0_h n ⟨k, ?_, hj⟩
      rcases Nat.lt_or_ge k n with x | x
      · exact x
      · exact absurd (show k = n by omega) (fun y => e (y ▸ hj))
theorem jst1_e {R : Nat → Nat → Int32} {t j : Nat} {it : Nat → Nat} {f : Nat → Bool} : ∀ n, (∀ k, k < n → f k = true → ¬ j = 12 * t + it k) → jst1 R t it f n 5 j = R 5 j
  | 0, _ => rfl
  | n + 1, h => by
    rw [jst1]
    by_cases e : f n = true
    · rw [if_pos e, sp_u2_eq, sp_u1_ne (h n (by omega) e), jst1_e n (fun k hk => h k (by omega))]
    · rw [if_neg e, jst1_e n (fun k hk => h k (by omega))]
theorem jst1_h {R : Nat → Nat → Int32} {t j : Nat} {it : Nat → Nat} {f : Nat → Bool} : ∀ n, (∃ k, k < n ∧ f k = true ∧ j = 12 * t + it k) → jst1 R t it f n 5 j = 1
  | 0, h => by
    obtain ⟨k, hk, -⟩ := h
    omega
  | n + 1, h => by
    rw [jst1]
    obtain ⟨k, hk, hf, hj⟩ := h
    by_cases e : f n = true
    · rw [if_pos e, sp_u2_eq]
      by_cases e2 : j = 12 * t + it n
      · rw [e2, sp_u1_eq]
      · rw [sp_u1_ne e2]
        refine jst1_h n ⟨k, ?_, hf, hj⟩
        rcases Nat.lt_or_ge k n with x | x
        · exact x
        · exact absurd (show k = n by omega) (fun y => e2 (y ▸ hj))
    · rw [if_neg e]
      refine jst1_h n ⟨k, ?_, hf, hj⟩
      rcases Nat.lt_or_ge k n with x | x
      · exact x
      · exact absurd (show k = n by omega) (fun y => e (y ▸ hf))
theorem jcl0_i {R R' : Nat → Nat → Int32} {t S : Nat} {it : Nat → Nat} (hR : ∀ k, ¬ k = 5 → R' k = R k) (h5 : ∀ j, (∀ k, k < S → ¬ j = 12 * t + it k) → R' 5 j = R 5 j) : jcl0 R' t it S = jcl0 R t it S := by
  funext k j
  by_cases e : k = 5
  · subst e
    by_cases ex : ∃ k, k < S ∧ j = 12 * t + it k
    · rw [jcl0_h S ex, jcl0_h S ex]
    · have hn : ∀ k, k < S → ¬ j = 12 * t + it k := fun k hk hj => ex ⟨k, hk, hj⟩
      rw [jcl0_e S hn, jcl0_e S hn, h5 j hn]
  · rw [jcl0_k e, jcl0_k e, hR k e]
theorem jRs_5 {R : Nat → Nat → Int32} {t S j : Nat} {it : Nat → Nat} {f : Nat → Bool} (h : ∀ k, k < S → ¬ j = 12 * t + it k) : jRs R t it f S 5 j = R 5 j := by
  unfold jRs
  rw [jst1_e S (fun k hk _ => h k hk), jcl0_e S h]
theorem jbq_iff {f : Nat → Bool} {it : Nat → Nat} {d : Nat} : ∀ n, jbq f it d n = true ↔ ∃ k, k < n ∧ f k = true ∧ it k = d
  | 0 => ⟨fun h => absurd h (by unfold jbq; decide), fun ⟨k, hk, _⟩ => by omega⟩
  | n + 1 => by
    rw [jbq, Bool.or_eq_true, Bool.and_eq_true, decide_eq_true_eq, jbq_iff n]
    constructor
    · rintro (⟨k, a, b⟩ | ⟨a, b⟩)
      · exact ⟨k, by omega, b⟩
      · exact ⟨n, by omega, a, b⟩
    · rintro ⟨k, a, b⟩
      rcases Nat.lt_or_ge k n with x | x
      · exact .inl ⟨k, x, b⟩
      · have e : k = n := by omega
        subst e
        exact .inr b
/-- the class's bits and the reference's walls of a set -/
theorem jWC (h : jJ σ kd cl mt mc nT nM nW nR nF) {t S : Nat} {it : Nat → Nat} {f : Nat → Bool} (hit : ∀ k, k < S → it k < 12) (hS : S ≤ 6) {P : Nat → Nat → Int32} (hP : ∀ t', ¬ t' = t → P 5 t' = σ 5 5 t') (hw : P 5 t = (σ 5 5 t &&& (jbo (jin (-1)) it S ^^^ -1)) ||| jbo f it S) : ∀ t' c, t' < 5 → c < 12 → ((P 5 t') >>> (nI c &&& 31) &&& 1 = 0 ↔ sp_wlM (jRs (σ 6) t it f S) t' c = 0) := by
  intro t' c ht' hc
  have r2 := h.1.2.1 t' c ht' hc
  unfold sp_wlM
  by_cases e : t' = t
  · subst e
    rw [hw, sp_tb hc, sp_tor, sp_tan hc, jbo_bit hc S hit, jbo_bit hc S hit]
    rw [sp_tb hc] at r2
    by_cases b1 : jbq f it c S = true
    · obtain ⟨k, k1, k2, k3⟩ := (jbq_iff S).mp b1
      have e1 : jRs (σ 6) t' it f S 5 (12 * t' + c) = 1 := jst1_h S ⟨k, k1, k2, by rw [k3]⟩
      rw [e1, b1]
      simp
    · have n1 : ∀ k, k < S → f k = true → ¬ 12 * t' + c = 12 * t' + it k := fun k k1 k2 k3 => b1 ((jbq_iff S).mpr ⟨k, k1, k2, by omega⟩)
      have b1' : jbq f it c S = false := by simpa using b1
      unfold jRs
      rw [jst1_e S n1, b1']
      by_cases b2 : jbq (jin (-1)) it c S = true
      · obtain ⟨k, k1, k2, k3⟩ := (jbq_iff S).mp b2
        rw [jcl0_h S ⟨k, k1, by rw [k3]⟩, b2]
        simp
      · have n2 : ∀ k, k < S → ¬ 12 * t' + c = 12 * t' + it k := fun k k1 k3 => b2 ((jbq_iff S).mpr ⟨k, k1, jin_all k (by omega), by omega⟩)
        have b2' : jbq (jin (-1)) it c S = false := by simpa using b2
        rw [jcl0_e S n2, b2']
        simp only [Bool.not_false, Bool.and_true, Bool.or_false]
        exact r2
  · rw [hP t' e, jRs_5 (fun k hk => by have := hit k hk; omega)]
    exact r2
theorem sp_Rg_5 {R R' : Nat → Nat → Int32} (hR : ∀ k, ¬ k = 5 → R' k = R k) (h : sp_Rg R kd cl mt mc nT nM nW) : sp_Rg R' kd cl mt mc nT nM nW := by
  unfold sp_Rg sp_Sh sp_Kd sp_Rk at *
  rw [hR 0 (by decide), hR 1 (by decide), hR 2 (by decide), hR 3 (by decide), hR 4 (by decide), hR 6 (by decide), hR 7 (by decide), hR 8 (by decide), hR 10 (by decide)]
  exact h
theorem sp_Iv_5 {R R' M : Nat → Nat → Int32} {T : Nat} (hR : ∀ k, ¬ k = 5 → R' k = R k) (h : sp_Iv R M nT nM nW cl T) : sp_Iv R' M nT nM nW cl T := by
  unfold sp_Iv sp_Lv sp_Wok2 at *
  rw [hR 3 (by decide), hR 8 (by decide)]
  exact h
theorem jTC5 (h : jJ σ kd cl mt mc nT nM nW nR nF) {τ : sl_S} {R : Nat → Nat → Int32} (h5 : ∀ k, ¬ k = 5 → τ 5 k = σ 5 k) (hR : ∀ k, ¬ k = 5 → R k = σ 6 k) (hW : ∀ t c, t < 5 → c < 12 → ((τ 5 5 t) >>> (nI c &&& 31) &&& 1 = 0 ↔ sp_wlM R t c = 0)) : sp_TC τ R (sp_wlM R) kd cl mt mc nT nM nW := by
  have g := sp_Rg_5 hR h.1.2.2.2.2
  refine ⟨?_, hW, ?_, g.1, g.2.1⟩
  · intro k hk hk5
    rw [h5 k hk5, hR k hk5]
    exact h.1.1 k hk hk5
  · obtain ⟨a1, a2, a3⟩ := h.tc.2.2.1
    unfold sp_WyC
    rw [hR 0 (by decide), hR 8 (by decide), hR 9 (by decide), hR 10 (by decide), h5 8 (by decide), h5 9 (by decide), h5 10 (by decide)]
    exact ⟨a1, a2, a3⟩
/-- which set is best so far -/
def jwl (W : Nat → Int32) (m l : Int32) : Nat → Option Nat × Int32
  | 0 => (none, l)
  | k + 1 => if m < nI (jpc k) then jwl W m l k else
      match (jwl W m l k).1 with
      | none => (some k, W k)
      | some f => if W k < (jwl W m l k).2 ∨ (W k = (jwl W m l k).2 ∧ nI (jpc k) < nI (jpc f)) then (some k, W k) else jwl W m l k
def jfd : Option Nat → Int32
  | none => -1
  | some f => nI f
theorem jwl_lt {W : Nat → Int32} {m l : Int32} {f : Nat} : ∀ k, (jwl W m l k).1 = some f → f < k
  | 0, h => by
    unfold jwl at h
    contradiction
  | k + 1, h => by
    have ih := fun x => jwl_lt (W := W) (m := m) (l := l) (f := f) k x
    rw [jwl] at h
    split at h
    · have := ih h
      omega
    · split at h
      · have := Option.some.inj h
        omega
      · split at h
        · have := Option.some.inj h
          omega
        · have := ih h
          omega
theorem jwl_i {W : Nat → Int32} {m l l' : Int32} (h0 : ¬ m < nI (jpc 0)) : ∀ k, jwl W m l (k + 1) = jwl W m l' (k + 1)
  | 0 => by
    have e : ∀ x, jwl W m x (0 + 1) = (some 0, W 0) := fun x => by
      rw [jwl, if_neg h0]
      rfl
    rw [e, e]
  | k + 1 => by
    rw [jwl, jwl_i h0 k]
    rfl
/-- the state of the class's search -/
def jT (P A C : Nat → Nat → Int32) (σ : sl_S) : sl_S := fun r => if r = 5 then P else if r = 7 then A else if r = 2 then C else σ r
theorem jT_5 {P A C : Nat → Nat → Int32} : jT P A C σ 5 = P := rfl
theorem jT_7 {P A C : Nat → Nat → Int32} : jT P A C σ 7 = A := rfl
theorem jT_2 {P A C : Nat → Nat → Int32} : jT P A C σ 2 = C := rfl
theorem jT_o {P A C : Nat → Nat → Int32} {r : Nat} (h5 : ¬ r = 5) (h7 : ¬ r = 7) (h2 : ¬ r = 2) : jT P A C σ r = σ r := by
  unfold jT
  rw [if_neg h5, if_neg h7, if_neg h2]
theorem jT_s {P A C C' : Nat → Nat → Int32} : sp_st (jT P A C σ) 2 C' = jT P A C' σ := by
  funext r
  unfold sp_st jT
  by_cases e2 : r = 2
  · subst e2
    rfl
  · rw [if_neg e2, if_neg e2, if_neg e2]
theorem jT_u5 {P A C : Nat → Nat → Int32} {k i : Nat} {v : Int32} : sl_up (jT P A C σ) 5 k i v = jT (sl_u2 P k i v) A C σ := by
  rw [sp_up]
  funext r
  unfold sp_st jT
  by_cases e2 : r = 5
  · subst e2
    rfl
  · rw [if_neg e2, if_neg e2, if_neg e2]
theorem jT_u7 {P A C : Nat → Nat → Int32} {k i : Nat} {v : Int32} : sl_up (jT P A C σ) 7 k i v = jT P (sl_u2 A k i v) C σ := by
  rw [sp_up]
  funext r
  unfold sp_st jT
  by_cases e5 : r = 5
  · subst e5
    rfl
  · by_cases e2 : r = 7
    · subst e2
      rfl
    · rw [if_neg e2, if_neg e5, if_neg e5, if_neg e2, if_neg e2]
theorem jT_self : jT (σ 5) (σ 7) (σ 2) σ = σ := by
  funext r
  unfold jT
  by_cases e5 : r = 5
  · rw [if_pos e5, e5]
  · by_cases e7 : r = 7
    · rw [if_neg e5, if_pos e7, e7]
    · by_cases e2 : r = 2
      · rw [if_neg e5, if_neg e7, if_pos e2, e2]
      · rw [if_neg e5, if_neg e7, if_neg e2]
theorem sp_u2_u2 {f : Nat → Nat → Int32} {k i : Nat} {v w : Int32} : sl_u2 (sl_u2 f k i v) k i w = sl_u2 f k i w := by
  funext k' j
  by_cases e : k' = k
  · subst e
    rw [sp_u2_eq, sp_u2_eq, sp_u2_eq]
    by_cases e2 : j = i
    · subst e2
      rw [sp_u1_eq, sp_u1_eq]
    · rw [sp_u1_ne e2, sp_u1_ne e2, sp_u1_ne e2]
  · rw [sp_u2_ne e, sp_u2_ne e, sp_u2_ne e]
theorem sp_u2_self {f : Nat → Nat → Int32} {k i : Nat} : sl_u2 f k i (f k i) = f := by
  funext k' j
  by_cases e : k' = k
  · subst e
    rw [sp_u2_eq]
    by_cases e2 : j = i
    · subst e2
      rw [sp_u1_eq]
    · rw [sp_u1_ne e2]
  · rw [sp_u2_ne e]
end SPWM
