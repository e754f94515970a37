/-! both ticks are one, within the bounds -/
theorem sp_bm {z : Int} (h1 : -2147483648 ≤ z) (h2 : z < 2147483648) : z.bmod (2 ^ 32) = z := by
  rw [Int.bmod_def]
  split <;> omega
theorem sp_add {x y : Int32} (h1 : -2147483648 ≤ x.toInt + y.toInt) (h2 : x.toInt + y.toInt < 2147483648) : (x + y).toInt = x.toInt + y.toInt := by
  rw [Int32.toInt_add]; exact sp_bm h1 h2
theorem sp_sub {x y : Int32} (h1 : -2147483648 ≤ x.toInt - y.toInt) (h2 : x.toInt - y.toInt < 2147483648) : (x - y).toInt = x.toInt - y.toInt := by
  rw [Int32.toInt_sub]; exact sp_bm h1 h2
theorem sp_mul {x y : Int32} (h1 : -2147483648 ≤ x.toInt * y.toInt) (h2 : x.toInt * y.toInt < 2147483648) : (x * y).toInt = x.toInt * y.toInt := by
  rw [Int32.toInt_mul]; exact sp_bm h1 h2
theorem sp_neg {x : Int32} (h1 : -2147483647 ≤ x.toInt) : (-x).toInt = -x.toInt := by
  have := Int32.toInt_lt x
  rw [Int32.toInt_neg]; exact sp_bm (by omega) (by omega)
theorem sp_td {a : Int} {d : Int} (hd : d = 100 ∨ d = 2 ∨ d = 10) : (0 ≤ a → a.tdiv d = a / d) ∧ (a < 0 → a.tdiv d = -((-a) / d)) := by
  refine ⟨fun h => Int.tdiv_eq_ediv_of_nonneg h, fun h => ?_⟩
  rw [show a = -(-a) by omega, Int.neg_tdiv, Int.tdiv_eq_ediv_of_nonneg (by omega)]
  simp
theorem sp_div {x y : Int32} (h : y.toInt = 100 ∨ y.toInt = 2 ∨ y.toInt = 10) : (x / y).toInt = x.toInt.tdiv y.toInt := by
  have h1 := Int32.toInt_lt x
  have h2 := Int32.le_toInt x
  rw [Int32.toInt_div]
  have ht := sp_td (a := x.toInt) h
  rcases Int.lt_or_le x.toInt 0 with h3 | h3
  · rw [ht.2 h3]
    rcases h with h | h | h <;> rw [h] <;> exact sp_bm (by omega) (by omega)
  · rw [ht.1 h3]
    rcases h with h | h | h <;> rw [h] <;> exact sp_bm (by omega) (by omega)
/-- small: no more than k either way -/
def sp_sm (k : Int) (x : Int32) : Prop := -k ≤ x.toInt ∧ x.toInt ≤ k
theorem sp_push_sm {kd v : Int32} (h : sp_sm 50 v) : sp_sm 100 (sp_push kd v) := by
  unfold sp_sm at h ⊢
  unfold sp_push
  split
  · rw [sp_div (Or.inr (Or.inl rfl))]
    have := sp_td (a := v.toInt) (d := 2) (Or.inr (Or.inl rfl))
    have e : (2 : Int32).toInt = 2 := rfl
    rw [e]
    rcases Int.lt_or_le v.toInt 0 with h2 | h2
    · rw [this.2 h2]; omega
    · rw [this.1 h2]; omega
  · split
    · have e : (2 : Int32).toInt = 2 := rfl
      rw [sp_mul (by rw [e]; omega) (by rw [e]; omega), e]
      omega
    · omega
theorem sp_damp_sm {g dm : Int32} (h : sp_sm 32980 g) (hd : 10 ≤ dm.toInt ∧ dm.toInt ≤ 90) : sp_sm 30000 (g - g * dm / 100) := by
  unfold sp_sm at h ⊢
  have e : (100 : Int32).toInt = 100 := rfl
  have b1 : -2968200 ≤ g.toInt * dm.toInt ∧ g.toInt * dm.toInt ≤ 2968200 := by
    constructor
    · have := Int.mul_le_mul_of_nonneg_right h.1 (show 0 ≤ dm.toInt by omega)
      have h2 : (-32980 : Int) * 90 ≤ -32980 * dm.toInt := Int.mul_le_mul_of_nonpos_left (by decide) hd.2
      omega
    · have := Int.mul_le_mul_of_nonneg_right h.2 (show 0 ≤ dm.toInt by omega)
      have h2 : 32980 * dm.toInt ≤ (32980 : Int) * 90 := Int.mul_le_mul_of_nonneg_left hd.2 (by decide)
      omega
  have hm : (g * dm).toInt = g.toInt * dm.toInt := sp_mul (by omega) (by omega)
  have hdv : (g * dm / 100).toInt = (g.toInt * dm.toInt).tdiv 100 := by rw [sp_div (Or.inl rfl), hm, e]
  have ht := sp_td (a := g.toInt * dm.toInt) (d := 100) (Or.inl rfl)
  rcases Int.lt_or_le g.toInt 0 with h2 | h2
  · have h3 : g.toInt * dm.toInt ≤ g.toInt * 10 := Int.mul_le_mul_of_nonpos_left (by omega) hd.1
    have h4 : g.toInt * 90 ≤ g.toInt * dm.toInt := Int.mul_le_mul_of_nonpos_left (by omega) hd.2
    rw [ht.2 (by omega)] at hdv
    rw [sp_sub (by omega) (by omega), hdv]
    omega
  · have h3 : g.toInt * 10 ≤ g.toInt * dm.toInt := Int.mul_le_mul_of_nonneg_left hd.1 h2
    have h4 : g.toInt * dm.toInt ≤ g.toInt * 90 := Int.mul_le_mul_of_nonneg_left hd.2 h2
    rw [ht.1 (by omega)] at hdv
    rw [sp_sub (by omega) (by omega), hdv]
    omega
theorem sp_thr_sm {g th : Int32} (h : sp_sm 30000 g) (hd : 0 ≤ th.toInt ∧ th.toInt ≤ 100) : sp_sm 30000 (g * th / 100) := by
  unfold sp_sm at h ⊢
  have e : (100 : Int32).toInt = 100 := rfl
  have b1 : -3000000 ≤ g.toInt * th.toInt ∧ g.toInt * th.toInt ≤ 3000000 := by
    constructor
    · have := Int.mul_le_mul_of_nonneg_right h.1 hd.1
      have h2 : (-30000 : Int) * 100 ≤ -30000 * th.toInt := Int.mul_le_mul_of_nonpos_left (by decide) hd.2
      omega
    · have := Int.mul_le_mul_of_nonneg_right h.2 hd.1
      have h2 : 30000 * th.toInt ≤ (30000 : Int) * 100 := Int.mul_le_mul_of_nonneg_left hd.2 (by decide)
      omega
  have hm : (g * th).toInt = g.toInt * th.toInt := sp_mul (by omega) (by omega)
  have hdv : (g * th / 100).toInt = (g.toInt * th.toInt).tdiv 100 := by rw [sp_div (Or.inl rfl), hm, e]
  have ht := sp_td (a := g.toInt * th.toInt) (d := 100) (Or.inl rfl)
  rw [hdv]
  rcases Int.lt_or_le (g.toInt * th.toInt) 0 with h2 | h2
  · rw [ht.2 h2]; omega
  · rw [ht.1 h2]; omega
theorem sp_dm_in {k : Nat} (h : k < 6) : 10 ≤ (sp_dm k).toInt ∧ (sp_dm k).toInt ≤ 90 := by
  rcases (show k = 0 ∨ k = 1 ∨ k = 2 ∨ k = 3 ∨ k = 4 ∨ k = 5 by omega) with rfl | rfl | rfl | rfl | rfl | rfl <;> decide
theorem sp_th_in {k : Nat} (h : k < 6) : 0 ≤ (sp_th k).toInt ∧ (sp_th k).toInt ≤ 100 := by
  rcases (show k = 0 ∨ k = 1 ∨ k = 2 ∨ k = 3 ∨ k = 4 ∨ k = 5 by omega) with rfl | rfl | rfl | rfl | rfl | rfl <;> decide
theorem sp_flow_sm {kd v lev lev2 fl w : Int32} {k : Nat} (hk : k < 6) (hv : sp_sm 50 v) (hl : 0 ≤ lev.toInt ∧ lev.toInt ≤ 99) (hl2 : 0 ≤ lev2.toInt ∧ lev2.toInt ≤ 99) (hf : sp_sm 30000 fl) : sp_sm 30000 (sp_flow kd v lev lev2 fl (sp_dm k) (sp_th k) w) := by
  have hp := sp_push_sm (kd := kd) hv
  have hg : sp_sm 32980 (fl + 20 * (lev - lev2) + 10 * sp_push kd v) := by
    unfold sp_sm at hp hf ⊢
    have e1 : (20 : Int32).toInt = 20 := rfl
    have e2 : (10 : Int32).toInt = 10 := rfl
    have a1 := sp_sub (x := lev) (y := lev2) (by omega) (by omega)
    have a2 := sp_mul (x := 20) (y := lev - lev2) (by rw [e1, a1]; omega) (by rw [e1, a1]; omega)
    rw [e1, a1] at a2
    have a3 := sp_add (x := fl) (y := 20 * (lev - lev2)) (by rw [a2]; omega) (by rw [a2]; omega)
    have a4 := sp_mul (x := 10) (y := sp_push kd v) (by rw [e2]; omega) (by rw [e2]; omega)
    rw [e2] at a4
    have a5 := sp_add (x := fl + 20 * (lev - lev2)) (y := 10 * sp_push kd v) (by rw [a3, a4]; omega) (by rw [a3, a4]; omega)
    rw [a5, a3, a4, a2]
    omega
  unfold sp_flow
  split
  · exact sp_damp_sm hg (sp_dm_in hk)
  · exact sp_thr_sm (sp_damp_sm hg (sp_dm_in hk)) (sp_th_in hk)
theorem sp_abs_sm {f : Int32} (h : sp_sm 30000 f) : 0 ≤ (sp_abs f / 100).toInt ∧ (sp_abs f / 100).toInt ≤ 300 := by
  unfold sp_sm at h
  have e : (100 : Int32).toInt = 100 := rfl
  have ha : 0 ≤ (sp_abs f).toInt ∧ (sp_abs f).toInt ≤ 30000 := by
    unfold sp_abs
    split
    · rename_i h2
      have h3 := (sp_lt _ _).mp h2
      have e0 : (0 : Int32).toInt = 0 := rfl
      rw [sp_neg (by omega)]
      omega
    · rename_i h2
      have h3 := (sp_le _ _).mp (Int32.not_lt.mp h2)
      have e0 : (0 : Int32).toInt = 0 := rfl
      omega
  rw [sp_div (Or.inl rfl), e, (sp_td (Or.inl rfl)).1 ha.1]
  omega
theorem sp_cm {M : Nat → Nat → Int32} {k i k' i' : Nat} {x y : Int32} (h : ¬ k = k' ∨ ¬ i = i') : sl_u2 (sl_u2 M k i x) k' i' y = sl_u2 (sl_u2 M k' i' y) k i x := by
  funext a c
  unfold sl_u2 sl_u1
  by_cases h1 : a = k <;> by_cases h2 : a = k' <;> by_cases h3 : c = i <;> by_cases h4 : c = i' <;> simp_all
theorem sp_toi {x y : Int32} (h : x.toInt = y.toInt) : x = y := Int32.toInt_inj.mp h
theorem sp_pour_eq {M : Nat → Nat → Int32} {hi kd n : Int32} {t k a b : Nat} (hab : ¬ a = b) (hh : 1 ≤ hi.toInt ∧ hi.toInt ≤ 99) (ha : 0 ≤ (M 1 a).toInt ∧ (M 1 a).toInt ≤ hi.toInt) (hb : 0 ≤ (M 1 b).toInt ∧ (M 1 b).toInt ≤ hi.toInt) (hn : 0 ≤ n.toInt ∧ n.toInt ≤ (M 1 a).toInt) : cs_pourN M hi kd t k a b n = sp_pourN M hi kd t k a b n := by
  have e0 : (0 : Int32).toInt = 0 := rfl
  have b1 := sp_add (x := M 1 b) (y := n) (by omega) (by omega)
  have b2 := sp_sub (x := M 1 b + n) (y := hi) (by omega) (by omega)
  have b3 := sp_sub (x := hi) (y := M 1 b) (by omega) (by omega)
  unfold cs_pourN sp_pourN
  by_cases h : M 1 b + n - hi ≤ 0
  · have h2 := (sp_le _ _).mp h
    rw [if_pos h]
    have h3 : ¬ hi - M 1 b < n := fun e => by
      have := (sp_lt _ _).mp e
      omega
    dsimp only
    rw [if_neg h3, if_pos (by rw [Int32.sub_self]; exact Int32.le_refl 0)]
    exact sp_cm (Or.inr (fun e => hab e.symm))
  · have h2 := (sp_lt _ _).mp (Int32.not_le.mp h)
    rw [if_neg h]
    have h3 : hi - M 1 b < n := (sp_lt _ _).mpr (by omega)
    dsimp only
    rw [if_pos h3]
    have c1 : M 1 b + (hi - M 1 b) = hi := sp_toi (by rw [sp_add (by omega) (by omega)]; omega)
    have c2 : n - (hi - M 1 b) = M 1 b + n - hi := sp_toi (by rw [sp_sub (by omega) (by omega)]; omega)
    have c3 : n - (M 1 b + n - hi) = hi - M 1 b := sp_toi (by rw [sp_sub (by omega) (by omega)]; omega)
    rw [c1, c2, c3, if_neg h]
    by_cases hl : kd < 4
    · rw [if_pos hl, if_pos hl]
      rw [sp_cm (k := 1) (i := b) (k' := 2) (Or.inl (by decide))]
      exact sp_cm (Or.inl (by decide))
    · rw [if_neg hl, if_neg hl]
      rw [sp_cm (k := 1) (i := b) (k' := 2) (Or.inl (by decide))]
      rw [sp_cm (k := 4) (i := t) (k' := 1) (Or.inl (by decide))]
      rw [sp_cm (k := 0) (i := 6) (k' := 1) (Or.inl (by decide))]
/-- what a row of numbers keeps: the levels of all columns, the flows -/
def sp_Lv (R M : Nat → Nat → Int32) (nT : Nat) (cl : Nat → Nat) : Prop := ∀ t, t < nT → ∀ c, c < cl t → (0 ≤ (M 1 (12 * t + c)).toInt ∧ (M 1 (12 * t + c)).toInt ≤ (R 3 t).toInt) ∧ sp_sm 30000 (M 2 (12 * t + c))
theorem sp_pour_lv {M : Nat → Nat → Int32} {hi kd n : Int32} {t k a b : Nat} (hab : ¬ a = b) (hh : 1 ≤ hi.toInt ∧ hi.toInt ≤ 99) (ha : 0 ≤ (M 1 a).toInt ∧ (M 1 a).toInt ≤ hi.toInt) (hb : 0 ≤ (M 1 b).toInt ∧ (M 1 b).toInt ≤ hi.toInt) (hn : 0 ≤ n.toInt ∧ n.toInt ≤ (M 1 a).toInt) :
    (∀ i, ¬ i = a → ¬ i = b → sp_pourN M hi kd t k a b n 1 i = M 1 i) ∧ (0 ≤ (sp_pourN M hi kd t k a b n 1 a).toInt ∧ (sp_pourN M hi kd t k a b n 1 a).toInt ≤ hi.toInt) ∧ (0 ≤ (sp_pourN M hi kd t k a b n 1 b).toInt ∧ (sp_pourN M hi kd t k a b n 1 b).toInt ≤ hi.toInt) ∧ (∀ i, ¬ i = k → sp_pourN M hi kd t k a b n 2 i = M 2 i) ∧ (sp_pourN M hi kd t k a b n 2 k = M 2 k ∨ sp_pourN M hi kd t k a b n 2 k = 0) := by
  have e0 : (0 : Int32).toInt = 0 := rfl
  have hba : ¬ b = a := fun e => hab e.symm
  have b1 := sp_add (x := M 1 b) (y := n) (by omega) (by omega)
  have b2 := sp_sub (x := M 1 b + n) (y := hi) (by omega) (by omega)
  have b4 := sp_sub (x := M 1 a) (y := n) (by omega) (by omega)
  unfold sp_pourN
  by_cases h : M 1 b + n - hi ≤ 0
  · have h2 := (sp_le _ _).mp h
    rw [if_pos h]
    simp (disch := omega) only [sp_u2_eq, sp_u2_ne]
    refine ⟨fun i h1 h3 => ?_, ?_, ?_, fun i _ => trivial, Or.inl trivial⟩
    · rw [sp_u1_ne h3, sp_u1_ne h1]
    · rw [sp_u1_ne hab, sp_u1_eq]; omega
    · rw [sp_u1_eq]; omega
  · have h2 := (sp_lt _ _).mp (Int32.not_le.mp h)
    rw [if_neg h]
    have b5 := sp_sub (x := n) (y := M 1 b + n - hi) (by omega) (by omega)
    have b6 := sp_sub (x := M 1 a) (y := n - (M 1 b + n - hi)) (by omega) (by omega)
    by_cases hl : kd < 4
    · rw [if_pos hl]
      simp (disch := omega) only [sp_u2_eq, sp_u2_ne]
      refine ⟨fun i h1 h3 => ?_, ?_, ?_, fun i h1 => ?_, Or.inr ?_⟩
      · rw [sp_u1_ne h1, sp_u1_ne h3]
      · rw [sp_u1_eq]; omega
      · rw [sp_u1_ne hba, sp_u1_eq]; omega
      · rw [sp_u1_ne h1]
      · rw [sp_u1_eq]
    · rw [if_neg hl]
      simp (disch := omega) only [sp_u2_eq, sp_u2_ne]
      refine ⟨fun i h1 h3 => ?_, ?_, ?_, fun i h1 => ?_, Or.inr ?_⟩
      · rw [sp_u1_ne h1, sp_u1_ne h3]
      · rw [sp_u1_eq]; omega
      · rw [sp_u1_ne hba, sp_u1_eq]; omega
      · rw [sp_u1_ne h1]
      · rw [sp_u1_eq]
theorem sp_pourN_01 {M : Nat → Nat → Int32} {hi kd n : Int32} {t k a b : Nat} : sp_pourN M hi kd t k a b n 0 1 = M 0 1 := by
  unfold sp_pourN
  repeat' split
  all_goals rfl
/-- one border: both are one, and what is kept stays kept -/
theorem sp_over_eq {R M : Nat → Nat → Int32} {nT t c : Nat} {cl : Nat → Nat} {w : Int32} {k : Nat} (hk : k < 6) (ht : t < nT) (hc : c + 1 < cl t) (hcl : ∀ t, t < nT → cl t ≤ 12) (hh : ∀ t, t < nT → 1 ≤ (R 3 t).toInt ∧ (R 3 t).toInt ≤ 99) (hv : sp_sm 50 (M 0 1)) (hL : sp_Lv R M nT cl) : cs_over R M (sp_dm k) (sp_th k) w t c = sp_over R M (sp_dm k) (sp_th k) w t c ∧ sp_Lv R (sp_over R M (sp_dm k) (sp_th k) w t c) nT cl ∧ sp_over R M (sp_dm k) (sp_th k) w t c 0 1 = M 0 1 := by
  have hc1 := hL t ht c (by omega)
  have hc2 := hL t ht (c + 1) hc
  rw [show 12 * t + (c + 1) = 12 * t + c + 1 by omega] at hc2
  have hht := hh t ht
  have hclt := hcl t ht
  have hf := sp_flow_sm (kd := R 1 t) (w := w) hk hv (lev := M 1 (12 * t + c)) (lev2 := M 1 (12 * t + c + 1)) (by omega) (by omega) hc1.2
  unfold cs_over sp_over
  rw [show 12 * t + (c + 1) = 12 * t + c + 1 by omega]
  generalize sp_flow (R 1 t) (M 0 1) (M 1 (12 * t + c)) (M 1 (12 * t + c + 1)) (M 2 (12 * t + c)) (sp_dm k) (sp_th k) w = f at hf ⊢
  have hab := sp_abs_sm hf
  have hM2 : sl_u2 M 2 (12 * t + c) f 1 = M 1 := sp_u2_ne (by decide)
  have key : ∀ a b : Nat, ¬ a = b → (a = 12 * t + c ∨ a = 12 * t + c + 1) → (b = 12 * t + c ∨ b = 12 * t + c + 1) → cs_pourN (sl_u2 M 2 (12 * t + c) f) (R 3 t) (R 1 t) t (12 * t + c) a b (sp_min (sp_abs f / 100) (M 1 a)) = sp_pourN (sl_u2 M 2 (12 * t + c) f) (R 3 t) (R 1 t) t (12 * t + c) a b (sp_min (sp_abs f / 100) (M 1 a)) ∧ sp_Lv R (sp_pourN (sl_u2 M 2 (12 * t + c) f) (R 3 t) (R 1 t) t (12 * t + c) a b (sp_min (sp_abs f / 100) (M 1 a))) nT cl ∧ sp_pourN (sl_u2 M 2 (12 * t + c) f) (R 3 t) (R 1 t) t (12 * t + c) a b (sp_min (sp_abs f / 100) (M 1 a)) 0 1 = M 0 1 := by
    intro a b hne ha hb
    have hla : 0 ≤ (M 1 a).toInt ∧ (M 1 a).toInt ≤ (R 3 t).toInt := by
      rcases ha with rfl | rfl
      · exact hc1.1
      · exact hc2.1
    have hlb : 0 ≤ (M 1 b).toInt ∧ (M 1 b).toInt ≤ (R 3 t).toInt := by
      rcases hb with rfl | rfl
      · exact hc1.1
      · exact hc2.1
    have hn : 0 ≤ (sp_min (sp_abs f / 100) (M 1 a)).toInt ∧ (sp_min (sp_abs f / 100) (M 1 a)).toInt ≤ (M 1 a).toInt := by
      unfold sp_min
      split
      · omega
      · rename_i h
        have := (sp_le _ _).mp (Int32.not_lt.mp h)
        omega
    generalize sp_min (sp_abs f / 100) (M 1 a) = n at hn ⊢
    have p1 := sp_pour_eq (M := sl_u2 M 2 (12 * t + c) f) (hi := R 3 t) (kd := R 1 t) (n := n) (t := t) (k := 12 * t + c) hne hht (by rw [hM2]; exact hla) (by rw [hM2]; exact hlb) (by rw [hM2]; exact hn)
    have p2 := sp_pour_lv (M := sl_u2 M 2 (12 * t + c) f) (hi := R 3 t) (kd := R 1 t) (n := n) (t := t) (k := 12 * t + c) hne hht (by rw [hM2]; exact hla) (by rw [hM2]; exact hlb) (by rw [hM2]; exact hn)
    refine ⟨p1, ?_, by rw [sp_pourN_01]; rfl⟩
    obtain ⟨q1, q2, q3, q4, q5⟩ := p2
    rw [hM2] at q1
    rw [sp_u2_eq] at q4 q5
    rw [sp_u1_eq] at q5
    intro t' ht' c' hc'
    have h12' := hcl t' ht'
    refine ⟨?_, ?_⟩
    · by_cases ea : 12 * t' + c' = a
      · have : t' = t := by omega
        rw [ea, this]
        exact q2
      · by_cases eb : 12 * t' + c' = b
        · have : t' = t := by omega
          rw [eb, this]
          exact q3
        · rw [q1 _ ea eb]
          exact (hL t' ht' c' hc').1
    · by_cases ek : 12 * t' + c' = 12 * t + c
      · rw [ek]
        rcases q5 with q | q
        · rw [q]; exact hf
        · rw [q]; exact ⟨by decide, by decide⟩
      · rw [q4 _ ek, sp_u1_ne ek]
        exact (hL t' ht' c' hc').2
  split
  · exact key _ _ (by omega) (Or.inr rfl) (Or.inl rfl)
  · exact key _ _ (by omega) (Or.inl rfl) (Or.inr rfl)
