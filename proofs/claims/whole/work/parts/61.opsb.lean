section SPOB
variable {xs : Nat → Int32} {N : Nat} {σ : sl_S} {kd cl mt mc : Nat → Nat} {nT nM nW nR nF : Nat} {Q : Option sl_V → sl_S → Prop}
/-- the place's share at rest -/
def sp_rv (col all : Int32) (i : Nat) : Int32 := all / col + sp_b (nI i < all - all / col * col)
theorem sp_dv {x : Int32} {n : Nat} (h0 : 0 ≤ x.toInt) (h2 : 1 ≤ n) (h12 : n ≤ 1000) : (x / nI n).toInt = x.toInt / n := by
  rw [Int32.toInt_div, nI_toInt (by omega), Int.tdiv_eq_ediv_of_nonneg h0]
  have a1 := Int.ediv_nonneg h0 (show (0 : Int) ≤ n by omega)
  have a2 := Int.ediv_le_self n h0
  have a3 := x.toInt_lt
  exact sp_bm (by omega) (by omega)
theorem sp_bI (c : Prop) [Decidable c] : (sp_b c).toInt = if c then 1 else 0 := by
  by_cases h : c
  · rw [sp_bT h, if_pos h]; rfl
  · rw [sp_bF h, if_neg h]; rfl
theorem sp_rv_in {all : Int32} {n i : Nat} {H : Int} (hi : i < 1000) (h2 : 2 ≤ n) (h12 : n ≤ 12) (hH : H ≤ 99) (h0 : 0 ≤ all.toInt) (h : all.toInt ≤ n * H) : 0 ≤ (sp_rv (nI n) all i).toInt ∧ (sp_rv (nI n) all i).toInt ≤ H := by
  have d := sp_dv h0 (show 1 ≤ n by omega) (by omega)
  have en : (nI n).toInt = n := nI_toInt (by omega)
  have b1 : 0 ≤ all.toInt / n ∧ all.toInt / n ≤ H ∧ (n : Int) * (all.toInt / n) ≤ all.toInt ∧ all.toInt < n * (all.toInt / n) + n ∧ (all.toInt / n = H → n * (all.toInt / n) = all.toInt) := by
    rcases (show n = 2 ∨ n = 3 ∨ n = 4 ∨ n = 5 ∨ n = 6 ∨ n = 7 ∨ n = 8 ∨ n = 9 ∨ n = 10 ∨ n = 11 ∨ n = 12 by omega) with r | r | r | r | r | r | r | r | r | r | r <;> subst r <;> omega
  obtain ⟨b1, b2, b3, b4, b5⟩ := b1
  have m : (all / nI n * nI n).toInt = n * (all.toInt / n) := by
    rw [sp_mul, d, en, Int.mul_comm]
    all_goals rw [d, en, Int.mul_comm]; have := all.toInt_lt; omega
  have s : (all - all / nI n * nI n).toInt = all.toInt - n * (all.toInt / n) := by
    rw [sp_sub, m]
    all_goals rw [m]; have := all.toInt_lt; omega
  unfold sp_rv
  have bb := sp_bI (nI i < all - all / nI n * nI n)
  by_cases hc : nI i < all - all / nI n * nI n
  · rw [if_pos hc] at bb
    have lt := Int32.lt_iff_toInt_lt.mp hc
    rw [s] at lt
    rw [nI_toInt (by omega)] at lt
    by_cases e : all.toInt / n = H
    · have := b5 e
      omega
    · rw [sp_add, d, bb]
      · omega
      all_goals rw [d, bb]; omega
  · rw [if_neg hc] at bb
    rw [sp_add, d, bb]
    · omega
    all_goals rw [d, bb]; omega
theorem sp_rest_k {col all : Int32} {t : Nat} {M : Nat → Nat → Int32} {k' : Nat} (h1 : ¬ k' = 1) (h2 : ¬ k' = 2) : ∀ k, sp_restI col all t M k k' = M k'
  | 0 => rfl
  | k + 1 => by rw [sp_restI, sp_u2_ne h2, sp_u2_ne h1, sp_rest_k h1 h2 k]
theorem sp_rest_1 {col all : Int32} {t : Nat} {M : Nat → Nat → Int32} {j : Nat} : ∀ k, sp_restI col all t M k 1 j = if 12 * t ≤ j ∧ j < 12 * t + k then sp_rv col all (j - 12 * t) else M 1 j
  | 0 => by rw [if_neg (by omega)]; rfl
  | k + 1 => by
    rw [sp_restI, sp_u2_ne (by decide), sp_u2_eq]
    by_cases e : j = 12 * t + k
    · rw [e, sp_u1_eq, if_pos (by omega), show 12 * t + k - 12 * t = k by omega]
      rfl
    · rw [sp_u1_ne e, sp_rest_1 k]
      by_cases e2 : 12 * t ≤ j ∧ j < 12 * t + k
      · rw [if_pos e2, if_pos (by omega)]
      · rw [if_neg e2, if_neg (by omega)]
theorem sp_rest_2 {col all : Int32} {t : Nat} {M : Nat → Nat → Int32} {j : Nat} : ∀ k, sp_restI col all t M k 2 j = if 12 * t ≤ j ∧ j < 12 * t + k then 0 else M 2 j
  | 0 => by rw [if_neg (by omega)]; rfl
  | k + 1 => by
    rw [sp_restI, sp_u2_eq]
    by_cases e : j = 12 * t + k
    · rw [e, sp_u1_eq, if_pos (by omega)]
    · rw [sp_u1_ne e, sp_u2_ne (by decide), sp_rest_2 k]
      by_cases e2 : 12 * t ≤ j ∧ j < 12 * t + k
      · rw [if_pos e2, if_pos (by omega)]
      · rw [if_neg e2, if_neg (by omega)]
theorem jg_rest {col all : Int32} {t z : Nat} {M : Nat → Nat → Int32} : ∀ k, sp_restI col all t (jg M z) k = jg (sp_restI col all t M k) z
  | 0 => rfl
  | k + 1 => by
    rw [sp_restI, jg_rest k, ← jg_u2 (fun e => absurd e (by decide)), ← jg_u2 (fun e => absurd e (by decide))]
    rfl
/-- a tank's liquid at rest keeps the bounds -/
theorem sp_Lv_rest {R M : Nat → Nat → Int32} {t : Nat} {all : Int32} (hs : sp_Sh R nT nM cl mt mc) (hk : sp_Rk R nT nW) (ht : t < nT) (h0 : 0 ≤ all.toInt) (h1 : all.toInt ≤ cl t * (R 3 t).toInt) (hL : sp_Lv R M nT cl) : sp_Lv R (sp_restI (nI (cl t)) all t M (cl t)) nT cl := by
  obtain ⟨-, -, hc, -⟩ := hs
  intro t' ht' c hc'
  obtain ⟨c1, c2, c3⟩ := hc t' ht'
  rw [sp_rest_1, sp_rest_2]
  by_cases e : t' = t
  · subst e
    rw [if_pos (by omega), if_pos (by omega)]
    exact ⟨sp_rv_in (by omega) c2 c3 (hk.1 t' ht').1.2 h0 h1, ⟨by decide, by decide⟩⟩
  · obtain ⟨-, d2, d3⟩ := hc t ht
    rw [if_neg (by omega), if_neg (by omega)]
    exact hL t' ht' c hc'
theorem jL_mk {X M R : Nat → Nat → Int32} {zT zM : Nat} (h1 : sp_LR M X) (h2 : sp_Iv R M nT nM nW cl 20000) (h3 : jZ M zT zM) (h4 : (M 0 8 = 0 ∨ M 0 8 = 1) ∧ -1 ≤ (M 0 2).toInt) : jL (sp_mx (jg M zM) X) M R cl nT nM nW zT zM := by
  refine ⟨?_, h1, h2, h3, h4⟩
  funext k
  by_cases h : k < 8
  · rw [sp_mx_lt h, sp_mx_lt h]
  · rw [sp_mx_ge h, sp_mx_ge h, sp_mx_ge h]
theorem jL_rest {C M R : Nat → Nat → Int32} {zM t : Nat} {all : Int32} (hg : sp_Rg R kd cl mt mc nT nM nW) (hL : jL C M R cl nT nM nW nT zM) (ht : t < nT) (h0 : 0 ≤ all.toInt) (h1 : all.toInt ≤ cl t * (R 3 t).toInt) : jL (sp_mx (jg (sp_restI (nI (cl t)) all t M (cl t)) zM) C) (sp_restI (nI (cl t)) all t M (cl t)) R cl nT nM nW nT zM := by
  obtain ⟨a1, a2, ⟨b1, b2, b3, b4, b5, b6⟩, ⟨z1, z2, z3⟩, a5⟩ := hL
  have k0 := sp_rest_k (col := nI (cl t)) (all := all) (t := t) (M := M) (k' := 0) (by decide) (by decide) (cl t)
  have k3 := sp_rest_k (col := nI (cl t)) (all := all) (t := t) (M := M) (k' := 3) (by decide) (by decide) (cl t)
  have k4 := sp_rest_k (col := nI (cl t)) (all := all) (t := t) (M := M) (k' := 4) (by decide) (by decide) (cl t)
  have k5 := sp_rest_k (col := nI (cl t)) (all := all) (t := t) (M := M) (k' := 5) (by decide) (by decide) (cl t)
  have k6 := sp_rest_k (col := nI (cl t)) (all := all) (t := t) (M := M) (k' := 6) (by decide) (by decide) (cl t)
  have k7 := sp_rest_k (col := nI (cl t)) (all := all) (t := t) (M := M) (k' := 7) (by decide) (by decide) (cl t)
  have k9 := sp_rest_k (col := nI (cl t)) (all := all) (t := t) (M := M) (k' := 9) (by decide) (by decide) (cl t)
  obtain ⟨c1, c2, c3⟩ := hg.1.2.2.1 t ht
  have h5 := hg.1.2.1
  refine jL_mk ?_ ⟨sp_Lv_rest hg.1 hg.2.2 ht h0 h1 b1, ?_, ?_, ?_, ?_, ?_⟩ ⟨?_, ?_, ?_⟩ ?_
  · unfold sp_LR
    rw [k0, k9]
    exact a2
  · rw [k0]
    exact b2
  · unfold sp_Wok2
    rw [k0, k9]
    exact b3
  · unfold sp_Dr
    rw [k5, k7]
    exact b4
  · rw [k0]
    exact b5
  · rw [k0]
    exact b6
  · intro t' h1 h2
    rw [k3, k4]
    refine ⟨fun c hc => ?_, (z1 t' h1 h2).2⟩
    rw [sp_rest_1, sp_rest_2, if_neg (by omega), if_neg (by omega)]
    exact (z1 t' h1 h2).1 c hc
  · rw [k5, k6, k7]
    exact z2
  · intro k j hk hk7 hn
    by_cases e1 : k = 1
    · subst e1
      have : ¬ j < 60 := fun h => hn (.inr (.inl ⟨.inl rfl, h⟩))
      rw [sp_rest_1, if_neg (by omega)]
      exact z3 1 j hk hk7 hn
    · by_cases e2 : k = 2
      · subst e2
        have : ¬ j < 60 := fun h => hn (.inr (.inl ⟨.inr rfl, h⟩))
        rw [sp_rest_2, if_neg (by omega)]
        exact z3 2 j hk hk7 hn
      · rw [sp_rest_k e1 e2]
        exact z3 k j hk hk7 hn
  · rw [k0]
    exact a5
theorem jL_p3 {C M R : Nat → Nat → Int32} {zM t : Nat} {v : Int32} (h5 : nT ≤ 5) (hL : jL C M R cl nT nM nW nT zM) (ht : t < nT) : jL (sl_u2 C 3 t v) (sl_u2 M 3 t v) R cl nT nM nW nT zM := by
  obtain ⟨a1, a2, a3, ⟨z1, z2, z3⟩, a5⟩ := hL
  refine ⟨jL_u2 a1 (fun e => absurd e (by decide)), a2, a3, ⟨?_, z2, jz_u2 z3 (.inr (.inl (by unfold sp_rg; omega)))⟩, a5⟩
  intro t' h1 h2
  obtain ⟨y1, y2, y3⟩ := z1 t' h1 h2
  refine ⟨y1, ?_, y3⟩
  show sl_u1 (M 3) t v t' = 0
  rw [sp_u1_ne (by omega)]
  exact y2
theorem sp_room {R : Nat → Nat → Int32} {t : Nat} (hs : sp_Sh R nT nM cl mt mc) (hk : sp_Rk R nT nW) (ht : t < nT) : (R 2 t * R 3 t).toInt = cl t * (R 3 t).toInt ∧ 2 ≤ (R 2 t * R 3 t).toInt ∧ (R 2 t * R 3 t).toInt ≤ 1188 := by
  obtain ⟨-, h5, hc, -⟩ := hs
  obtain ⟨c1, c2, c3⟩ := hc t ht
  obtain ⟨b1, b2⟩ := (hk.1 t ht).1
  have e : (R 2 t).toInt = cl t := by rw [c1]; exact nI_toInt (by omega)
  have p : (cl t : Int) * (R 3 t).toInt ≤ 1188 ∧ 2 ≤ (cl t : Int) * (R 3 t).toInt := by
    rcases (show cl t = 2 ∨ cl t = 3 ∨ cl t = 4 ∨ cl t = 5 ∨ cl t = 6 ∨ cl t = 7 ∨ cl t = 8 ∨ cl t = 9 ∨ cl t = 10 ∨ cl t = 11 ∨ cl t = 12 by omega) with r | r | r | r | r | r | r | r | r | r | r <;> rw [r] <;> omega
  rw [sp_mul (by rw [e]; omega) (by rw [e]; omega), e]
  exact ⟨rfl, p.2, p.1⟩
theorem jJ.wr (h : jJ σ kd cl mt mc nT nM nW nR nF) {k i : Nat} {v : Int32} (hk : k < 7) : sl_up σ 1 k i v = sp_st σ 1 (sp_mx (jg (sl_u2 (σ 4) k i v) nM) (σ 1)) := by
  rw [jg_u2 (fun e => absurd e (by omega)), ← sp_mx_ul (by omega), ← h.2.1.1]
  rfl
theorem sp_mx_r {P C : Nat → Nat → Int32} {k i : Nat} {v : Int32} (h : k < 8) : sp_mx P (sl_u2 C k i v) = sp_mx P C := by
  funext k'
  by_cases e : k' < 8
  · rw [sp_mx_lt e, sp_mx_lt e]
  · rw [sp_mx_ge e, sp_mx_ge e, sp_u2_ne (by omega)]
theorem o_fill (h : jJ σ kd cl mt mc nT nM nW nR nF) (t a : Int32) : sl_Go xs N 49 0 [some (.inr (.inr (0, 0, 0))), some (.inl t), some (.inl a), none] [] σ (jQ xs N 102 [some (.inr (.inr (40, 0, 0))), some (.inl t), some (.inl a), none]) := by
  have e0 := h.rc 0 (by decide) (by decide)
  have e2 := h.rc 2 (by decide) (by decide)
  have e3 := h.rc 3 (by decide) (by decide)
  have l3 := h.live (k := 3) (by decide)
  obtain ⟨hT, h5, hc, -⟩ := h.sh
  have hA := h.a
  unfold jQ
  by_cases ht : 0 ≤ t ∧ t ≤ nI nT - 1
  · obtain ⟨t', ht', rfl⟩ := (j_tank (by omega)).mp ht
    obtain ⟨c1, c2, c3⟩ := hc t' ht'
    have t5 : t' < 5 := by omega
    by_cases ha : 0 ≤ a ∧ a ≤ σ 6 2 t' * σ 6 3 t'
    · simp (disch := omega) only [g49_0, g49_1, g49_4, g49_5, g49_8, g49_11, g49_12, g49_13, g49_14, g49_15, g49_16, g49_19, g49_22, g49_23, g49_24, g49_27, g49_30, g49_33, g49_35, g49_36, g49_37, g49_40, g49_41, sz_i4, sz_w4, sz_r4, sz_p4, sz_i5, sz_w5, sz_r5, sz_p5, sz_i6, sz_w6, sz_r6, sz_p6, sz_i7, sz_w7, sz_r7, sz_p7, sz_i8, sz_w8, sz_r8, sz_p8, sz_i9, sz_w9, sz_r9, sz_p9, sz_i10, sz_w10, sz_r10, sz_p10, sz_i14, sz_w14, sz_r14, sz_p14, sz_i15, sz_w15, sz_r15, sz_p15, sz_i18, sz_w18, sz_r18, sz_p18, sz_i19, sz_w19, sz_r19, sz_p19, sz_w21, sz_r21, sz_p21, sz_i23, sz_w23, sz_r23, sz_p23, sz_i24, sz_w24, sz_r24, sz_p24, sz_i25, sz_w25, sz_r25, sz_p25, sz_i28, sz_w28, sz_r28, sz_p28, sz_i31, sz_w31, sz_r31, sz_p31, sz_i41, sz_w41, sz_r41, sz_p41, sz_i42, sz_w42, sz_r42, sz_p42, sz_i43, sz_w43, sz_r43, sz_p43, sz_i44, sz_w44, sz_r44, sz_p44, sz_i45, sz_w45, sz_r45, sz_p45, sz_i46, sz_w46, sz_r46, sz_p46, sz_i47, sz_w47, sz_r47, sz_p47, sz_i48, sz_w48, sz_r48, sz_p48, sz_i49, sz_w49, sz_r49, sz_p49, sz_i50, sz_w50, sz_r50, sz_p50, sz_w51, sz_r51, sz_p51, sz_i52, sz_w52, sz_r52, sz_p52, sz_i53, sz_w53, sz_r53, sz_p53, sz_i54, sz_w54, sz_r54, sz_p54, sz_i55, sz_w55, sz_r55, sz_p55, sz_i56, sz_w56, sz_r56, sz_p56, sz_i57, sz_w57, sz_r57, sz_p57, sz_i58, sz_w58, sz_r58, sz_p58, sz_i59, sz_w59, sz_r59, sz_p59, sz_i60, sz_w60, sz_r60, sz_p60, sz_i61, sz_w61, sz_r61, sz_p61, sz_w62, sz_r62, sz_p62, sz_i63, sz_w63, sz_r63, sz_p63, sz_i64, sz_w64, sz_r64, sz_p64, sz_i65, sz_w65, sz_r65, sz_p65, sz_i66, sz_w66, sz_r66, sz_p66, sz_i67, sz_w67, sz_r67, sz_p67, sz_i68, sz_w68, sz_r68, sz_p68, sz_i69, sz_w69, sz_r69, sz_p69, sz_i70, sz_w70, sz_r70, sz_p70, sz_w71, sz_r71, sz_p71, sz_i72, sz_w72, sz_r72, sz_p72, sz_i73, sz_w73, sz_r73, sz_p73, sz_i74, sz_w74, sz_r74, sz_p74, sz_i75, sz_w75, sz_r75, sz_p75, sz_q2, sz_g2, sz_q3, sz_g3, sz_q12, sz_g12, sz_q16, sz_g16, sz_q26, sz_g26, sz_q29, sz_g29, sz_i90, sz_r90, sz_i91, sz_r91, sz_i92, sz_r92, sz_i93, sz_r93, sz_i94, sz_r94, sz_i95, sz_r95, sz_i99, sz_r99, sz_c0, sz_c1, sz_c2, sz_c3, Option.toList, List.cons_append, List.nil_append, sp_h100, sp_h2, sp_h24, sp_h10, sp_h10L, not_false_eq_true, not_true, true_and, and_true, true_implies, false_implies, nI_toInt, nI_clamp, sp_st_ne, sp_st_eq, sp_st_up, nI_1, sp_12, c_hasTank, c_room, c_within, sp_b0, e0, e2, e3, hT, c1, ht, ha]
      rw [c1] at ha
      simp (disch := omega) only [ha]
      repeat' (first | apply And.intro | (intro _))
      all_goals try first | contradiction | decide | omega
      refine jc_amount h ht' ?_
      simp (disch := omega) only [g49_44n, g49_44i, g49_44r, g49_45, g49_46, g49_49, g49_52, g49_53, g49_54, g49_55, g49_56, g49_57, g49_58, g49_59, g49_60, g49_61, g49_64, g49_65, g49_66, sz_i4, sz_w4, sz_r4, sz_p4, sz_i5, sz_w5, sz_r5, sz_p5, sz_i6, sz_w6, sz_r6, sz_p6, sz_i7, sz_w7, sz_r7, sz_p7, sz_i8, sz_w8, sz_r8, sz_p8, sz_i9, sz_w9, sz_r9, sz_p9, sz_i10, sz_w10, sz_r10, sz_p10, sz_i14, sz_w14, sz_r14, sz_p14, sz_i15, sz_w15, sz_r15, sz_p15, sz_i18, sz_w18, sz_r18, sz_p18, sz_i19, sz_w19, sz_r19, sz_p19, sz_w21, sz_r21, sz_p21, sz_i23, sz_w23, sz_r23, sz_p23, sz_i24, sz_w24, sz_r24, sz_p24, sz_i25, sz_w25, sz_r25, sz_p25, sz_i28, sz_w28, sz_r28, sz_p28, sz_i31, sz_w31, sz_r31, sz_p31, sz_i41, sz_w41, sz_r41, sz_p41, sz_i42, sz_w42, sz_r42, sz_p42, sz_i43, sz_w43, sz_r43, sz_p43, sz_i44, sz_w44, sz_r44, sz_p44, sz_i45, sz_w45, sz_r45, sz_p45, sz_i46, sz_w46, sz_r46, sz_p46, sz_i47, sz_w47, sz_r47, sz_p47, sz_i48, sz_w48, sz_r48, sz_p48, sz_i49, sz_w49, sz_r49, sz_p49, sz_i50, sz_w50, sz_r50, sz_p50, sz_w51, sz_r51, sz_p51, sz_i52, sz_w52, sz_r52, sz_p52, sz_i53, sz_w53, sz_r53, sz_p53, sz_i54, sz_w54, sz_r54, sz_p54, sz_i55, sz_w55, sz_r55, sz_p55, sz_i56, sz_w56, sz_r56, sz_p56, sz_i57, sz_w57, sz_r57, sz_p57, sz_i58, sz_w58, sz_r58, sz_p58, sz_i59, sz_w59, sz_r59, sz_p59, sz_i60, sz_w60, sz_r60, sz_p60, sz_i61, sz_w61, sz_r61, sz_p61, sz_w62, sz_r62, sz_p62, sz_i63, sz_w63, sz_r63, sz_p63, sz_i64, sz_w64, sz_r64, sz_p64, sz_i65, sz_w65, sz_r65, sz_p65, sz_i66, sz_w66, sz_r66, sz_p66, sz_i67, sz_w67, sz_r67, sz_p67, sz_i68, sz_w68, sz_r68, sz_p68, sz_i69, sz_w69, sz_r69, sz_p69, sz_i70, sz_w70, sz_r70, sz_p70, sz_w71, sz_r71, sz_p71, sz_i72, sz_w72, sz_r72, sz_p72, sz_i73, sz_w73, sz_r73, sz_p73, sz_i74, sz_w74, sz_r74, sz_p74, sz_i75, sz_w75, sz_r75, sz_p75, sz_q2, sz_g2, sz_q3, sz_g3, sz_q12, sz_g12, sz_q16, sz_g16, sz_q26, sz_g26, sz_q29, sz_g29, sz_i90, sz_r90, sz_i91, sz_r91, sz_i92, sz_r92, sz_i93, sz_r93, sz_i94, sz_r94, sz_i95, sz_r95, sz_i99, sz_r99, sz_c0, sz_c1, sz_c2, sz_c3, Option.toList, List.cons_append, List.nil_append, sp_h100, sp_h2, sp_h24, sp_h10, sp_h10L, not_false_eq_true, not_true, true_and, and_true, true_implies, false_implies, nI_toInt, nI_clamp, sp_st_ne, sp_st_eq, sp_st_up, nI_1, sp_12, l3]
      repeat' (first | apply And.intro | (intro _))
      all_goals try first | contradiction | decide | omega
      rw [h.wr (by decide)]
      refine c_settle (R := σ 6) (by decide) (fun k hk hk5 => h.rc k hk hk5) t5 (by omega) c3 c1 ?_
      simp (disch := omega) only [g49_69, g49_70, g102_0, g102_1, g102_2, g102_5, g102_8, g102_9, g102_10, g102_11, g102_12, g102_13, g102_14, g102_15, g102_18, g102_21, g102_24, g102_26, g102_27, g102_28, g102_29, sz_i4, sz_w4, sz_r4, sz_p4, sz_i5, sz_w5, sz_r5, sz_p5, sz_i6, sz_w6, sz_r6, sz_p6, sz_i7, sz_w7, sz_r7, sz_p7, sz_i8, sz_w8, sz_r8, sz_p8, sz_i9, sz_w9, sz_r9, sz_p9, sz_i10, sz_w10, sz_r10, sz_p10, sz_i14, sz_w14, sz_r14, sz_p14, sz_i15, sz_w15, sz_r15, sz_p15, sz_i18, sz_w18, sz_r18, sz_p18, sz_i19, sz_w19, sz_r19, sz_p19, sz_w21, sz_r21, sz_p21, sz_i23, sz_w23, sz_r23, sz_p23, sz_i24, sz_w24, sz_r24, sz_p24, sz_i25, sz_w25, sz_r25, sz_p25, sz_i28, sz_w28, sz_r28, sz_p28, sz_i31, sz_w31, sz_r31, sz_p31, sz_i41, sz_w41, sz_r41, sz_p41, sz_i42, sz_w42, sz_r42, sz_p42, sz_i43, sz_w43, sz_r43, sz_p43, sz_i44, sz_w44, sz_r44, sz_p44, sz_i45, sz_w45, sz_r45, sz_p45, sz_i46, sz_w46, sz_r46, sz_p46, sz_i47, sz_w47, sz_r47, sz_p47, sz_i48, sz_w48, sz_r48, sz_p48, sz_i49, sz_w49, sz_r49, sz_p49, sz_i50, sz_w50, sz_r50, sz_p50, sz_w51, sz_r51, sz_p51, sz_i52, sz_w52, sz_r52, sz_p52, sz_i53, sz_w53, sz_r53, sz_p53, sz_i54, sz_w54, sz_r54, sz_p54, sz_i55, sz_w55, sz_r55, sz_p55, sz_i56, sz_w56, sz_r56, sz_p56, sz_i57, sz_w57, sz_r57, sz_p57, sz_i58, sz_w58, sz_r58, sz_p58, sz_i59, sz_w59, sz_r59, sz_p59, sz_i60, sz_w60, sz_r60, sz_p60, sz_i61, sz_w61, sz_r61, sz_p61, sz_w62, sz_r62, sz_p62, sz_i63, sz_w63, sz_r63, sz_p63, sz_i64, sz_w64, sz_r64, sz_p64, sz_i65, sz_w65, sz_r65, sz_p65, sz_i66, sz_w66, sz_r66, sz_p66, sz_i67, sz_w67, sz_r67, sz_p67, sz_i68, sz_w68, sz_r68, sz_p68, sz_i69, sz_w69, sz_r69, sz_p69, sz_i70, sz_w70, sz_r70, sz_p70, sz_w71, sz_r71, sz_p71, sz_i72, sz_w72, sz_r72, sz_p72, sz_i73, sz_w73, sz_r73, sz_p73, sz_i74, sz_w74, sz_r74, sz_p74, sz_i75, sz_w75, sz_r75, sz_p75, sz_q2, sz_g2, sz_q3, sz_g3, sz_q12, sz_g12, sz_q16, sz_g16, sz_q26, sz_g26, sz_q29, sz_g29, sz_i90, sz_r90, sz_i91, sz_r91, sz_i92, sz_r92, sz_i93, sz_r93, sz_i94, sz_r94, sz_i95, sz_r95, sz_i99, sz_r99, sz_c0, sz_c1, sz_c2, sz_c3, Option.toList, List.cons_append, List.nil_append, sp_h100, sp_h2, sp_h24, sp_h10, sp_h10L, not_false_eq_true, not_true, true_and, and_true, true_implies, false_implies, nI_toInt, nI_clamp, sp_st_ne, sp_st_eq, sp_st_up, nI_1, sp_12, m_isTank, m_room t5, m_in, sp_b0, hT, c1, ht, ha]
      repeat' (first | apply And.intro | (intro _))
      all_goals try first | contradiction | decide | omega
      refine m_inside t5 c3 c1 ?_
      simp (disch := omega) only [g102_32n, g102_32i, g102_32r, g102_33, g102_34, g102_37, g102_38, g102_39, g102_40, g102_41, g102_42, g102_43, g102_44, g102_45, g102_46, g102_47, g102_48, sz_i4, sz_w4, sz_r4, sz_p4, sz_i5, sz_w5, sz_r5, sz_p5, sz_i6, sz_w6, sz_r6, sz_p6, sz_i7, sz_w7, sz_r7, sz_p7, sz_i8, sz_w8, sz_r8, sz_p8, sz_i9, sz_w9, sz_r9, sz_p9, sz_i10, sz_w10, sz_r10, sz_p10, sz_i14, sz_w14, sz_r14, sz_p14, sz_i15, sz_w15, sz_r15, sz_p15, sz_i18, sz_w18, sz_r18, sz_p18, sz_i19, sz_w19, sz_r19, sz_p19, sz_w21, sz_r21, sz_p21, sz_i23, sz_w23, sz_r23, sz_p23, sz_i24, sz_w24, sz_r24, sz_p24, sz_i25, sz_w25, sz_r25, sz_p25, sz_i28, sz_w28, sz_r28, sz_p28, sz_i31, sz_w31, sz_r31, sz_p31, sz_i41, sz_w41, sz_r41, sz_p41, sz_i42, sz_w42, sz_r42, sz_p42, sz_i43, sz_w43, sz_r43, sz_p43, sz_i44, sz_w44, sz_r44, sz_p44, sz_i45, sz_w45, sz_r45, sz_p45, sz_i46, sz_w46, sz_r46, sz_p46, sz_i47, sz_w47, sz_r47, sz_p47, sz_i48, sz_w48, sz_r48, sz_p48, sz_i49, sz_w49, sz_r49, sz_p49, sz_i50, sz_w50, sz_r50, sz_p50, sz_w51, sz_r51, sz_p51, sz_i52, sz_w52, sz_r52, sz_p52, sz_i53, sz_w53, sz_r53, sz_p53, sz_i54, sz_w54, sz_r54, sz_p54, sz_i55, sz_w55, sz_r55, sz_p55, sz_i56, sz_w56, sz_r56, sz_p56, sz_i57, sz_w57, sz_r57, sz_p57, sz_i58, sz_w58, sz_r58, sz_p58, sz_i59, sz_w59, sz_r59, sz_p59, sz_i60, sz_w60, sz_r60, sz_p60, sz_i61, sz_w61, sz_r61, sz_p61, sz_w62, sz_r62, sz_p62, sz_i63, sz_w63, sz_r63, sz_p63, sz_i64, sz_w64, sz_r64, sz_p64, sz_i65, sz_w65, sz_r65, sz_p65, sz_i66, sz_w66, sz_r66, sz_p66, sz_i67, sz_w67, sz_r67, sz_p67, sz_i68, sz_w68, sz_r68, sz_p68, sz_i69, sz_w69, sz_r69, sz_p69, sz_i70, sz_w70, sz_r70, sz_p70, sz_w71, sz_r71, sz_p71, sz_i72, sz_w72, sz_r72, sz_p72, sz_i73, sz_w73, sz_r73, sz_p73, sz_i74, sz_w74, sz_r74, sz_p74, sz_i75, sz_w75, sz_r75, sz_p75, sz_q2, sz_g2, sz_q3, sz_g3, sz_q12, sz_g12, sz_q16, sz_g16, sz_q26, sz_g26, sz_q29, sz_g29, sz_i90, sz_r90, sz_i91, sz_r91, sz_i92, sz_r92, sz_i93, sz_r93, sz_i94, sz_r94, sz_i95, sz_r95, sz_i99, sz_r99, sz_c0, sz_c1, sz_c2, sz_c3, Option.toList, List.cons_append, List.nil_append, sp_h100, sp_h2, sp_h24, sp_h10, sp_h10L, not_false_eq_true, not_true, true_and, and_true, true_implies, false_implies, nI_toInt, nI_clamp, sp_st_ne, sp_st_eq, sp_st_up, nI_1, sp_12]
      repeat' (first | apply And.intro | (intro _))
      all_goals try first | contradiction | decide | omega
      have hr := sp_room h.sh h.1.2.2.2.2.2.2 ht'
      have hp := jL_rest h.1.2.2.2.2 (jL_p3 (v := σ 4 3 t' + (a - sp_acc (fun c => σ 4 1 (12 * t' + c)) 0 (cl t'))) h5 h.2.1 ht') ht' (all := a) ((sp_le _ _).mp ha.1) (by rw [← hr.1, c1]; exact (sp_le _ _).mp ha.2)
      refine m_rest t5 (by omega) c3 c1 ?_
      simp (disch := omega) only [g102_51, g102_52, sz_i4, sz_w4, sz_r4, sz_p4, sz_i5, sz_w5, sz_r5, sz_p5, sz_i6, sz_w6, sz_r6, sz_p6, sz_i7, sz_w7, sz_r7, sz_p7, sz_i8, sz_w8, sz_r8, sz_p8, sz_i9, sz_w9, sz_r9, sz_p9, sz_i10, sz_w10, sz_r10, sz_p10, sz_i14, sz_w14, sz_r14, sz_p14, sz_i15, sz_w15, sz_r15, sz_p15, sz_i18, sz_w18, sz_r18, sz_p18, sz_i19, sz_w19, sz_r19, sz_p19, sz_w21, sz_r21, sz_p21, sz_i23, sz_w23, sz_r23, sz_p23, sz_i24, sz_w24, sz_r24, sz_p24, sz_i25, sz_w25, sz_r25, sz_p25, sz_i28, sz_w28, sz_r28, sz_p28, sz_i31, sz_w31, sz_r31, sz_p31, sz_i41, sz_w41, sz_r41, sz_p41, sz_i42, sz_w42, sz_r42, sz_p42, sz_i43, sz_w43, sz_r43, sz_p43, sz_i44, sz_w44, sz_r44, sz_p44, sz_i45, sz_w45, sz_r45, sz_p45, sz_i46, sz_w46, sz_r46, sz_p46, sz_i47, sz_w47, sz_r47, sz_p47, sz_i48, sz_w48, sz_r48, sz_p48, sz_i49, sz_w49, sz_r49, sz_p49, sz_i50, sz_w50, sz_r50, sz_p50, sz_w51, sz_r51, sz_p51, sz_i52, sz_w52, sz_r52, sz_p52, sz_i53, sz_w53, sz_r53, sz_p53, sz_i54, sz_w54, sz_r54, sz_p54, sz_i55, sz_w55, sz_r55, sz_p55, sz_i56, sz_w56, sz_r56, sz_p56, sz_i57, sz_w57, sz_r57, sz_p57, sz_i58, sz_w58, sz_r58, sz_p58, sz_i59, sz_w59, sz_r59, sz_p59, sz_i60, sz_w60, sz_r60, sz_p60, sz_i61, sz_w61, sz_r61, sz_p61, sz_w62, sz_r62, sz_p62, sz_i63, sz_w63, sz_r63, sz_p63, sz_i64, sz_w64, sz_r64, sz_p64, sz_i65, sz_w65, sz_r65, sz_p65, sz_i66, sz_w66, sz_r66, sz_p66, sz_i67, sz_w67, sz_r67, sz_p67, sz_i68, sz_w68, sz_r68, sz_p68, sz_i69, sz_w69, sz_r69, sz_p69, sz_i70, sz_w70, sz_r70, sz_p70, sz_w71, sz_r71, sz_p71, sz_i72, sz_w72, sz_r72, sz_p72, sz_i73, sz_w73, sz_r73, sz_p73, sz_i74, sz_w74, sz_r74, sz_p74, sz_i75, sz_w75, sz_r75, sz_p75, sz_q2, sz_g2, sz_q3, sz_g3, sz_q12, sz_g12, sz_q16, sz_g16, sz_q26, sz_g26, sz_q29, sz_g29, sz_i90, sz_r90, sz_i91, sz_r91, sz_i92, sz_r92, sz_i93, sz_r93, sz_i94, sz_r94, sz_i95, sz_r95, sz_i99, sz_r99, sz_c0, sz_c1, sz_c2, sz_c3, Option.toList, List.cons_append, List.nil_append, sp_h100, sp_h2, sp_h24, sp_h10, sp_h10L, not_false_eq_true, not_true, true_and, and_true, true_implies, false_implies, nI_toInt, nI_clamp, sp_st_ne, sp_st_eq, sp_st_up, nI_1, sp_12]
      rw [sp_mx_r (by decide)] at hp
      simp only [jg_rest, sp_up, sp_st_st, sp_st_eq, sp_st_ne, not_false_eq_true]
      exact j_end rfl (h.liq hp).a
    · simp (disch := omega) only [g49_0, g49_1, g49_4, g49_5, g49_8, g49_11, g49_12, g49_13, g49_14, g49_15, g49_16, g49_19, g49_22, g49_23, g49_24, g49_27, g49_30, g49_33, g49_35, g102_0, g102_1, g102_2, g102_5, g102_8, g102_9, g102_10, g102_11, g102_12, g102_13, g102_14, g102_15, g102_18, g102_21, g102_24, g102_26, sz_i4, sz_w4, sz_r4, sz_p4, sz_i5, sz_w5, sz_r5, sz_p5, sz_i6, sz_w6, sz_r6, sz_p6, sz_i7, sz_w7, sz_r7, sz_p7, sz_i8, sz_w8, sz_r8, sz_p8, sz_i9, sz_w9, sz_r9, sz_p9, sz_i10, sz_w10, sz_r10, sz_p10, sz_i14, sz_w14, sz_r14, sz_p14, sz_i15, sz_w15, sz_r15, sz_p15, sz_i18, sz_w18, sz_r18, sz_p18, sz_i19, sz_w19, sz_r19, sz_p19, sz_w21, sz_r21, sz_p21, sz_i23, sz_w23, sz_r23, sz_p23, sz_i24, sz_w24, sz_r24, sz_p24, sz_i25, sz_w25, sz_r25, sz_p25, sz_i28, sz_w28, sz_r28, sz_p28, sz_i31, sz_w31, sz_r31, sz_p31, sz_i41, sz_w41, sz_r41, sz_p41, sz_i42, sz_w42, sz_r42, sz_p42, sz_i43, sz_w43, sz_r43, sz_p43, sz_i44, sz_w44, sz_r44, sz_p44, sz_i45, sz_w45, sz_r45, sz_p45, sz_i46, sz_w46, sz_r46, sz_p46, sz_i47, sz_w47, sz_r47, sz_p47, sz_i48, sz_w48, sz_r48, sz_p48, sz_i49, sz_w49, sz_r49, sz_p49, sz_i50, sz_w50, sz_r50, sz_p50, sz_w51, sz_r51, sz_p51, sz_i52, sz_w52, sz_r52, sz_p52, sz_i53, sz_w53, sz_r53, sz_p53, sz_i54, sz_w54, sz_r54, sz_p54, sz_i55, sz_w55, sz_r55, sz_p55, sz_i56, sz_w56, sz_r56, sz_p56, sz_i57, sz_w57, sz_r57, sz_p57, sz_i58, sz_w58, sz_r58, sz_p58, sz_i59, sz_w59, sz_r59, sz_p59, sz_i60, sz_w60, sz_r60, sz_p60, sz_i61, sz_w61, sz_r61, sz_p61, sz_w62, sz_r62, sz_p62, sz_i63, sz_w63, sz_r63, sz_p63, sz_i64, sz_w64, sz_r64, sz_p64, sz_i65, sz_w65, sz_r65, sz_p65, sz_i66, sz_w66, sz_r66, sz_p66, sz_i67, sz_w67, sz_r67, sz_p67, sz_i68, sz_w68, sz_r68, sz_p68, sz_i69, sz_w69, sz_r69, sz_p69, sz_i70, sz_w70, sz_r70, sz_p70, sz_w71, sz_r71, sz_p71, sz_i72, sz_w72, sz_r72, sz_p72, sz_i73, sz_w73, sz_r73, sz_p73, sz_i74, sz_w74, sz_r74, sz_p74, sz_i75, sz_w75, sz_r75, sz_p75, sz_q2, sz_g2, sz_q3, sz_g3, sz_q12, sz_g12, sz_q16, sz_g16, sz_q26, sz_g26, sz_q29, sz_g29, sz_i90, sz_r90, sz_i91, sz_r91, sz_i92, sz_r92, sz_i93, sz_r93, sz_i94, sz_r94, sz_i95, sz_r95, sz_i99, sz_r99, sz_c0, sz_c1, sz_c2, sz_c3, Option.toList, List.cons_append, List.nil_append, sp_h100, sp_h2, sp_h24, sp_h10, sp_h10L, not_false_eq_true, not_true, true_and, and_true, true_implies, false_implies, nI_toInt, nI_clamp, sp_st_ne, sp_st_eq, sp_st_up, nI_1, sp_12, c_hasTank, c_room, c_within, m_isTank, m_room t5, m_in, sp_b0, e0, e2, e3, hT, ht, ha]
      repeat' (first | apply And.intro | (intro _))
      all_goals first | contradiction | exact j_end rfl hA | decide | omega
  · simp (disch := omega) only [g49_0, g49_1, g49_4, g49_5, g49_8, g49_11, g49_12, g102_0, g102_1, g102_2, g102_5, g102_8, g102_9, sz_i4, sz_w4, sz_r4, sz_p4, sz_i5, sz_w5, sz_r5, sz_p5, sz_i6, sz_w6, sz_r6, sz_p6, sz_i7, sz_w7, sz_r7, sz_p7, sz_i8, sz_w8, sz_r8, sz_p8, sz_i9, sz_w9, sz_r9, sz_p9, sz_i10, sz_w10, sz_r10, sz_p10, sz_i14, sz_w14, sz_r14, sz_p14, sz_i15, sz_w15, sz_r15, sz_p15, sz_i18, sz_w18, sz_r18, sz_p18, sz_i19, sz_w19, sz_r19, sz_p19, sz_w21, sz_r21, sz_p21, sz_i23, sz_w23, sz_r23, sz_p23, sz_i24, sz_w24, sz_r24, sz_p24, sz_i25, sz_w25, sz_r25, sz_p25, sz_i28, sz_w28, sz_r28, sz_p28, sz_i31, sz_w31, sz_r31, sz_p31, sz_i41, sz_w41, sz_r41, sz_p41, sz_i42, sz_w42, sz_r42, sz_p42, sz_i43, sz_w43, sz_r43, sz_p43, sz_i44, sz_w44, sz_r44, sz_p44, sz_i45, sz_w45, sz_r45, sz_p45, sz_i46, sz_w46, sz_r46, sz_p46, sz_i47, sz_w47, sz_r47, sz_p47, sz_i48, sz_w48, sz_r48, sz_p48, sz_i49, sz_w49, sz_r49, sz_p49, sz_i50, sz_w50, sz_r50, sz_p50, sz_w51, sz_r51, sz_p51, sz_i52, sz_w52, sz_r52, sz_p52, sz_i53, sz_w53, sz_r53, sz_p53, sz_i54, sz_w54, sz_r54, sz_p54, sz_i55, sz_w55, sz_r55, sz_p55, sz_i56, sz_w56, sz_r56, sz_p56, sz_i57, sz_w57, sz_r57, sz_p57, sz_i58, sz_w58, sz_r58, sz_p58, sz_i59, sz_w59, sz_r59, sz_p59, sz_i60, sz_w60, sz_r60, sz_p60, sz_i61, sz_w61, sz_r61, sz_p61, sz_w62, sz_r62, sz_p62, sz_i63, sz_w63, sz_r63, sz_p63, sz_i64, sz_w64, sz_r64, sz_p64, sz_i65, sz_w65, sz_r65, sz_p65, sz_i66, sz_w66, sz_r66, sz_p66, sz_i67, sz_w67, sz_r67, sz_p67, sz_i68, sz_w68, sz_r68, sz_p68, sz_i69, sz_w69, sz_r69, sz_p69, sz_i70, sz_w70, sz_r70, sz_p70, sz_w71, sz_r71, sz_p71, sz_i72, sz_w72, sz_r72, sz_p72, sz_i73, sz_w73, sz_r73, sz_p73, sz_i74, sz_w74, sz_r74, sz_p74, sz_i75, sz_w75, sz_r75, sz_p75, sz_q2, sz_g2, sz_q3, sz_g3, sz_q12, sz_g12, sz_q16, sz_g16, sz_q26, sz_g26, sz_q29, sz_g29, sz_i90, sz_r90, sz_i91, sz_r91, sz_i92, sz_r92, sz_i93, sz_r93, sz_i94, sz_r94, sz_i95, sz_r95, sz_i99, sz_r99, sz_c0, sz_c1, sz_c2, sz_c3, Option.toList, List.cons_append, List.nil_append, sp_h100, sp_h2, sp_h24, sp_h10, sp_h10L, not_false_eq_true, not_true, true_and, and_true, true_implies, false_implies, nI_toInt, nI_clamp, sp_st_ne, sp_st_eq, sp_st_up, nI_1, sp_12, c_hasTank, m_isTank, sp_b0, e0, hT, ht]
    repeat' (first | apply And.intro | (intro _))
    all_goals first | contradiction | exact j_end rfl hA | decide | omega
end SPOB
