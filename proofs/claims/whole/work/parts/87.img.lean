section SPIM
variable {xs : Nat → Int32} {N : Nat} {σ : sl_S} {kd cl mt mc : Nat → Nat} {nT nM nW nR nF : Nat} {Q : Option sl_V → sl_S → Prop}
theorem jL_C {C C' M R : Nat → Nat → Int32} {zT zM : Nat} (hL : jL C M R cl nT nM nW zT zM) (h : ∀ k, k < 8 → C' k = C k) (h0 : C' 8 0 = C 8 0) (h1 : C' 8 1 = C 8 1) : jL C' M R cl nT nM nW zT zM := by
  obtain ⟨a1, a2, a3⟩ := hL
  refine ⟨?_, ?_, a3⟩
  · rw [jC] at a1 ⊢
    intro k hk
    rw [h k hk, a1 k hk]
  · unfold sp_LR at a2 ⊢
    rw [h0, h1]
    exact a2
theorem jJ.image (h : jJ σ kd cl mt mc nT nM nW nR nF) {C : Nat → Nat → Int32} {K : Nat → Int32} (hL : jL C (σ 4) (σ 6) cl nT nM nW nT nM) (ho : jo C) (hK : jK K 170 (σ 4)) {τ : sl_S} (t1 : τ 1 = σ 1) (t2 : τ 2 = σ 2) (t3 : τ 3 = C) (t4 : τ 4 = σ 4) (t5 : τ 5 = σ 5) (t6 : τ 6 = σ 6) (t7 : τ 7 = sl_u2 (σ 7) 0 0 1) (t8 : τ 8 = sl_u2 (sl_u2 (sl_u2 (sp_k15 (σ 8) K) 0 8 (nI nT)) 0 9 (nI nM)) 0 0 1) : jJ τ kd cl mt mc nT nM nW nR nF := by
  obtain ⟨hR, hL1, ⟨hI, io⟩, hS⟩ := h
  unfold jJ
  rw [t1, t2, t3, t4, t5, t6, t7, t8]
  refine ⟨hR, hL1, ⟨⟨rfl, .inr rfl, fun _ => ?_⟩, io.1, ho⟩, ?_⟩
  · exact ⟨nT, nM, σ 4, rfl, rfl, Nat.le_refl _, Nat.le_refl _, hL, hK⟩
  · exact hS
theorem o_image (h : jJ σ kd cl mt mc nT nM nW nR nF) : sl_Go xs N 74 0 [some (.inr (.inr (0, 0, 0)))] [] σ (jQ xs N 149 [some (.inr (.inr (40, 0, 0)))]) := by
  obtain ⟨a1, a2, a3, a4, ⟨t8, -⟩⟩ := h.2.1
  have l0 := h.live (k := 0) (by decide)
  have o1 := h.o1
  have o3 := h.2.2.1.2.2
  obtain ⟨hT, -, -, hM, -⟩ := h.sh
  have h8 := h.2.2.1.1.2.1
  unfold jQ
  simp (disch := omega) only [g74_0, g74_1, g74_4, g74_5, g74_8, sz_i4, sz_w4, sz_r4, sz_p4, sz_i5, sz_w5, sz_r5, sz_p5, sz_i6, sz_w6, sz_r6, sz_p6, sz_i7, sz_w7, sz_r7, sz_p7, sz_i8, sz_w8, sz_r8, sz_p8, sz_i9, sz_w9, sz_r9, sz_p9, sz_i10, sz_w10, sz_r10, sz_p10, sz_i14, sz_w14, sz_r14, sz_p14, sz_i15, sz_w15, sz_r15, sz_p15, sz_i18, sz_w18, sz_r18, sz_p18, sz_i19, sz_w19, sz_r19, sz_p19, sz_w21, sz_r21, sz_p21, sz_i23, sz_w23, sz_r23, sz_p23, sz_i24, sz_w24, sz_r24, sz_p24, sz_i25, sz_w25, sz_r25, sz_p25, sz_i28, sz_w28, sz_r28, sz_p28, sz_i31, sz_w31, sz_r31, sz_p31, sz_i41, sz_w41, sz_r41, sz_p41, sz_i42, sz_w42, sz_r42, sz_p42, sz_i43, sz_w43, sz_r43, sz_p43, sz_i44, sz_w44, sz_r44, sz_p44, sz_i45, sz_w45, sz_r45, sz_p45, sz_i46, sz_w46, sz_r46, sz_p46, sz_i47, sz_w47, sz_r47, sz_p47, sz_i48, sz_w48, sz_r48, sz_p48, sz_i49, sz_w49, sz_r49, sz_p49, sz_i50, sz_w50, sz_r50, sz_p50, sz_w51, sz_r51, sz_p51, sz_i52, sz_w52, sz_r52, sz_p52, sz_i53, sz_w53, sz_r53, sz_p53, sz_i54, sz_w54, sz_r54, sz_p54, sz_i55, sz_w55, sz_r55, sz_p55, sz_i56, sz_w56, sz_r56, sz_p56, sz_i57, sz_w57, sz_r57, sz_p57, sz_i58, sz_w58, sz_r58, sz_p58, sz_i59, sz_w59, sz_r59, sz_p59, sz_i60, sz_w60, sz_r60, sz_p60, sz_i61, sz_w61, sz_r61, sz_p61, sz_w62, sz_r62, sz_p62, sz_i63, sz_w63, sz_r63, sz_p63, sz_i64, sz_w64, sz_r64, sz_p64, sz_i65, sz_w65, sz_r65, sz_p65, sz_i66, sz_w66, sz_r66, sz_p66, sz_i67, sz_w67, sz_r67, sz_p67, sz_i68, sz_w68, sz_r68, sz_p68, sz_i69, sz_w69, sz_r69, sz_p69, sz_i70, sz_w70, sz_r70, sz_p70, sz_w71, sz_r71, sz_p71, sz_i72, sz_w72, sz_r72, sz_p72, sz_i73, sz_w73, sz_r73, sz_p73, sz_i74, sz_w74, sz_r74, sz_p74, sz_i75, sz_w75, sz_r75, sz_p75, sz_q2, sz_g2, sz_q3, sz_g3, sz_q12, sz_g12, sz_q16, sz_g16, sz_q26, sz_g26, sz_q29, sz_g29, sz_i90, sz_r90, sz_i91, sz_r91, sz_i92, sz_r92, sz_i93, sz_r93, sz_i94, sz_r94, sz_i95, sz_r95, sz_i99, sz_r99, sz_c0, sz_c1, sz_c2, sz_c3, Option.toList, List.cons_append, List.nil_append, sp_h100, sp_h2, sp_h24, sp_h10, sp_h10L, not_false_eq_true, not_true, true_and, and_true, true_implies, false_implies, nI_toInt, nI_clamp, sp_st_ne, sp_st_eq, sp_st_up, nI_1, sp_12]
  refine ⟨by decide, ?_⟩
  refine c_become (by decide) (by rw [l0]; exact t8) ?_
  intro C c1 c2 c3 c4 c5
  have hC : ∀ k, k < 8 → C k = σ 1 k := by
    intro k hk
    funext j
    by_cases e : sp_rg k j
    · exact c1 k j e
    · rw [c5 k j hk e, o3 k j hk e, o1 k j hk e]
  have hL := jL_C h.2.1 hC c2 c3
  have ho : jo C := by
    intro k j hk hn
    rw [c5 k j hk hn]
    exact o3 k j hk hn
  simp (disch := omega) only [g74_11, g74_12, g74_13, g74_16, g74_17, g74_20, g74_23, g149_0, g149_1, g149_4, sz_i4, sz_w4, sz_r4, sz_p4, sz_i5, sz_w5, sz_r5, sz_p5, sz_i6, sz_w6, sz_r6, sz_p6, sz_i7, sz_w7, sz_r7, sz_p7, sz_i8, sz_w8, sz_r8, sz_p8, sz_i9, sz_w9, sz_r9, sz_p9, sz_i10, sz_w10, sz_r10, sz_p10, sz_i14, sz_w14, sz_r14, sz_p14, sz_i15, sz_w15, sz_r15, sz_p15, sz_i18, sz_w18, sz_r18, sz_p18, sz_i19, sz_w19, sz_r19, sz_p19, sz_w21, sz_r21, sz_p21, sz_i23, sz_w23, sz_r23, sz_p23, sz_i24, sz_w24, sz_r24, sz_p24, sz_i25, sz_w25, sz_r25, sz_p25, sz_i28, sz_w28, sz_r28, sz_p28, sz_i31, sz_w31, sz_r31, sz_p31, sz_i41, sz_w41, sz_r41, sz_p41, sz_i42, sz_w42, sz_r42, sz_p42, sz_i43, sz_w43, sz_r43, sz_p43, sz_i44, sz_w44, sz_r44, sz_p44, sz_i45, sz_w45, sz_r45, sz_p45, sz_i46, sz_w46, sz_r46, sz_p46, sz_i47, sz_w47, sz_r47, sz_p47, sz_i48, sz_w48, sz_r48, sz_p48, sz_i49, sz_w49, sz_r49, sz_p49, sz_i50, sz_w50, sz_r50, sz_p50, sz_w51, sz_r51, sz_p51, sz_i52, sz_w52, sz_r52, sz_p52, sz_i53, sz_w53, sz_r53, sz_p53, sz_i54, sz_w54, sz_r54, sz_p54, sz_i55, sz_w55, sz_r55, sz_p55, sz_i56, sz_w56, sz_r56, sz_p56, sz_i57, sz_w57, sz_r57, sz_p57, sz_i58, sz_w58, sz_r58, sz_p58, sz_i59, sz_w59, sz_r59, sz_p59, sz_i60, sz_w60, sz_r60, sz_p60, sz_i61, sz_w61, sz_r61, sz_p61, sz_w62, sz_r62, sz_p62, sz_i63, sz_w63, sz_r63, sz_p63, sz_i64, sz_w64, sz_r64, sz_p64, sz_i65, sz_w65, sz_r65, sz_p65, sz_i66, sz_w66, sz_r66, sz_p66, sz_i67, sz_w67, sz_r67, sz_p67, sz_i68, sz_w68, sz_r68, sz_p68, sz_i69, sz_w69, sz_r69, sz_p69, sz_i70, sz_w70, sz_r70, sz_p70, sz_w71, sz_r71, sz_p71, sz_i72, sz_w72, sz_r72, sz_p72, sz_i73, sz_w73, sz_r73, sz_p73, sz_i74, sz_w74, sz_r74, sz_p74, sz_i75, sz_w75, sz_r75, sz_p75, sz_q2, sz_g2, sz_q3, sz_g3, sz_q12, sz_g12, sz_q16, sz_g16, sz_q26, sz_g26, sz_q29, sz_g29, sz_i90, sz_r90, sz_i91, sz_r91, sz_i92, sz_r92, sz_i93, sz_r93, sz_i94, sz_r94, sz_i95, sz_r95, sz_i99, sz_r99, sz_c0, sz_c1, sz_c2, sz_c3, Option.toList, List.cons_append, List.nil_append, sp_h100, sp_h2, sp_h24, sp_h10, sp_h10L, not_false_eq_true, not_true, true_and, and_true, true_implies, false_implies, nI_toInt, nI_clamp, sp_st_ne, sp_st_eq, sp_st_up, nI_1, sp_12, sp_up]
  repeat' (first | apply And.intro | (intro _))
  all_goals try first | contradiction | decide | omega
  refine m_keep (a := 170) (by decide) ?_
  intro K hK _
  simp (disch := omega) only [sp_st_ne, sp_st_eq] at hK ⊢
  simp (disch := omega) only [g149_7, g149_8, g149_9, g149_12, g149_15, g149_16, g149_17, g149_20, g149_23, g149_24, g149_25, g149_28, g149_29, g149_32, sz_i4, sz_w4, sz_r4, sz_p4, sz_i5, sz_w5, sz_r5, sz_p5, sz_i6, sz_w6, sz_r6, sz_p6, sz_i7, sz_w7, sz_r7, sz_p7, sz_i8, sz_w8, sz_r8, sz_p8, sz_i9, sz_w9, sz_r9, sz_p9, sz_i10, sz_w10, sz_r10, sz_p10, sz_i14, sz_w14, sz_r14, sz_p14, sz_i15, sz_w15, sz_r15, sz_p15, sz_i18, sz_w18, sz_r18, sz_p18, sz_i19, sz_w19, sz_r19, sz_p19, sz_w21, sz_r21, sz_p21, sz_i23, sz_w23, sz_r23, sz_p23, sz_i24, sz_w24, sz_r24, sz_p24, sz_i25, sz_w25, sz_r25, sz_p25, sz_i28, sz_w28, sz_r28, sz_p28, sz_i31, sz_w31, sz_r31, sz_p31, sz_i41, sz_w41, sz_r41, sz_p41, sz_i42, sz_w42, sz_r42, sz_p42, sz_i43, sz_w43, sz_r43, sz_p43, sz_i44, sz_w44, sz_r44, sz_p44, sz_i45, sz_w45, sz_r45, sz_p45, sz_i46, sz_w46, sz_r46, sz_p46, sz_i47, sz_w47, sz_r47, sz_p47, sz_i48, sz_w48, sz_r48, sz_p48, sz_i49, sz_w49, sz_r49, sz_p49, sz_i50, sz_w50, sz_r50, sz_p50, sz_w51, sz_r51, sz_p51, sz_i52, sz_w52, sz_r52, sz_p52, sz_i53, sz_w53, sz_r53, sz_p53, sz_i54, sz_w54, sz_r54, sz_p54, sz_i55, sz_w55, sz_r55, sz_p55, sz_i56, sz_w56, sz_r56, sz_p56, sz_i57, sz_w57, sz_r57, sz_p57, sz_i58, sz_w58, sz_r58, sz_p58, sz_i59, sz_w59, sz_r59, sz_p59, sz_i60, sz_w60, sz_r60, sz_p60, sz_i61, sz_w61, sz_r61, sz_p61, sz_w62, sz_r62, sz_p62, sz_i63, sz_w63, sz_r63, sz_p63, sz_i64, sz_w64, sz_r64, sz_p64, sz_i65, sz_w65, sz_r65, sz_p65, sz_i66, sz_w66, sz_r66, sz_p66, sz_i67, sz_w67, sz_r67, sz_p67, sz_i68, sz_w68, sz_r68, sz_p68, sz_i69, sz_w69, sz_r69, sz_p69, sz_i70, sz_w70, sz_r70, sz_p70, sz_w71, sz_r71, sz_p71, sz_i72, sz_w72, sz_r72, sz_p72, sz_i73, sz_w73, sz_r73, sz_p73, sz_i74, sz_w74, sz_r74, sz_p74, sz_i75, sz_w75, sz_r75, sz_p75, sz_q2, sz_g2, sz_q3, sz_g3, sz_q12, sz_g12, sz_q16, sz_g16, sz_q26, sz_g26, sz_q29, sz_g29, sz_i90, sz_r90, sz_i91, sz_r91, sz_i92, sz_r92, sz_i93, sz_r93, sz_i94, sz_r94, sz_i95, sz_r95, sz_i99, sz_r99, sz_c0, sz_c1, sz_c2, sz_c3, Option.toList, List.cons_append, List.nil_append, sp_h100, sp_h2, sp_h24, sp_h10, sp_h10L, not_false_eq_true, not_true, true_and, and_true, true_implies, false_implies, nI_toInt, nI_clamp, sp_st_ne, sp_st_eq, sp_st_up, nI_1, sp_12, hT, hM, sp_up, sp_st_st]
  repeat' (first | apply And.intro | (intro _))
  all_goals try first | contradiction | decide | omega
  refine j_end (congrFun l0 0) (h.image hL ho hK ?_ ?_ ?_ ?_ ?_ ?_ ?_ ?_).a
  all_goals first | rfl | (rw [sp_st_ne (by decide), sp_st_eq, sp_st_ne (by decide)]) | trace_state
/-- at the places that are kept it has the image -/
def jBk (Mi M0 : Nat → Nat → Int32) (kM i : Nat) (M : Nat → Nat → Int32) : Prop := (∀ k j, sp_rg k j ∨ (k = 9 ∧ j < 2) → ¬ (k = 7 ∧ kM ≤ j ∧ j < i) → M k j = Mi k j) ∧ (∀ j, kM ≤ j → j < i → M 7 j = -1) ∧ ∀ k j, ¬ (sp_rg k j ∨ (k = 9 ∧ j < 2)) → M k j = M0 k j
theorem jBk_u {Mi M0 M : Nat → Nat → Int32} {kM i k j : Nat} {v : Int32} (h : jBk Mi M0 kM i M) (hr : sp_rg k j) (h7 : ¬ k = 7) (hv : v = Mi k j) : jBk Mi M0 kM i (sl_u2 M k j v) := by
  obtain ⟨h1, h2, h3⟩ := h
  have f : ∀ k' j', ¬ (k' = k ∧ j' = j) → sl_u2 M k j v k' j' = M k' j' := by
    intro k' j' hn
    by_cases e : k' = k
    · subst e
      rw [sp_u2_eq, sp_u1_ne (fun x => hn ⟨rfl, x⟩)]
    · rw [sp_u2_ne e]
  refine ⟨?_, ?_, ?_⟩
  · intro k' j' hk hn
    by_cases e : k' = k ∧ j' = j
    · obtain ⟨e1, e2⟩ := e
      subst e1 e2
      rw [sp_u2_eq, sp_u1_eq, hv]
    · rw [f k' j' e]
      exact h1 k' j' hk hn
  · intro j' a b
    rw [f 7 j' (fun x => h7 x.1.symm)]
    exact h2 j' a b
  · intro k' j' hn
    rw [f k' j' (fun x => hn (.inl (by rw [x.1, x.2]; exact hr)))]
    exact h3 k' j' hn
theorem sp_rv0 {n i : Nat} (hn : 1 ≤ n) (hn2 : n ≤ 1000) (hi : i < 1000) : (0 : Int32) / nI n + sp_b (nI i < 0 - 0 / nI n * nI n) = 0 := by
  have e : (0 : Int32) / nI n = 0 := by
    refine sp_toi ?_
    rw [sp_dv (x := 0) (by decide) hn hn2]
    have : (0 : Int32).toInt = 0 := rfl
    rw [this]
    exact Int.zero_ediv _
  rw [e]
  have e2 : (0 : Int32) - 0 * nI n = 0 := by
    rw [Int32.zero_mul]
    rfl
  rw [e2, sp_bF (nI_nn hi)]
  rfl
theorem jBk_rest {Mi M0 M : Nat → Nat → Int32} {kT kM i t n : Nat} (hz : jZ Mi kT kM) (ht : kT ≤ t) (ht5 : t < 5) (hn : 1 ≤ n) (hn12 : n ≤ 12) (h : jBk Mi M0 kM i M) : ∀ c, c ≤ 12 → jBk Mi M0 kM i (sp_restI (nI n) 0 t M c)
  | 0, _ => h
  | c + 1, hc => by
    have ih := jBk_rest hz ht ht5 hn hn12 h c (by omega)
    obtain ⟨y1, y2⟩ := (hz.1 t ht ht5).1 c (by omega)
    rw [sp_restI, sp_rv0 hn (by omega) (by omega)]
    exact jBk_u (jBk_u ih (by unfold sp_rg; omega) (by decide) y1.symm) (by unfold sp_rg; omega) (by decide) y2.symm
theorem m_back (h : jJ σ kd cl mt mc nT nM nW nR nF) {kT kM : Nat} {Mi : Nat → Nat → Int32} {τ : sl_S} (t4 : τ 4 = σ 4) (t6 : τ 6 = σ 6) (t8 : τ 8 = σ 8) (b0 : σ 8 0 0 = 1) (b8 : σ 8 0 8 = nI kT) (b9 : σ 8 0 9 = nI kM) (hkT : kT ≤ nT) (hkM : kM ≤ nM) (hz : jZ Mi kT kM) (hK : jK (σ 8 15) 170 Mi) (hQ : ∀ M, jBk Mi (σ 4) kM nM M → Q (some (.inl (Mi 0 0))) (sp_st τ 4 M)) : sl_Go xs N 150 0 [some (.inr (.inr (40, 0, 0))), none] [] τ Q := by
  obtain ⟨hT, h5, hc, hM, hM6, -⟩ := h.sh
  have b0' : ¬ τ 8 0 0 = 0 := by rw [t8, b0]; decide
  have mouths : ∀ i, kM + i ≤ nM → ∀ M, jBk Mi (σ 4) kM (kM + i) M → sl_Go xs N 150 61 [some (.inr (.inr (40, 0, 0))), some (.inl (nI (kM + i)))] [] (sp_st τ 4 M) Q := by
    have : ∀ i, i ≤ nM - kM → ∀ M, jBk Mi (σ 4) kM (kM + i) M → sl_Go xs N 150 61 [some (.inr (.inr (40, 0, 0))), some (.inl (nI (kM + i)))] [] (sp_st τ 4 M) Q := by
      refine sp_down (P := fun i => ∀ M, jBk Mi (σ 4) kM (kM + i) M → sl_Go xs N 150 61 [some (.inr (.inr (40, 0, 0))), some (.inl (nI (kM + i)))] [] (sp_st τ 4 M) Q) (n := nM - kM) ?_ ?_
      · intro M hB
        rw [show kM + (nM - kM) = nM by omega] at hB ⊢
        have q := hQ M hB
        have e0 : M 0 0 = Mi 0 0 := hB.1 0 0 (.inl (by unfold sp_rg; omega)) (by omega)
        simp (disch := omega) only [g150_61, g150_62, g150_63, g150_66, g150_96, g150_97, g150_100, sz_i4, sz_w4, sz_r4, sz_p4, sz_i5, sz_w5, sz_r5, sz_p5, sz_i6, sz_w6, sz_r6, sz_p6, sz_i7, sz_w7, sz_r7, sz_p7, sz_i8, sz_w8, sz_r8, sz_p8, sz_i9, sz_w9, sz_r9, sz_p9, sz_i10, sz_w10, sz_r10, sz_p10, sz_i14, sz_w14, sz_r14, sz_p14, sz_i15, sz_w15, sz_r15, sz_p15, sz_i18, sz_w18, sz_r18, sz_p18, sz_i19, sz_w19, sz_r19, sz_p19, sz_w21, sz_r21, sz_p21, sz_i23, sz_w23, sz_r23, sz_p23, sz_i24, sz_w24, sz_r24, sz_p24, sz_i25, sz_w25, sz_r25, sz_p25, sz_i28, sz_w28, sz_r28, sz_p28, sz_i31, sz_w31, sz_r31, sz_p31, sz_i41, sz_w41, sz_r41, sz_p41, sz_i42, sz_w42, sz_r42, sz_p42, sz_i43, sz_w43, sz_r43, sz_p43, sz_i44, sz_w44, sz_r44, sz_p44, sz_i45, sz_w45, sz_r45, sz_p45, sz_i46, sz_w46, sz_r46, sz_p46, sz_i47, sz_w47, sz_r47, sz_p47, sz_i48, sz_w48, sz_r48, sz_p48, sz_i49, sz_w49, sz_r49, sz_p49, sz_i50, sz_w50, sz_r50, sz_p50, sz_w51, sz_r51, sz_p51, sz_i52, sz_w52, sz_r52, sz_p52, sz_i53, sz_w53, sz_r53, sz_p53, sz_i54, sz_w54, sz_r54, sz_p54, sz_i55, sz_w55, sz_r55, sz_p55, sz_i56, sz_w56, sz_r56, sz_p56, sz_i57, sz_w57, sz_r57, sz_p57, sz_i58, sz_w58, sz_r58, sz_p58, sz_i59, sz_w59, sz_r59, sz_p59, sz_i60, sz_w60, sz_r60, sz_p60, sz_i61, sz_w61, sz_r61, sz_p61, sz_w62, sz_r62, sz_p62, sz_i63, sz_w63, sz_r63, sz_p63, sz_i64, sz_w64, sz_r64, sz_p64, sz_i65, sz_w65, sz_r65, sz_p65, sz_i66, sz_w66, sz_r66, sz_p66, sz_i67, sz_w67, sz_r67, sz_p67, sz_i68, sz_w68, sz_r68, sz_p68, sz_i69, sz_w69, sz_r69, sz_p69, sz_i70, sz_w70, sz_r70, sz_p70, sz_w71, sz_r71, sz_p71, sz_i72, sz_w72, sz_r72, sz_p72, sz_i73, sz_w73, sz_r73, sz_p73, sz_i74, sz_w74, sz_r74, sz_p74, sz_i75, sz_w75, sz_r75, sz_p75, sz_q2, sz_g2, sz_q3, sz_g3, sz_q12, sz_g12, sz_q16, sz_g16, sz_q26, sz_g26, sz_q29, sz_g29, sz_i90, sz_r90, sz_i91, sz_r91, sz_i92, sz_r92, sz_i93, sz_r93, sz_i94, sz_r94, sz_i95, sz_r95, sz_i99, sz_r99, sz_c0, sz_c1, sz_c2, sz_c3, Option.toList, List.cons_append, List.nil_append, sp_h100, sp_h2, sp_h24, sp_h10, sp_h10L, not_false_eq_true, not_true, true_and, and_true, true_implies, false_implies, nI_toInt, nI_clamp, sp_st_ne, sp_st_eq, sp_st_up, nI_1, sp_12, t6, hM, nI_leI, e0]
        repeat' (first | apply And.intro | (intro _))
        all_goals first | omega | contradiction | exact q
      · intro i hi ih M hB
        have f6 : kM + i < 6 := by omega
        have s1 := jBk_u (v := 0) hB (k := 5) (j := kM + i) (by unfold sp_rg; omega) (by decide) (hz.2.1 (kM + i) (by omega) f6).1.symm
        have s2 := jBk_u (v := 0) s1 (k := 6) (j := kM + i) (by unfold sp_rg; omega) (by decide) (hz.2.1 (kM + i) (by omega) f6).2.1.symm
        have s3 : jBk Mi (σ 4) kM (kM + (i + 1)) (sl_u2 (sl_u2 (sl_u2 M 5 (kM + i) 0) 6 (kM + i) 0) 7 (kM + i) (-1)) := by
          obtain ⟨h1, h2, h3⟩ := s2
          have f : ∀ k' j', ¬ (k' = 7 ∧ j' = kM + i) → sl_u2 (sl_u2 (sl_u2 M 5 (kM + i) 0) 6 (kM + i) 0) 7 (kM + i) (-1) k' j' = (sl_u2 (sl_u2 M 5 (kM + i) 0) 6 (kM + i) 0) k' j' := by
            intro k' j' hn
            by_cases e : k' = 7
            · subst e
              rw [sp_u2_eq, sp_u1_ne (fun x => hn ⟨rfl, x⟩)]
            · rw [sp_u2_ne e]
          refine ⟨?_, ?_, ?_⟩
          · intro k' j' hk hn
            rw [f k' j' (fun x => hn (by omega))]
            exact h1 k' j' hk (fun x => hn (by omega))
          · intro j' a b
            by_cases e : j' = kM + i
            · rw [e, sp_u2_eq, sp_u1_eq]
            · rw [f 7 j' (fun x => e x.2)]
              exact h2 j' a (by omega)
          · intro k' j' hn
            rw [f k' j' (fun x => hn (.inl (by rw [x.1, x.2]; unfold sp_rg; omega)))]
            exact h3 k' j' hn
        have r1 := ih _ s3
        have ne : ¬ nM ≤ kM + i := by omega
        rw [g150_61]
        simp (disch := omega) only [g150_62, g150_63, g150_66, g150_69, g150_70, g150_73, g150_74, g150_75, g150_76, g150_77, g150_80, g150_81, g150_82, g150_83, g150_84, g150_87, g150_88, g150_89, g150_90n, g150_90i, g150_90r, g150_93, sz_i4, sz_w4, sz_r4, sz_p4, sz_i5, sz_w5, sz_r5, sz_p5, sz_i6, sz_w6, sz_r6, sz_p6, sz_i7, sz_w7, sz_r7, sz_p7, sz_i8, sz_w8, sz_r8, sz_p8, sz_i9, sz_w9, sz_r9, sz_p9, sz_i10, sz_w10, sz_r10, sz_p10, sz_i14, sz_w14, sz_r14, sz_p14, sz_i15, sz_w15, sz_r15, sz_p15, sz_i18, sz_w18, sz_r18, sz_p18, sz_i19, sz_w19, sz_r19, sz_p19, sz_w21, sz_r21, sz_p21, sz_i23, sz_w23, sz_r23, sz_p23, sz_i24, sz_w24, sz_r24, sz_p24, sz_i25, sz_w25, sz_r25, sz_p25, sz_i28, sz_w28, sz_r28, sz_p28, sz_i31, sz_w31, sz_r31, sz_p31, sz_i41, sz_w41, sz_r41, sz_p41, sz_i42, sz_w42, sz_r42, sz_p42, sz_i43, sz_w43, sz_r43, sz_p43, sz_i44, sz_w44, sz_r44, sz_p44, sz_i45, sz_w45, sz_r45, sz_p45, sz_i46, sz_w46, sz_r46, sz_p46, sz_i47, sz_w47, sz_r47, sz_p47, sz_i48, sz_w48, sz_r48, sz_p48, sz_i49, sz_w49, sz_r49, sz_p49, sz_i50, sz_w50, sz_r50, sz_p50, sz_w51, sz_r51, sz_p51, sz_i52, sz_w52, sz_r52, sz_p52, sz_i53, sz_w53, sz_r53, sz_p53, sz_i54, sz_w54, sz_r54, sz_p54, sz_i55, sz_w55, sz_r55, sz_p55, sz_i56, sz_w56, sz_r56, sz_p56, sz_i57, sz_w57, sz_r57, sz_p57, sz_i58, sz_w58, sz_r58, sz_p58, sz_i59, sz_w59, sz_r59, sz_p59, sz_i60, sz_w60, sz_r60, sz_p60, sz_i61, sz_w61, sz_r61, sz_p61, sz_w62, sz_r62, sz_p62, sz_i63, sz_w63, sz_r63, sz_p63, sz_i64, sz_w64, sz_r64, sz_p64, sz_i65, sz_w65, sz_r65, sz_p65, sz_i66, sz_w66, sz_r66, sz_p66, sz_i67, sz_w67, sz_r67, sz_p67, sz_i68, sz_w68, sz_r68, sz_p68, sz_i69, sz_w69, sz_r69, sz_p69, sz_i70, sz_w70, sz_r70, sz_p70, sz_w71, sz_r71, sz_p71, sz_i72, sz_w72, sz_r72, sz_p72, sz_i73, sz_w73, sz_r73, sz_p73, sz_i74, sz_w74, sz_r74, sz_p74, sz_i75, sz_w75, sz_r75, sz_p75, sz_q2, sz_g2, sz_q3, sz_g3, sz_q12, sz_g12, sz_q16, sz_g16, sz_q26, sz_g26, sz_q29, sz_g29, sz_i90, sz_r90, sz_i91, sz_r91, sz_i92, sz_r92, sz_i93, sz_r93, sz_i94, sz_r94, sz_i95, sz_r95, sz_i99, sz_r99, sz_c0, sz_c1, sz_c2, sz_c3, Option.toList, List.cons_append, List.nil_append, sp_h100, sp_h2, sp_h24, sp_h10, sp_h10L, not_false_eq_true, not_true, true_and, and_true, true_implies, false_implies, nI_toInt, nI_clamp, sp_st_ne, sp_st_eq, sp_st_up, nI_1, sp_12, t6, hM, nI_leI, ne]
        repeat' (first | apply And.intro | (intro _))
        all_goals first | omega | contradiction | exact r1
    intro i hi
    exact this i (by omega)
  have tanks : ∀ i, kT + i ≤ nT → ∀ M, jBk Mi (σ 4) kM kM M → sl_Go xs N 150 22 [some (.inr (.inr (40, 0, 0))), some (.inl (nI (kT + i)))] [] (sp_st τ 4 M) Q := by
    have : ∀ i, i ≤ nT - kT → ∀ M, jBk Mi (σ 4) kM kM M → sl_Go xs N 150 22 [some (.inr (.inr (40, 0, 0))), some (.inl (nI (kT + i)))] [] (sp_st τ 4 M) Q := by
      refine sp_down (P := fun i => ∀ M, jBk Mi (σ 4) kM kM M → sl_Go xs N 150 22 [some (.inr (.inr (40, 0, 0))), some (.inl (nI (kT + i)))] [] (sp_st τ 4 M) Q) (n := nT - kT) ?_ ?_
      · intro M hB
        rw [show kT + (nT - kT) = nT by omega]
        have q := mouths 0 (by omega) M hB
        rw [Nat.add_zero] at q
        simp (disch := omega) only [g150_22, g150_23, g150_24, g150_27, g150_56, g150_57, g150_60n, g150_60i, g150_60r, sz_i4, sz_w4, sz_r4, sz_p4, sz_i5, sz_w5, sz_r5, sz_p5, sz_i6, sz_w6, sz_r6, sz_p6, sz_i7, sz_w7, sz_r7, sz_p7, sz_i8, sz_w8, sz_r8, sz_p8, sz_i9, sz_w9, sz_r9, sz_p9, sz_i10, sz_w10, sz_r10, sz_p10, sz_i14, sz_w14, sz_r14, sz_p14, sz_i15, sz_w15, sz_r15, sz_p15, sz_i18, sz_w18, sz_r18, sz_p18, sz_i19, sz_w19, sz_r19, sz_p19, sz_w21, sz_r21, sz_p21, sz_i23, sz_w23, sz_r23, sz_p23, sz_i24, sz_w24, sz_r24, sz_p24, sz_i25, sz_w25, sz_r25, sz_p25, sz_i28, sz_w28, sz_r28, sz_p28, sz_i31, sz_w31, sz_r31, sz_p31, sz_i41, sz_w41, sz_r41, sz_p41, sz_i42, sz_w42, sz_r42, sz_p42, sz_i43, sz_w43, sz_r43, sz_p43, sz_i44, sz_w44, sz_r44, sz_p44, sz_i45, sz_w45, sz_r45, sz_p45, sz_i46, sz_w46, sz_r46, sz_p46, sz_i47, sz_w47, sz_r47, sz_p47, sz_i48, sz_w48, sz_r48, sz_p48, sz_i49, sz_w49, sz_r49, sz_p49, sz_i50, sz_w50, sz_r50, sz_p50, sz_w51, sz_r51, sz_p51, sz_i52, sz_w52, sz_r52, sz_p52, sz_i53, sz_w53, sz_r53, sz_p53, sz_i54, sz_w54, sz_r54, sz_p54, sz_i55, sz_w55, sz_r55, sz_p55, sz_i56, sz_w56, sz_r56, sz_p56, sz_i57, sz_w57, sz_r57, sz_p57, sz_i58, sz_w58, sz_r58, sz_p58, sz_i59, sz_w59, sz_r59, sz_p59, sz_i60, sz_w60, sz_r60, sz_p60, sz_i61, sz_w61, sz_r61, sz_p61, sz_w62, sz_r62, sz_p62, sz_i63, sz_w63, sz_r63, sz_p63, sz_i64, sz_w64, sz_r64, sz_p64, sz_i65, sz_w65, sz_r65, sz_p65, sz_i66, sz_w66, sz_r66, sz_p66, sz_i67, sz_w67, sz_r67, sz_p67, sz_i68, sz_w68, sz_r68, sz_p68, sz_i69, sz_w69, sz_r69, sz_p69, sz_i70, sz_w70, sz_r70, sz_p70, sz_w71, sz_r71, sz_p71, sz_i72, sz_w72, sz_r72, sz_p72, sz_i73, sz_w73, sz_r73, sz_p73, sz_i74, sz_w74, sz_r74, sz_p74, sz_i75, sz_w75, sz_r75, sz_p75, sz_q2, sz_g2, sz_q3, sz_g3, sz_q12, sz_g12, sz_q16, sz_g16, sz_q26, sz_g26, sz_q29, sz_g29, sz_i90, sz_r90, sz_i91, sz_r91, sz_i92, sz_r92, sz_i93, sz_r93, sz_i94, sz_r94, sz_i95, sz_r95, sz_i99, sz_r99, sz_c0, sz_c1, sz_c2, sz_c3, Option.toList, List.cons_append, List.nil_append, sp_h100, sp_h2, sp_h24, sp_h10, sp_h10L, not_false_eq_true, not_true, true_and, and_true, true_implies, false_implies, nI_toInt, nI_clamp, sp_st_ne, sp_st_eq, sp_st_up, nI_1, sp_12, t6, hT, nI_leI, t8, b9]
        repeat' (first | apply And.intro | (intro _))
        all_goals first | omega | contradiction | exact q
      · intro i hi ih M hB
        have t5 : kT + i < 5 := by omega
        obtain ⟨c1, c2, c3⟩ := hc (kT + i) (by omega)
        obtain ⟨y1, y2, y3⟩ := hz.1 (kT + i) (by omega) t5
        have s0 := jBk_rest (n := cl (kT + i)) hz (show kT ≤ kT + i by omega) t5 (by omega) c3 hB (cl (kT + i)) c3
        have s1 := jBk_u (v := 0) s0 (k := 3) (j := kT + i) (by unfold sp_rg; omega) (by decide) y2.symm
        have s2 := jBk_u (v := 0) s1 (k := 4) (j := kT + i) (by unfold sp_rg; omega) (by decide) y3.symm
        have r1 := ih _ s2
        have ne : ¬ nT ≤ kT + i := by omega
        rw [g150_22]
        simp (disch := omega) only [g150_23, g150_24, g150_27, g150_30, g150_31, g150_32, g150_33, sz_i4, sz_w4, sz_r4, sz_p4, sz_i5, sz_w5, sz_r5, sz_p5, sz_i6, sz_w6, sz_r6, sz_p6, sz_i7, sz_w7, sz_r7, sz_p7, sz_i8, sz_w8, sz_r8, sz_p8, sz_i9, sz_w9, sz_r9, sz_p9, sz_i10, sz_w10, sz_r10, sz_p10, sz_i14, sz_w14, sz_r14, sz_p14, sz_i15, sz_w15, sz_r15, sz_p15, sz_i18, sz_w18, sz_r18, sz_p18, sz_i19, sz_w19, sz_r19, sz_p19, sz_w21, sz_r21, sz_p21, sz_i23, sz_w23, sz_r23, sz_p23, sz_i24, sz_w24, sz_r24, sz_p24, sz_i25, sz_w25, sz_r25, sz_p25, sz_i28, sz_w28, sz_r28, sz_p28, sz_i31, sz_w31, sz_r31, sz_p31, sz_i41, sz_w41, sz_r41, sz_p41, sz_i42, sz_w42, sz_r42, sz_p42, sz_i43, sz_w43, sz_r43, sz_p43, sz_i44, sz_w44, sz_r44, sz_p44, sz_i45, sz_w45, sz_r45, sz_p45, sz_i46, sz_w46, sz_r46, sz_p46, sz_i47, sz_w47, sz_r47, sz_p47, sz_i48, sz_w48, sz_r48, sz_p48, sz_i49, sz_w49, sz_r49, sz_p49, sz_i50, sz_w50, sz_r50, sz_p50, sz_w51, sz_r51, sz_p51, sz_i52, sz_w52, sz_r52, sz_p52, sz_i53, sz_w53, sz_r53, sz_p53, sz_i54, sz_w54, sz_r54, sz_p54, sz_i55, sz_w55, sz_r55, sz_p55, sz_i56, sz_w56, sz_r56, sz_p56, sz_i57, sz_w57, sz_r57, sz_p57, sz_i58, sz_w58, sz_r58, sz_p58, sz_i59, sz_w59, sz_r59, sz_p59, sz_i60, sz_w60, sz_r60, sz_p60, sz_i61, sz_w61, sz_r61, sz_p61, sz_w62, sz_r62, sz_p62, sz_i63, sz_w63, sz_r63, sz_p63, sz_i64, sz_w64, sz_r64, sz_p64, sz_i65, sz_w65, sz_r65, sz_p65, sz_i66, sz_w66, sz_r66, sz_p66, sz_i67, sz_w67, sz_r67, sz_p67, sz_i68, sz_w68, sz_r68, sz_p68, sz_i69, sz_w69, sz_r69, sz_p69, sz_i70, sz_w70, sz_r70, sz_p70, sz_w71, sz_r71, sz_p71, sz_i72, sz_w72, sz_r72, sz_p72, sz_i73, sz_w73, sz_r73, sz_p73, sz_i74, sz_w74, sz_r74, sz_p74, sz_i75, sz_w75, sz_r75, sz_p75, sz_q2, sz_g2, sz_q3, sz_g3, sz_q12, sz_g12, sz_q16, sz_g16, sz_q26, sz_g26, sz_q29, sz_g29, sz_i90, sz_r90, sz_i91, sz_r91, sz_i92, sz_r92, sz_i93, sz_r93, sz_i94, sz_r94, sz_i95, sz_r95, sz_i99, sz_r99, sz_c0, sz_c1, sz_c2, sz_c3, Option.toList, List.cons_append, List.nil_append, sp_h100, sp_h2, sp_h24, sp_h10, sp_h10L, not_false_eq_true, not_true, true_and, and_true, true_implies, false_implies, nI_toInt, nI_clamp, sp_st_ne, sp_st_eq, sp_st_up, nI_1, sp_12, t6, hT, nI_leI, ne]
        repeat' (first | apply And.intro | (intro _))
        all_goals try first | omega | contradiction | decide
        refine m_rest t5 (by omega) c3 (by rw [sp_st_ne (by decide), t6]; exact c1) ?_
        simp (disch := omega) only [g150_36, g150_37, g150_40, g150_41, g150_42, g150_43, g150_44, g150_47, g150_48, g150_49, g150_50n, g150_50i, g150_50r, g150_53, sz_i4, sz_w4, sz_r4, sz_p4, sz_i5, sz_w5, sz_r5, sz_p5, sz_i6, sz_w6, sz_r6, sz_p6, sz_i7, sz_w7, sz_r7, sz_p7, sz_i8, sz_w8, sz_r8, sz_p8, sz_i9, sz_w9, sz_r9, sz_p9, sz_i10, sz_w10, sz_r10, sz_p10, sz_i14, sz_w14, sz_r14, sz_p14, sz_i15, sz_w15, sz_r15, sz_p15, sz_i18, sz_w18, sz_r18, sz_p18, sz_i19, sz_w19, sz_r19, sz_p19, sz_w21, sz_r21, sz_p21, sz_i23, sz_w23, sz_r23, sz_p23, sz_i24, sz_w24, sz_r24, sz_p24, sz_i25, sz_w25, sz_r25, sz_p25, sz_i28, sz_w28, sz_r28, sz_p28, sz_i31, sz_w31, sz_r31, sz_p31, sz_i41, sz_w41, sz_r41, sz_p41, sz_i42, sz_w42, sz_r42, sz_p42, sz_i43, sz_w43, sz_r43, sz_p43, sz_i44, sz_w44, sz_r44, sz_p44, sz_i45, sz_w45, sz_r45, sz_p45, sz_i46, sz_w46, sz_r46, sz_p46, sz_i47, sz_w47, sz_r47, sz_p47, sz_i48, sz_w48, sz_r48, sz_p48, sz_i49, sz_w49, sz_r49, sz_p49, sz_i50, sz_w50, sz_r50, sz_p50, sz_w51, sz_r51, sz_p51, sz_i52, sz_w52, sz_r52, sz_p52, sz_i53, sz_w53, sz_r53, sz_p53, sz_i54, sz_w54, sz_r54, sz_p54, sz_i55, sz_w55, sz_r55, sz_p55, sz_i56, sz_w56, sz_r56, sz_p56, sz_i57, sz_w57, sz_r57, sz_p57, sz_i58, sz_w58, sz_r58, sz_p58, sz_i59, sz_w59, sz_r59, sz_p59, sz_i60, sz_w60, sz_r60, sz_p60, sz_i61, sz_w61, sz_r61, sz_p61, sz_w62, sz_r62, sz_p62, sz_i63, sz_w63, sz_r63, sz_p63, sz_i64, sz_w64, sz_r64, sz_p64, sz_i65, sz_w65, sz_r65, sz_p65, sz_i66, sz_w66, sz_r66, sz_p66, sz_i67, sz_w67, sz_r67, sz_p67, sz_i68, sz_w68, sz_r68, sz_p68, sz_i69, sz_w69, sz_r69, sz_p69, sz_i70, sz_w70, sz_r70, sz_p70, sz_w71, sz_r71, sz_p71, sz_i72, sz_w72, sz_r72, sz_p72, sz_i73, sz_w73, sz_r73, sz_p73, sz_i74, sz_w74, sz_r74, sz_p74, sz_i75, sz_w75, sz_r75, sz_p75, sz_q2, sz_g2, sz_q3, sz_g3, sz_q12, sz_g12, sz_q16, sz_g16, sz_q26, sz_g26, sz_q29, sz_g29, sz_i90, sz_r90, sz_i91, sz_r91, sz_i92, sz_r92, sz_i93, sz_r93, sz_i94, sz_r94, sz_i95, sz_r95, sz_i99, sz_r99, sz_c0, sz_c1, sz_c2, sz_c3, Option.toList, List.cons_append, List.nil_append, sp_h100, sp_h2, sp_h24, sp_h10, sp_h10L, not_false_eq_true, not_true, true_and, and_true, true_implies, false_implies, nI_toInt, nI_clamp, sp_st_ne, sp_st_eq, sp_st_up, nI_1, sp_12, sp_st_st, sp_st_eq]
        rw [← Nat.add_assoc] at r1
        repeat' (first | apply And.intro | (intro _))
        all_goals first | omega | contradiction | exact r1
    intro i hi
    exact this i (by omega)
  simp (disch := omega) only [g150_0, g150_1, g150_4, g150_7, g150_9, g150_10, g150_11, g150_14, sz_i4, sz_w4, sz_r4, sz_p4, sz_i5, sz_w5, sz_r5, sz_p5, sz_i6, sz_w6, sz_r6, sz_p6, sz_i7, sz_w7, sz_r7, sz_p7, sz_i8, sz_w8, sz_r8, sz_p8, sz_i9, sz_w9, sz_r9, sz_p9, sz_i10, sz_w10, sz_r10, sz_p10, sz_i14, sz_w14, sz_r14, sz_p14, sz_i15, sz_w15, sz_r15, sz_p15, sz_i18, sz_w18, sz_r18, sz_p18, sz_i19, sz_w19, sz_r19, sz_p19, sz_w21, sz_r21, sz_p21, sz_i23, sz_w23, sz_r23, sz_p23, sz_i24, sz_w24, sz_r24, sz_p24, sz_i25, sz_w25, sz_r25, sz_p25, sz_i28, sz_w28, sz_r28, sz_p28, sz_i31, sz_w31, sz_r31, sz_p31, sz_i41, sz_w41, sz_r41, sz_p41, sz_i42, sz_w42, sz_r42, sz_p42, sz_i43, sz_w43, sz_r43, sz_p43, sz_i44, sz_w44, sz_r44, sz_p44, sz_i45, sz_w45, sz_r45, sz_p45, sz_i46, sz_w46, sz_r46, sz_p46, sz_i47, sz_w47, sz_r47, sz_p47, sz_i48, sz_w48, sz_r48, sz_p48, sz_i49, sz_w49, sz_r49, sz_p49, sz_i50, sz_w50, sz_r50, sz_p50, sz_w51, sz_r51, sz_p51, sz_i52, sz_w52, sz_r52, sz_p52, sz_i53, sz_w53, sz_r53, sz_p53, sz_i54, sz_w54, sz_r54, sz_p54, sz_i55, sz_w55, sz_r55, sz_p55, sz_i56, sz_w56, sz_r56, sz_p56, sz_i57, sz_w57, sz_r57, sz_p57, sz_i58, sz_w58, sz_r58, sz_p58, sz_i59, sz_w59, sz_r59, sz_p59, sz_i60, sz_w60, sz_r60, sz_p60, sz_i61, sz_w61, sz_r61, sz_p61, sz_w62, sz_r62, sz_p62, sz_i63, sz_w63, sz_r63, sz_p63, sz_i64, sz_w64, sz_r64, sz_p64, sz_i65, sz_w65, sz_r65, sz_p65, sz_i66, sz_w66, sz_r66, sz_p66, sz_i67, sz_w67, sz_r67, sz_p67, sz_i68, sz_w68, sz_r68, sz_p68, sz_i69, sz_w69, sz_r69, sz_p69, sz_i70, sz_w70, sz_r70, sz_p70, sz_w71, sz_r71, sz_p71, sz_i72, sz_w72, sz_r72, sz_p72, sz_i73, sz_w73, sz_r73, sz_p73, sz_i74, sz_w74, sz_r74, sz_p74, sz_i75, sz_w75, sz_r75, sz_p75, sz_q2, sz_g2, sz_q3, sz_g3, sz_q12, sz_g12, sz_q16, sz_g16, sz_q26, sz_g26, sz_q29, sz_g29, sz_i90, sz_r90, sz_i91, sz_r91, sz_i92, sz_r92, sz_i93, sz_r93, sz_i94, sz_r94, sz_i95, sz_r95, sz_i99, sz_r99, sz_c0, sz_c1, sz_c2, sz_c3, Option.toList, List.cons_append, List.nil_append, sp_h100, sp_h2, sp_h24, sp_h10, sp_h10L, not_false_eq_true, not_true, true_and, and_true, true_implies, false_implies, nI_toInt, nI_clamp, sp_st_ne, sp_st_eq, sp_st_up, nI_1, sp_12, b0']
  repeat' (first | apply And.intro | (intro _))
  all_goals try first | contradiction | decide | omega
  all_goals
    refine m_putBack (a := 170) (by decide) (by rw [t8]; exact hK) ?_
    intro M m1 m2
    have q := tanks 0 (by omega) M ⟨fun k j hk _ => m1 k j hk, fun j a b => by omega, fun k j hn => by rw [m2 k j hn, t4]⟩
    rw [Nat.add_zero] at q
    simp (disch := omega) only [g150_17, g150_18, g150_21n, g150_21i, g150_21r, sz_i4, sz_w4, sz_r4, sz_p4, sz_i5, sz_w5, sz_r5, sz_p5, sz_i6, sz_w6, sz_r6, sz_p6, sz_i7, sz_w7, sz_r7, sz_p7, sz_i8, sz_w8, sz_r8, sz_p8, sz_i9, sz_w9, sz_r9, sz_p9, sz_i10, sz_w10, sz_r10, sz_p10, sz_i14, sz_w14, sz_r14, sz_p14, sz_i15, sz_w15, sz_r15, sz_p15, sz_i18, sz_w18, sz_r18, sz_p18, sz_i19, sz_w19, sz_r19, sz_p19, sz_w21, sz_r21, sz_p21, sz_i23, sz_w23, sz_r23, sz_p23, sz_i24, sz_w24, sz_r24, sz_p24, sz_i25, sz_w25, sz_r25, sz_p25, sz_i28, sz_w28, sz_r28, sz_p28, sz_i31, sz_w31, sz_r31, sz_p31, sz_i41, sz_w41, sz_r41, sz_p41, sz_i42, sz_w42, sz_r42, sz_p42, sz_i43, sz_w43, sz_r43, sz_p43, sz_i44, sz_w44, sz_r44, sz_p44, sz_i45, sz_w45, sz_r45, sz_p45, sz_i46, sz_w46, sz_r46, sz_p46, sz_i47, sz_w47, sz_r47, sz_p47, sz_i48, sz_w48, sz_r48, sz_p48, sz_i49, sz_w49, sz_r49, sz_p49, sz_i50, sz_w50, sz_r50, sz_p50, sz_w51, sz_r51, sz_p51, sz_i52, sz_w52, sz_r52, sz_p52, sz_i53, sz_w53, sz_r53, sz_p53, sz_i54, sz_w54, sz_r54, sz_p54, sz_i55, sz_w55, sz_r55, sz_p55, sz_i56, sz_w56, sz_r56, sz_p56, sz_i57, sz_w57, sz_r57, sz_p57, sz_i58, sz_w58, sz_r58, sz_p58, sz_i59, sz_w59, sz_r59, sz_p59, sz_i60, sz_w60, sz_r60, sz_p60, sz_i61, sz_w61, sz_r61, sz_p61, sz_w62, sz_r62, sz_p62, sz_i63, sz_w63, sz_r63, sz_p63, sz_i64, sz_w64, sz_r64, sz_p64, sz_i65, sz_w65, sz_r65, sz_p65, sz_i66, sz_w66, sz_r66, sz_p66, sz_i67, sz_w67, sz_r67, sz_p67, sz_i68, sz_w68, sz_r68, sz_p68, sz_i69, sz_w69, sz_r69, sz_p69, sz_i70, sz_w70, sz_r70, sz_p70, sz_w71, sz_r71, sz_p71, sz_i72, sz_w72, sz_r72, sz_p72, sz_i73, sz_w73, sz_r73, sz_p73, sz_i74, sz_w74, sz_r74, sz_p74, sz_i75, sz_w75, sz_r75, sz_p75, sz_q2, sz_g2, sz_q3, sz_g3, sz_q12, sz_g12, sz_q16, sz_g16, sz_q26, sz_g26, sz_q29, sz_g29, sz_i90, sz_r90, sz_i91, sz_r91, sz_i92, sz_r92, sz_i93, sz_r93, sz_i94, sz_r94, sz_i95, sz_r95, sz_i99, sz_r99, sz_c0, sz_c1, sz_c2, sz_c3, Option.toList, List.cons_append, List.nil_append, sp_h100, sp_h2, sp_h24, sp_h10, sp_h10L, not_false_eq_true, not_true, true_and, and_true, true_implies, false_implies, nI_toInt, nI_clamp, sp_st_ne, sp_st_eq, sp_st_up, nI_1, sp_12, t8, b8]
    exact q
theorem o_back (h : jJ σ kd cl mt mc nT nM nW nR nF) : sl_Go xs N 75 0 [some (.inr (.inr (0, 0, 0)))] [] σ (jQ xs N 150 [some (.inr (.inr (40, 0, 0))), none]) := by
  have hA := h.a
  have hA0 := h.2.2.1.1.1
  have o1 := h.o1
  have z4 := h.2.1.2.2.2.1.2.2
  have h5 := h.sh.2.1
  have h6 := h.sh.2.2.2.2.1
  have hcl := h.sh.2.2.1
  unfold jQ
  rcases h.2.2.1.1.2.1 with e | e
  · simp (disch := omega) only [g75_0, g75_1, g75_4, g75_7, g75_9, g75_10, g75_11, g75_14, g75_15, g75_18, g75_21, g75_22, g75_25, g75_28, g150_0, g150_1, g150_4, g150_7, g150_9, sz_i4, sz_w4, sz_r4, sz_p4, sz_i5, sz_w5, sz_r5, sz_p5, sz_i6, sz_w6, sz_r6, sz_p6, sz_i7, sz_w7, sz_r7, sz_p7, sz_i8, sz_w8, sz_r8, sz_p8, sz_i9, sz_w9, sz_r9, sz_p9, sz_i10, sz_w10, sz_r10, sz_p10, sz_i14, sz_w14, sz_r14, sz_p14, sz_i15, sz_w15, sz_r15, sz_p15, sz_i18, sz_w18, sz_r18, sz_p18, sz_i19, sz_w19, sz_r19, sz_p19, sz_w21, sz_r21, sz_p21, sz_i23, sz_w23, sz_r23, sz_p23, sz_i24, sz_w24, sz_r24, sz_p24, sz_i25, sz_w25, sz_r25, sz_p25, sz_i28, sz_w28, sz_r28, sz_p28, sz_i31, sz_w31, sz_r31, sz_p31, sz_i41, sz_w41, sz_r41, sz_p41, sz_i42, sz_w42, sz_r42, sz_p42, sz_i43, sz_w43, sz_r43, sz_p43, sz_i44, sz_w44, sz_r44, sz_p44, sz_i45, sz_w45, sz_r45, sz_p45, sz_i46, sz_w46, sz_r46, sz_p46, sz_i47, sz_w47, sz_r47, sz_p47, sz_i48, sz_w48, sz_r48, sz_p48, sz_i49, sz_w49, sz_r49, sz_p49, sz_i50, sz_w50, sz_r50, sz_p50, sz_w51, sz_r51, sz_p51, sz_i52, sz_w52, sz_r52, sz_p52, sz_i53, sz_w53, sz_r53, sz_p53, sz_i54, sz_w54, sz_r54, sz_p54, sz_i55, sz_w55, sz_r55, sz_p55, sz_i56, sz_w56, sz_r56, sz_p56, sz_i57, sz_w57, sz_r57, sz_p57, sz_i58, sz_w58, sz_r58, sz_p58, sz_i59, sz_w59, sz_r59, sz_p59, sz_i60, sz_w60, sz_r60, sz_p60, sz_i61, sz_w61, sz_r61, sz_p61, sz_w62, sz_r62, sz_p62, sz_i63, sz_w63, sz_r63, sz_p63, sz_i64, sz_w64, sz_r64, sz_p64, sz_i65, sz_w65, sz_r65, sz_p65, sz_i66, sz_w66, sz_r66, sz_p66, sz_i67, sz_w67, sz_r67, sz_p67, sz_i68, sz_w68, sz_r68, sz_p68, sz_i69, sz_w69, sz_r69, sz_p69, sz_i70, sz_w70, sz_r70, sz_p70, sz_w71, sz_r71, sz_p71, sz_i72, sz_w72, sz_r72, sz_p72, sz_i73, sz_w73, sz_r73, sz_p73, sz_i74, sz_w74, sz_r74, sz_p74, sz_i75, sz_w75, sz_r75, sz_p75, sz_q2, sz_g2, sz_q3, sz_g3, sz_q12, sz_g12, sz_q16, sz_g16, sz_q26, sz_g26, sz_q29, sz_g29, sz_i90, sz_r90, sz_i91, sz_r91, sz_i92, sz_r92, sz_i93, sz_r93, sz_i94, sz_r94, sz_i95, sz_r95, sz_i99, sz_r99, sz_c0, sz_c1, sz_c2, sz_c3, Option.toList, List.cons_append, List.nil_append, sp_h100, sp_h2, sp_h24, sp_h10, sp_h10L, not_false_eq_true, not_true, true_and, and_true, true_implies, false_implies, nI_toInt, nI_clamp, sp_st_ne, sp_st_eq, sp_st_up, nI_1, sp_12, hA0, e]
    repeat' (first | apply And.intro | (intro _))
    all_goals first | contradiction | exact j_end rfl hA | decide | omega
  · obtain ⟨kT, kM, Mi, b8, b9, hkT, hkM, ⟨a1, a2, ⟨i1, i2, i3, i4, i5, i6⟩, hz, a5⟩, hK⟩ := h.2.2.1.1.2.2 e
    have q3 : ∀ k, k < 8 → σ 3 k = jg Mi kM k := by
      intro k hk
      have := congrFun a1 k
      rw [sp_mx_lt hk] at this
      exact this
    simp (disch := omega) only [g75_0, g75_1, g75_4, g75_7, g75_9, g75_10, g75_11, g75_14, g75_15, g75_18, sz_i4, sz_w4, sz_r4, sz_p4, sz_i5, sz_w5, sz_r5, sz_p5, sz_i6, sz_w6, sz_r6, sz_p6, sz_i7, sz_w7, sz_r7, sz_p7, sz_i8, sz_w8, sz_r8, sz_p8, sz_i9, sz_w9, sz_r9, sz_p9, sz_i10, sz_w10, sz_r10, sz_p10, sz_i14, sz_w14, sz_r14, sz_p14, sz_i15, sz_w15, sz_r15, sz_p15, sz_i18, sz_w18, sz_r18, sz_p18, sz_i19, sz_w19, sz_r19, sz_p19, sz_w21, sz_r21, sz_p21, sz_i23, sz_w23, sz_r23, sz_p23, sz_i24, sz_w24, sz_r24, sz_p24, sz_i25, sz_w25, sz_r25, sz_p25, sz_i28, sz_w28, sz_r28, sz_p28, sz_i31, sz_w31, sz_r31, sz_p31, sz_i41, sz_w41, sz_r41, sz_p41, sz_i42, sz_w42, sz_r42, sz_p42, sz_i43, sz_w43, sz_r43, sz_p43, sz_i44, sz_w44, sz_r44, sz_p44, sz_i45, sz_w45, sz_r45, sz_p45, sz_i46, sz_w46, sz_r46, sz_p46, sz_i47, sz_w47, sz_r47, sz_p47, sz_i48, sz_w48, sz_r48, sz_p48, sz_i49, sz_w49, sz_r49, sz_p49, sz_i50, sz_w50, sz_r50, sz_p50, sz_w51, sz_r51, sz_p51, sz_i52, sz_w52, sz_r52, sz_p52, sz_i53, sz_w53, sz_r53, sz_p53, sz_i54, sz_w54, sz_r54, sz_p54, sz_i55, sz_w55, sz_r55, sz_p55, sz_i56, sz_w56, sz_r56, sz_p56, sz_i57, sz_w57, sz_r57, sz_p57, sz_i58, sz_w58, sz_r58, sz_p58, sz_i59, sz_w59, sz_r59, sz_p59, sz_i60, sz_w60, sz_r60, sz_p60, sz_i61, sz_w61, sz_r61, sz_p61, sz_w62, sz_r62, sz_p62, sz_i63, sz_w63, sz_r63, sz_p63, sz_i64, sz_w64, sz_r64, sz_p64, sz_i65, sz_w65, sz_r65, sz_p65, sz_i66, sz_w66, sz_r66, sz_p66, sz_i67, sz_w67, sz_r67, sz_p67, sz_i68, sz_w68, sz_r68, sz_p68, sz_i69, sz_w69, sz_r69, sz_p69, sz_i70, sz_w70, sz_r70, sz_p70, sz_w71, sz_r71, sz_p71, sz_i72, sz_w72, sz_r72, sz_p72, sz_i73, sz_w73, sz_r73, sz_p73, sz_i74, sz_w74, sz_r74, sz_p74, sz_i75, sz_w75, sz_r75, sz_p75, sz_q2, sz_g2, sz_q3, sz_g3, sz_q12, sz_g12, sz_q16, sz_g16, sz_q26, sz_g26, sz_q29, sz_g29, sz_i90, sz_r90, sz_i91, sz_r91, sz_i92, sz_r92, sz_i93, sz_r93, sz_i94, sz_r94, sz_i95, sz_r95, sz_i99, sz_r99, sz_c0, sz_c1, sz_c2, sz_c3, Option.toList, List.cons_append, List.nil_append, sp_h100, sp_h2, sp_h24, sp_h10, sp_h10L, not_false_eq_true, not_true, true_and, and_true, true_implies, false_implies, nI_toInt, nI_clamp, sp_st_ne, sp_st_eq, sp_st_up, nI_1, sp_12, hA0, e]
    repeat' (first | apply And.intro | (intro _))
    all_goals try first | contradiction | decide | omega
    all_goals
      refine c_become (by decide) (by rw [q3 0 (by decide)]; exact a5.1) ?_
      intro C c1 c2 c3 c4 c5
      simp (disch := omega) only [g75_21, g75_22, g75_25, g75_28, sz_i4, sz_w4, sz_r4, sz_p4, sz_i5, sz_w5, sz_r5, sz_p5, sz_i6, sz_w6, sz_r6, sz_p6, sz_i7, sz_w7, sz_r7, sz_p7, sz_i8, sz_w8, sz_r8, sz_p8, sz_i9, sz_w9, sz_r9, sz_p9, sz_i10, sz_w10, sz_r10, sz_p10, sz_i14, sz_w14, sz_r14, sz_p14, sz_i15, sz_w15, sz_r15, sz_p15, sz_i18, sz_w18, sz_r18, sz_p18, sz_i19, sz_w19, sz_r19, sz_p19, sz_w21, sz_r21, sz_p21, sz_i23, sz_w23, sz_r23, sz_p23, sz_i24, sz_w24, sz_r24, sz_p24, sz_i25, sz_w25, sz_r25, sz_p25, sz_i28, sz_w28, sz_r28, sz_p28, sz_i31, sz_w31, sz_r31, sz_p31, sz_i41, sz_w41, sz_r41, sz_p41, sz_i42, sz_w42, sz_r42, sz_p42, sz_i43, sz_w43, sz_r43, sz_p43, sz_i44, sz_w44, sz_r44, sz_p44, sz_i45, sz_w45, sz_r45, sz_p45, sz_i46, sz_w46, sz_r46, sz_p46, sz_i47, sz_w47, sz_r47, sz_p47, sz_i48, sz_w48, sz_r48, sz_p48, sz_i49, sz_w49, sz_r49, sz_p49, sz_i50, sz_w50, sz_r50, sz_p50, sz_w51, sz_r51, sz_p51, sz_i52, sz_w52, sz_r52, sz_p52, sz_i53, sz_w53, sz_r53, sz_p53, sz_i54, sz_w54, sz_r54, sz_p54, sz_i55, sz_w55, sz_r55, sz_p55, sz_i56, sz_w56, sz_r56, sz_p56, sz_i57, sz_w57, sz_r57, sz_p57, sz_i58, sz_w58, sz_r58, sz_p58, sz_i59, sz_w59, sz_r59, sz_p59, sz_i60, sz_w60, sz_r60, sz_p60, sz_i61, sz_w61, sz_r61, sz_p61, sz_w62, sz_r62, sz_p62, sz_i63, sz_w63, sz_r63, sz_p63, sz_i64, sz_w64, sz_r64, sz_p64, sz_i65, sz_w65, sz_r65, sz_p65, sz_i66, sz_w66, sz_r66, sz_p66, sz_i67, sz_w67, sz_r67, sz_p67, sz_i68, sz_w68, sz_r68, sz_p68, sz_i69, sz_w69, sz_r69, sz_p69, sz_i70, sz_w70, sz_r70, sz_p70, sz_w71, sz_r71, sz_p71, sz_i72, sz_w72, sz_r72, sz_p72, sz_i73, sz_w73, sz_r73, sz_p73, sz_i74, sz_w74, sz_r74, sz_p74, sz_i75, sz_w75, sz_r75, sz_p75, sz_q2, sz_g2, sz_q3, sz_g3, sz_q12, sz_g12, sz_q16, sz_g16, sz_q26, sz_g26, sz_q29, sz_g29, sz_i90, sz_r90, sz_i91, sz_r91, sz_i92, sz_r92, sz_i93, sz_r93, sz_i94, sz_r94, sz_i95, sz_r95, sz_i99, sz_r99, sz_c0, sz_c1, sz_c2, sz_c3, Option.toList, List.cons_append, List.nil_append, sp_h100, sp_h2, sp_h24, sp_h10, sp_h10L, not_false_eq_true, not_true, true_and, and_true, true_implies, false_implies, nI_toInt, nI_clamp, sp_st_ne, sp_st_eq, sp_st_up, nI_1, sp_12]
      refine m_back h (by rfl) (by rfl) (by rfl) e b8 b9 hkT hkM hz hK ?_
      intro M hB
      obtain ⟨m1, m2, m3⟩ := hB
      have m0 : ∀ j, sp_rg 0 j → M 0 j = Mi 0 j := fun j hj => m1 0 j (.inl hj) (by omega)
      have mk : ∀ k j, sp_rg k j → ¬ k = 7 → M k j = Mi k j := fun k j hj h7 => m1 k j (.inl hj) (by omega)
      refine j_end ?_ (h.liq (C := C) (M := M) ⟨?_, ?_, ⟨?_, ?_, ?_, ?_, ?_, ?_⟩, ⟨?_, ?_, ?_⟩, ?_, ?_⟩).a
      · rw [c1 0 0 (by unfold sp_rg; omega), q3 0 (by decide), jg_ne (by decide)]
      · rw [jC]
        intro k hk
        funext j
        by_cases hr : sp_rg k j
        · rw [c1 k j hr, q3 k hk]
          simp only [jg]
          by_cases e7 : k = 7
          · subst e7
            by_cases j1 : j < kM
            · rw [if_neg (fun x => x.2 j1), if_neg (fun x => x.2 (by omega)), m1 7 j (.inl hr) (by omega)]
            · rw [if_pos ⟨rfl, j1⟩]
              by_cases j2 : j < nM
              · rw [if_neg (fun x => x.2 j2), m2 j (by omega) j2]
              · rw [if_pos ⟨rfl, j2⟩]
          · rw [if_neg (fun x => e7 x.1), if_neg (fun x => e7 x.1), mk k j hr e7]
        · rw [c5 k j hk hr, o1 k j hk hr]
          simp only [jg]
          by_cases e7 : k = 7
          · subst e7
            rw [if_pos rfl, if_pos ⟨rfl, fun x => hr (by unfold sp_rg; omega)⟩]
          · rw [if_neg e7, if_neg (fun x => e7 x.1), m3 k j (fun x => x.elim hr (fun y => by omega)), z4 k j hk e7 hr]
      · unfold sp_LR at a2 ⊢
        rw [m0 2 (by unfold sp_rg; omega), m1 9 0 (by omega) (by omega), m1 9 1 (by omega) (by omega), c2, c3]
        exact a2
      · intro t ht c hc
        have := (hcl t ht).2.2
        rw [mk 1 _ (by unfold sp_rg; omega) (by decide), mk 2 _ (by unfold sp_rg; omega) (by decide)]
        exact i1 t ht c hc
      · rw [m0 1 (by unfold sp_rg; omega)]
        exact i2
      · unfold sp_Wok2
        rw [m0 2 (by unfold sp_rg; omega), m1 9 0 (by omega) (by omega)]
        exact i3
      · intro f hf
        rw [mk 5 _ (by unfold sp_rg; omega) (by decide)]
        refine ⟨(i4 f hf).1, ?_⟩
        by_cases j1 : kM ≤ f
        · rw [m2 f j1 hf]
          decide
        · rw [m1 7 f (.inl (by unfold sp_rg; omega)) (by omega)]
          exact (i4 f hf).2
      · rw [m0 0 (by unfold sp_rg; omega)]
        exact i5
      · rw [m0 0 (by unfold sp_rg; omega)]
        exact i6
      · intro t ht ht5
        obtain ⟨y1, y2, y3⟩ := hz.1 t (by omega) ht5
        rw [mk 3 t (by unfold sp_rg; omega) (by decide), mk 4 t (by unfold sp_rg; omega) (by decide)]
        refine ⟨fun c hc => ?_, y2, y3⟩
        rw [mk 1 _ (by unfold sp_rg; omega) (by decide), mk 2 _ (by unfold sp_rg; omega) (by decide)]
        exact y1 c hc
      · intro f hf hf6
        rw [mk 5 _ (by unfold sp_rg; omega) (by decide), mk 6 _ (by unfold sp_rg; omega) (by decide), m1 7 f (.inl (by unfold sp_rg; omega)) (by omega)]
        exact hz.2.1 f (by omega) hf6
      · intro k j hk hk7 hn
        rw [m3 k j (fun x => x.elim hn (fun y => by omega))]
        exact z4 k j hk hk7 hn
      · rw [m0 8 (by unfold sp_rg; omega)]
        exact a5.1
      · rw [m0 2 (by unfold sp_rg; omega)]
        exact a5.2
end SPIM
