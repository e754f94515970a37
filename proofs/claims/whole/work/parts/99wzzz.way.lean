section SPYX
variable {xs : Nat → Int32} {N : Nat} {σ : sl_S} {kd cl mt mc : Nat → Nat} {nT nM nW nR nF : Nat} {Q : Option sl_V → sl_S → Prop}
theorem o_way (h : jJ σ kd cl mt mc nT nM nW nR nF) : sl_Go xs N 56 0 [some (.inr (.inr (0, 0, 0))), none] [] σ (jQ xs N 121 [some (.inr (.inr (40, 0, 0))), none]) := by
  have hA := h.a
  have e0 := h.rc 0 (by decide) (by decide)
  have w6 := h.1.2.2.2.2.2.2.2.2.2.1
  have hw2 := h.1.2.2.2.2.2.2.2.2.1
  have hWs := h.1.2.2.2.1
  have hRk := h.1.2.2.2.2.2.2.2.2.2.2
  obtain ⟨-, -, -, -, f5, f6, f7, f8, -⟩ := h.2.2.2
  have f57 := f5.trans f6
  unfold jQ
  by_cases h66 : nW = 6
  · have n6 : nI nW = 6 := by rw [h66]; rfl
    simp (disch := omega) only [g56_0, g56_1, g56_4, g56_7, g56_9, g56_12, g56_14, g121_0, g121_1, g121_4, g121_6, g121_9, g121_11, sz_i4, sz_w4, sz_r4, sz_p4, sz_i5, sz_w5, sz_r5, sz_p5, sz_i6, sz_w6, sz_r6, sz_p6, sz_i7, sz_w7, sz_r7, sz_p7, sz_i8, sz_w8, sz_r8, sz_p8, sz_i9, sz_w9, sz_r9, sz_p9, sz_i10, sz_w10, sz_r10, sz_p10, sz_i14, sz_w14, sz_r14, sz_p14, sz_i15, sz_w15, sz_r15, sz_p15, sz_i18, sz_w18, sz_r18, sz_p18, sz_i19, sz_w19, sz_r19, sz_p19, sz_w21, sz_r21, sz_p21, sz_i23, sz_w23, sz_r23, sz_p23, sz_i24, sz_w24, sz_r24, sz_p24, sz_i25, sz_w25, sz_r25, sz_p25, sz_i28, sz_w28, sz_r28, sz_p28, sz_i31, sz_w31, sz_r31, sz_p31, sz_i41, sz_w41, sz_r41, sz_p41, sz_i42, sz_w42, sz_r42, sz_p42, sz_i43, sz_w43, sz_r43, sz_p43, sz_i44, sz_w44, sz_r44, sz_p44, sz_i45, sz_w45, sz_r45, sz_p45, sz_i46, sz_w46, sz_r46, sz_p46, sz_i47, sz_w47, sz_r47, sz_p47, sz_i48, sz_w48, sz_r48, sz_p48, sz_i49, sz_w49, sz_r49, sz_p49, sz_i50, sz_w50, sz_r50, sz_p50, sz_w51, sz_r51, sz_p51, sz_i52, sz_w52, sz_r52, sz_p52, sz_i53, sz_w53, sz_r53, sz_p53, sz_i54, sz_w54, sz_r54, sz_p54, sz_i55, sz_w55, sz_r55, sz_p55, sz_i56, sz_w56, sz_r56, sz_p56, sz_i57, sz_w57, sz_r57, sz_p57, sz_i58, sz_w58, sz_r58, sz_p58, sz_i59, sz_w59, sz_r59, sz_p59, sz_i60, sz_w60, sz_r60, sz_p60, sz_i61, sz_w61, sz_r61, sz_p61, sz_w62, sz_r62, sz_p62, sz_i63, sz_w63, sz_r63, sz_p63, sz_i64, sz_w64, sz_r64, sz_p64, sz_i65, sz_w65, sz_r65, sz_p65, sz_i66, sz_w66, sz_r66, sz_p66, sz_i67, sz_w67, sz_r67, sz_p67, sz_i68, sz_w68, sz_r68, sz_p68, sz_i69, sz_w69, sz_r69, sz_p69, sz_i70, sz_w70, sz_r70, sz_p70, sz_w71, sz_r71, sz_p71, sz_i72, sz_w72, sz_r72, sz_p72, sz_i73, sz_w73, sz_r73, sz_p73, sz_i74, sz_w74, sz_r74, sz_p74, sz_i75, sz_w75, sz_r75, sz_p75, sz_q2, sz_g2, sz_q3, sz_g3, sz_q12, sz_g12, sz_q16, sz_g16, sz_q26, sz_g26, sz_q29, sz_g29, sz_i90, sz_r90, sz_i91, sz_r91, sz_i92, sz_r92, sz_i93, sz_r93, sz_i94, sz_r94, sz_i95, sz_r95, sz_i99, sz_r99, sz_c0, sz_c1, sz_c2, sz_c3, Option.toList, List.cons_append, List.nil_append, sp_h100, sp_h2, sp_h24, sp_h10, sp_h10L, not_false_eq_true, not_true, true_and, and_true, true_implies, false_implies, nI_toInt, nI_clamp, sp_st_ne, sp_st_eq, sp_st_up, nI_1, sp_12, e0, hw2, n6]
    repeat' (first | apply And.intro | (intro _))
    all_goals first | contradiction | exact j_end rfl hA | decide | omega
  · have n6 : ¬ nI nW = 6 := fun e => h66 (nI_inj (b := 6) (by omega) (by decide) e)
    have hy : nW < 6 := by omega
    simp (disch := omega) only [g56_0, g56_1, g56_4, g56_7, g56_9, g56_12, g56_14, g56_15, g56_16, g56_19, g56_20, g56_23, g56_26, g56_27, g56_30, g56_33, g56_34, sz_i4, sz_w4, sz_r4, sz_p4, sz_i5, sz_w5, sz_r5, sz_p5, sz_i6, sz_w6, sz_r6, sz_p6, sz_i7, sz_w7, sz_r7, sz_p7, sz_i8, sz_w8, sz_r8, sz_p8, sz_i9, sz_w9, sz_r9, sz_p9, sz_i10, sz_w10, sz_r10, sz_p10, sz_i14, sz_w14, sz_r14, sz_p14, sz_i15, sz_w15, sz_r15, sz_p15, sz_i18, sz_w18, sz_r18, sz_p18, sz_i19, sz_w19, sz_r19, sz_p19, sz_w21, sz_r21, sz_p21, sz_i23, sz_w23, sz_r23, sz_p23, sz_i24, sz_w24, sz_r24, sz_p24, sz_i25, sz_w25, sz_r25, sz_p25, sz_i28, sz_w28, sz_r28, sz_p28, sz_i31, sz_w31, sz_r31, sz_p31, sz_i41, sz_w41, sz_r41, sz_p41, sz_i42, sz_w42, sz_r42, sz_p42, sz_i43, sz_w43, sz_r43, sz_p43, sz_i44, sz_w44, sz_r44, sz_p44, sz_i45, sz_w45, sz_r45, sz_p45, sz_i46, sz_w46, sz_r46, sz_p46, sz_i47, sz_w47, sz_r47, sz_p47, sz_i48, sz_w48, sz_r48, sz_p48, sz_i49, sz_w49, sz_r49, sz_p49, sz_i50, sz_w50, sz_r50, sz_p50, sz_w51, sz_r51, sz_p51, sz_i52, sz_w52, sz_r52, sz_p52, sz_i53, sz_w53, sz_r53, sz_p53, sz_i54, sz_w54, sz_r54, sz_p54, sz_i55, sz_w55, sz_r55, sz_p55, sz_i56, sz_w56, sz_r56, sz_p56, sz_i57, sz_w57, sz_r57, sz_p57, sz_i58, sz_w58, sz_r58, sz_p58, sz_i59, sz_w59, sz_r59, sz_p59, sz_i60, sz_w60, sz_r60, sz_p60, sz_i61, sz_w61, sz_r61, sz_p61, sz_w62, sz_r62, sz_p62, sz_i63, sz_w63, sz_r63, sz_p63, sz_i64, sz_w64, sz_r64, sz_p64, sz_i65, sz_w65, sz_r65, sz_p65, sz_i66, sz_w66, sz_r66, sz_p66, sz_i67, sz_w67, sz_r67, sz_p67, sz_i68, sz_w68, sz_r68, sz_p68, sz_i69, sz_w69, sz_r69, sz_p69, sz_i70, sz_w70, sz_r70, sz_p70, sz_w71, sz_r71, sz_p71, sz_i72, sz_w72, sz_r72, sz_p72, sz_i73, sz_w73, sz_r73, sz_p73, sz_i74, sz_w74, sz_r74, sz_p74, sz_i75, sz_w75, sz_r75, sz_p75, sz_q2, sz_g2, sz_q3, sz_g3, sz_q12, sz_g12, sz_q16, sz_g16, sz_q26, sz_g26, sz_q29, sz_g29, sz_i90, sz_r90, sz_i91, sz_r91, sz_i92, sz_r92, sz_i93, sz_r93, sz_i94, sz_r94, sz_i95, sz_r95, sz_i99, sz_r99, sz_c0, sz_c1, sz_c2, sz_c3, Option.toList, List.cons_append, List.nil_append, sp_h100, sp_h2, sp_h24, sp_h10, sp_h10L, not_false_eq_true, not_true, true_and, and_true, true_implies, false_implies, nI_toInt, nI_clamp, sp_st_ne, sp_st_eq, sp_st_up, nI_1, sp_12, e0, hw2, n6]
    repeat' (first | apply And.intro | (intro _))
    all_goals try first | contradiction | decide | omega
    -- the reference's run, from any state of the class's
    have ref : ∀ (τ : sl_S) (w : Int32), τ 6 = σ 6 → τ 8 = σ 8 → (∀ p l, jtext (σ 8 1) nF (nF + 1) 0 (0, fun _ => 0, fun _ => 0) = .inr (p, l) → w = nI (nW + 1) - 1 ∧ ∀ R' a d, jml (σ 6) l R' → jA (sp_st (sp_st τ 6 (sl_u2 (jwc (sl_u2 R' 8 nW (nI l.1)) nW l.1) 0 2 (nI (nW + 1)))) 8 (jrq (sl_u2 (sl_u2 (σ 8) 0 7 (nI nF)) 0 3 0) a d (nI l.1)))) → (∀ q, jtext (σ 8 1) nF (nF + 1) 0 (0, fun _ => 0, fun _ => 0) = .inl q → w = -100 - nI q ∧ ∀ l R' a d n, jml (σ 6) l R' → jA (sp_st (sp_st τ 6 R') 8 (jrq (sl_u2 (sl_u2 (σ 8) 0 7 (nI nF)) 0 3 0) a d n))) → sl_Go xs N 121 0 [some (.inr (.inr (40, 0, 0))), none] [] τ (fun r' τ' => ∃ v : Int32, ((some (.inl w) : Option sl_V) = some (.inl v) ∧ r' = some (.inl v)) ∧ jA τ') := by
      intro τ w t6 t8 hY hN
      have text : sl_Go xs N 120 10 [some (.inr (.inr (40, 0, 0)))] [] (sp_st (sp_st τ 6 (σ 6)) 8 (jrq (sl_u2 (sl_u2 (σ 8) 0 7 (nI nF)) 0 3 0) (nI 0) (σ 8 0 5) (nI 0))) (fun r τ => sl_Go xs N 121 29 [some (.inr (.inr (40, 0, 0))), none] (r.toList ++ []) τ (fun r' τ' => ∃ v : Int32, ((some (.inl w) : Option sl_V) = some (.inl v) ∧ r' = some (.inl v)) ∧ jA τ')) := by
        refine m_textL (B := sl_u2 (sl_u2 (σ 8) 0 7 (nI nF)) 0 3 0) (R0 := σ 6) (S := nF) rfl f7 (Z := jtext (σ 8 1) nF (nF + 1) 0 (0, fun _ => 0, fun _ => 0)) (fun p l R' dg e hR' => ?_) (fun q l R' dg e qS hR' => ?_) (nF + 1) 0 (0, fun _ => 0, fun _ => 0) (σ 6) (σ 8 0 5) (by omega) (Nat.zero_le _) ⟨fun _ _ _ => rfl, fun _ _ => ⟨rfl, rfl⟩, Nat.zero_le _, fun k hk => absurd hk (Nat.not_lt_zero k)⟩ rfl
        · obtain ⟨hw, hj⟩ := hY p l e
          have r02 : R' 0 2 = nI nW := by rw [hR'.1 0 (by decide) (by decide)]; exact hw2
          have fin := m_wayEnd (xs := xs) (N := N) (τ := τ) (R := R') (B := jrq (sl_u2 (sl_u2 (σ 8) 0 7 (nI nF)) 0 3 0) (nI p) dg (nI l.1)) (y := nW) (n := l.1) hy hR'.2.2.1 r02 jrq_6 (Q := fun r' τ' => ∃ v : Int32, ((some (.inl w) : Option sl_V) = some (.inl v) ∧ r' = some (.inl v)) ∧ jA τ') (j_end hw (hj R' _ _ hR'))
          simp (disch := omega) only [g121_29, sz_i4, sz_w4, sz_r4, sz_p4, sz_i5, sz_w5, sz_r5, sz_p5, sz_i6, sz_w6, sz_r6, sz_p6, sz_i7, sz_w7, sz_r7, sz_p7, sz_i8, sz_w8, sz_r8, sz_p8, sz_i9, sz_w9, sz_r9, sz_p9, sz_i10, sz_w10, sz_r10, sz_p10, sz_i14, sz_w14, sz_r14, sz_p14, sz_i15, sz_w15, sz_r15, sz_p15, sz_i18, sz_w18, sz_r18, sz_p18, sz_i19, sz_w19, sz_r19, sz_p19, sz_w21, sz_r21, sz_p21, sz_i23, sz_w23, sz_r23, sz_p23, sz_i24, sz_w24, sz_r24, sz_p24, sz_i25, sz_w25, sz_r25, sz_p25, sz_i28, sz_w28, sz_r28, sz_p28, sz_i31, sz_w31, sz_r31, sz_p31, sz_i41, sz_w41, sz_r41, sz_p41, sz_i42, sz_w42, sz_r42, sz_p42, sz_i43, sz_w43, sz_r43, sz_p43, sz_i44, sz_w44, sz_r44, sz_p44, sz_i45, sz_w45, sz_r45, sz_p45, sz_i46, sz_w46, sz_r46, sz_p46, sz_i47, sz_w47, sz_r47, sz_p47, sz_i48, sz_w48, sz_r48, sz_p48, sz_i49, sz_w49, sz_r49, sz_p49, sz_i50, sz_w50, sz_r50, sz_p50, sz_w51, sz_r51, sz_p51, sz_i52, sz_w52, sz_r52, sz_p52, sz_i53, sz_w53, sz_r53, sz_p53, sz_i54, sz_w54, sz_r54, sz_p54, sz_i55, sz_w55, sz_r55, sz_p55, sz_i56, sz_w56, sz_r56, sz_p56, sz_i57, sz_w57, sz_r57, sz_p57, sz_i58, sz_w58, sz_r58, sz_p58, sz_i59, sz_w59, sz_r59, sz_p59, sz_i60, sz_w60, sz_r60, sz_p60, sz_i61, sz_w61, sz_r61, sz_p61, sz_w62, sz_r62, sz_p62, sz_i63, sz_w63, sz_r63, sz_p63, sz_i64, sz_w64, sz_r64, sz_p64, sz_i65, sz_w65, sz_r65, sz_p65, sz_i66, sz_w66, sz_r66, sz_p66, sz_i67, sz_w67, sz_r67, sz_p67, sz_i68, sz_w68, sz_r68, sz_p68, sz_i69, sz_w69, sz_r69, sz_p69, sz_i70, sz_w70, sz_r70, sz_p70, sz_w71, sz_r71, sz_p71, sz_i72, sz_w72, sz_r72, sz_p72, sz_i73, sz_w73, sz_r73, sz_p73, sz_i74, sz_w74, sz_r74, sz_p74, sz_i75, sz_w75, sz_r75, sz_p75, sz_q2, sz_g2, sz_q3, sz_g3, sz_q12, sz_g12, sz_q16, sz_g16, sz_q26, sz_g26, sz_q29, sz_g29, sz_i90, sz_r90, sz_i91, sz_r91, sz_i92, sz_r92, sz_i93, sz_r93, sz_i94, sz_r94, sz_i95, sz_r95, sz_i99, sz_r99, sz_c0, sz_c1, sz_c2, sz_c3, Option.toList, List.cons_append, List.nil_append, sp_h100, sp_h2, sp_h24, sp_h10, sp_h10L, not_false_eq_true, not_true, true_and, and_true, true_implies, false_implies, nI_toInt, nI_clamp, sp_st_ne, sp_st_eq, sp_st_up, nI_1, sp_12]
          repeat' (first | apply And.intro | (intro _))
          all_goals first | contradiction | decide | omega | exact fin
        · obtain ⟨hw, hj⟩ := hN q e
          have fin := j_end hw (hj l R' (nI q) dg (nI l.1) hR')
          simp (disch := omega) only [g121_29, g121_32, g121_34, g121_35, g121_38, g121_39, sz_i4, sz_w4, sz_r4, sz_p4, sz_i5, sz_w5, sz_r5, sz_p5, sz_i6, sz_w6, sz_r6, sz_p6, sz_i7, sz_w7, sz_r7, sz_p7, sz_i8, sz_w8, sz_r8, sz_p8, sz_i9, sz_w9, sz_r9, sz_p9, sz_i10, sz_w10, sz_r10, sz_p10, sz_i14, sz_w14, sz_r14, sz_p14, sz_i15, sz_w15, sz_r15, sz_p15, sz_i18, sz_w18, sz_r18, sz_p18, sz_i19, sz_w19, sz_r19, sz_p19, sz_w21, sz_r21, sz_p21, sz_i23, sz_w23, sz_r23, sz_p23, sz_i24, sz_w24, sz_r24, sz_p24, sz_i25, sz_w25, sz_r25, sz_p25, sz_i28, sz_w28, sz_r28, sz_p28, sz_i31, sz_w31, sz_r31, sz_p31, sz_i41, sz_w41, sz_r41, sz_p41, sz_i42, sz_w42, sz_r42, sz_p42, sz_i43, sz_w43, sz_r43, sz_p43, sz_i44, sz_w44, sz_r44, sz_p44, sz_i45, sz_w45, sz_r45, sz_p45, sz_i46, sz_w46, sz_r46, sz_p46, sz_i47, sz_w47, sz_r47, sz_p47, sz_i48, sz_w48, sz_r48, sz_p48, sz_i49, sz_w49, sz_r49, sz_p49, sz_i50, sz_w50, sz_r50, sz_p50, sz_w51, sz_r51, sz_p51, sz_i52, sz_w52, sz_r52, sz_p52, sz_i53, sz_w53, sz_r53, sz_p53, sz_i54, sz_w54, sz_r54, sz_p54, sz_i55, sz_w55, sz_r55, sz_p55, sz_i56, sz_w56, sz_r56, sz_p56, sz_i57, sz_w57, sz_r57, sz_p57, sz_i58, sz_w58, sz_r58, sz_p58, sz_i59, sz_w59, sz_r59, sz_p59, sz_i60, sz_w60, sz_r60, sz_p60, sz_i61, sz_w61, sz_r61, sz_p61, sz_w62, sz_r62, sz_p62, sz_i63, sz_w63, sz_r63, sz_p63, sz_i64, sz_w64, sz_r64, sz_p64, sz_i65, sz_w65, sz_r65, sz_p65, sz_i66, sz_w66, sz_r66, sz_p66, sz_i67, sz_w67, sz_r67, sz_p67, sz_i68, sz_w68, sz_r68, sz_p68, sz_i69, sz_w69, sz_r69, sz_p69, sz_i70, sz_w70, sz_r70, sz_p70, sz_w71, sz_r71, sz_p71, sz_i72, sz_w72, sz_r72, sz_p72, sz_i73, sz_w73, sz_r73, sz_p73, sz_i74, sz_w74, sz_r74, sz_p74, sz_i75, sz_w75, sz_r75, sz_p75, sz_q2, sz_g2, sz_q3, sz_g3, sz_q12, sz_g12, sz_q16, sz_g16, sz_q26, sz_g26, sz_q29, sz_g29, sz_i90, sz_r90, sz_i91, sz_r91, sz_i92, sz_r92, sz_i93, sz_r93, sz_i94, sz_r94, sz_i95, sz_r95, sz_i99, sz_r99, sz_c0, sz_c1, sz_c2, sz_c3, Option.toList, List.cons_append, List.nil_append, sp_h100, sp_h2, sp_h24, sp_h10, sp_h10L, not_false_eq_true, not_true, true_and, and_true, true_implies, false_implies, nI_toInt, nI_clamp, sp_st_ne, sp_st_eq, sp_st_up, nI_1, sp_12, jrq_4]
          repeat' (first | apply And.intro | (intro _))
          all_goals first | contradiction | decide | omega | exact fin
      have i8 : sl_u2 (sl_u2 (sl_u2 (sl_u2 (σ 8) 0 7 (nI nF)) 0 3 0) 0 4 0) 0 6 0 = jrq (sl_u2 (sl_u2 (σ 8) 0 7 (nI nF)) 0 3 0) (nI 0) (σ 8 0 5) (nI 0) := jrq_i
      rw [← t6, sp_st_self] at text
      simp (disch := omega) only [g121_0, g121_1, g121_4, g121_6, g121_9, g121_11, g121_12, g121_13, g121_14, g121_17, g121_20, g121_21, g121_22, g121_25, g121_26, g120_0, g120_1, g120_2, g120_5, g120_6, g120_7, sz_i4, sz_w4, sz_r4, sz_p4, sz_i5, sz_w5, sz_r5, sz_p5, sz_i6, sz_w6, sz_r6, sz_p6, sz_i7, sz_w7, sz_r7, sz_p7, sz_i8, sz_w8, sz_r8, sz_p8, sz_i9, sz_w9, sz_r9, sz_p9, sz_i10, sz_w10, sz_r10, sz_p10, sz_i14, sz_w14, sz_r14, sz_p14, sz_i15, sz_w15, sz_r15, sz_p15, sz_i18, sz_w18, sz_r18, sz_p18, sz_i19, sz_w19, sz_r19, sz_p19, sz_w21, sz_r21, sz_p21, sz_i23, sz_w23, sz_r23, sz_p23, sz_i24, sz_w24, sz_r24, sz_p24, sz_i25, sz_w25, sz_r25, sz_p25, sz_i28, sz_w28, sz_r28, sz_p28, sz_i31, sz_w31, sz_r31, sz_p31, sz_i41, sz_w41, sz_r41, sz_p41, sz_i42, sz_w42, sz_r42, sz_p42, sz_i43, sz_w43, sz_r43, sz_p43, sz_i44, sz_w44, sz_r44, sz_p44, sz_i45, sz_w45, sz_r45, sz_p45, sz_i46, sz_w46, sz_r46, sz_p46, sz_i47, sz_w47, sz_r47, sz_p47, sz_i48, sz_w48, sz_r48, sz_p48, sz_i49, sz_w49, sz_r49, sz_p49, sz_i50, sz_w50, sz_r50, sz_p50, sz_w51, sz_r51, sz_p51, sz_i52, sz_w52, sz_r52, sz_p52, sz_i53, sz_w53, sz_r53, sz_p53, sz_i54, sz_w54, sz_r54, sz_p54, sz_i55, sz_w55, sz_r55, sz_p55, sz_i56, sz_w56, sz_r56, sz_p56, sz_i57, sz_w57, sz_r57, sz_p57, sz_i58, sz_w58, sz_r58, sz_p58, sz_i59, sz_w59, sz_r59, sz_p59, sz_i60, sz_w60, sz_r60, sz_p60, sz_i61, sz_w61, sz_r61, sz_p61, sz_w62, sz_r62, sz_p62, sz_i63, sz_w63, sz_r63, sz_p63, sz_i64, sz_w64, sz_r64, sz_p64, sz_i65, sz_w65, sz_r65, sz_p65, sz_i66, sz_w66, sz_r66, sz_p66, sz_i67, sz_w67, sz_r67, sz_p67, sz_i68, sz_w68, sz_r68, sz_p68, sz_i69, sz_w69, sz_r69, sz_p69, sz_i70, sz_w70, sz_r70, sz_p70, sz_w71, sz_r71, sz_p71, sz_i72, sz_w72, sz_r72, sz_p72, sz_i73, sz_w73, sz_r73, sz_p73, sz_i74, sz_w74, sz_r74, sz_p74, sz_i75, sz_w75, sz_r75, sz_p75, sz_q2, sz_g2, sz_q3, sz_g3, sz_q12, sz_g12, sz_q16, sz_g16, sz_q26, sz_g26, sz_q29, sz_g29, sz_i90, sz_r90, sz_i91, sz_r91, sz_i92, sz_r92, sz_i93, sz_r93, sz_i94, sz_r94, sz_i95, sz_r95, sz_i99, sz_r99, sz_c0, sz_c1, sz_c2, sz_c3, Option.toList, List.cons_append, List.nil_append, sp_h100, sp_h2, sp_h24, sp_h10, sp_h10L, not_false_eq_true, not_true, true_and, and_true, true_implies, false_implies, nI_toInt, nI_clamp, sp_st_ne, sp_st_eq, sp_st_up, nI_1, sp_12, t6, t8, hw2, n6, f6, sp_up, sp_st_st, sp_st_eq, sp_u2_ne, i8]
      repeat' (first | apply And.intro | (intro _))
      all_goals first | contradiction | decide | omega | exact text
    refine c_readWay (S := nF) hy f57 f7 (fun p l P' e hP' => ?_) (fun q p l P' e qS hP' => ?_)
    · rw [f8] at e
      have hlb := jlb_text _ _ _ (Nat.zero_le _) (fun k hk => absurd hk (Nat.not_lt_zero k)) e
      obtain ⟨p1, p2, p3, p4, p5, p6⟩ := hP'
      have fin := ref (sp_st (sp_st (sp_st σ 5 P') 7 (sl_u2 (jtq (σ 7) (nI p) (-1)) 0 3 0)) 5 (sl_u2 P' 0 2 (nI (nW + 1)))) (nI (nW + 1) - 1) rfl rfl (fun p' l' e' => by
        rw [e] at e'
        have e' := Sum.inr.inj e'
        have e1 := congrArg Prod.snd e'
        dsimp only at e1
        subst e1
        refine ⟨rfl, fun R' a d hR' => ?_⟩
        obtain ⟨q1, q2, q3, q4⟩ := hR'
        refine (h.read (P := sl_u2 P' 0 2 (nI (nW + 1))) (R := sl_u2 (jwc (sl_u2 R' 8 nW (nI l.1)) nW l.1) 0 2 (nI (nW + 1))) (A := sl_u2 (jtq (σ 7) (nI p) (-1)) 0 3 0) (B := jrq (sl_u2 (sl_u2 (σ 8) 0 7 (nI nF)) 0 3 0) a d (nI l.1)) (nW' := nW + 1) (by omega) ?_ ?_ ?_ ?_ ⟨rfl, rfl⟩ ?_ (by omega) ?_ ?_ ?_ ?_ ?_ ⟨rfl, rfl⟩ (by rfl) (by rfl) (by rfl) (by rfl) (by rfl) (by rfl) (by rfl) (by rfl)).a
        · intro k hk k0
          rw [sp_u2_ne k0, p1 k (by omega) (by omega) (by omega)]
        · intro j hj
          rw [sp_u2_eq, sp_u1_ne hj, p1 0 (by omega) (by omega) (by omega)]
        · intro k hk k0
          rw [sp_u2_ne k0, jwc_k (by omega) (by omega), sp_u2_ne (by omega), q1 k (by omega) (by omega)]
        · intro j hj
          rw [sp_u2_eq, sp_u1_ne hj, jwc_k (by omega) (by omega), sp_u2_ne (by omega), q1 0 (by omega) (by omega)]
        · intro y' hy'
          rw [sp_u2_ne (by decide), sp_u2_ne (by decide), jwc_k (j := 8) (by decide) (by decide), sp_u2_eq]
          by_cases ey : y' = nW
          · rw [ey, sp_u1_eq]
            refine ⟨p4, l.1, p5, rfl, fun k hk => ?_⟩
            obtain ⟨g9, g10⟩ := p6 k hk
            obtain ⟨m9, m10⟩ := q4 k hk
            have c9 := (jwc_e (R := sl_u2 R' 8 nW (nI l.1)) (y := nW) (j := 12 * nW + k) l.1)
            rw [if_pos (by omega), if_pos (by omega), show 12 * nW + k - 12 * nW = k by omega] at c9
            rw [sp_u2_ne (by decide), sp_u2_ne (by decide), sp_u2_ne (by decide), sp_u2_ne (by decide), c9.1, c9.2, g9, g10]
            have r9 : sl_u2 R' 8 nW (nI l.1) 9 (72 + k) = R' 9 (72 + k) := rfl
            have r10 : sl_u2 R' 8 nW (nI l.1) 10 (72 + k) = R' 10 (72 + k) := rfl
            rw [r9, r10, m9, m10]
            exact ⟨⟨rfl, rfl⟩, hlb k hk⟩
          · rw [sp_u1_ne ey, p2 y' ey, q1 8 (by decide) (by decide)]
            obtain ⟨a1, nl, a2, a3, a4⟩ := hWs y' (by omega)
            obtain ⟨nl', b2, b3, b4⟩ := hRk y' (by omega)
            have en : nl' = nl := nI_inj (by omega) (by omega) (b3.symm.trans a3)
            subst en
            refine ⟨a1, nl', a2, a3, fun k hk => ?_⟩
            obtain ⟨d9, d10⟩ := p3 (12 * y' + k) (by omega)
            have c9 := (jwc_e (R := sl_u2 R' 8 nW (nI l.1)) (y := nW) (j := 12 * y' + k) l.1)
            rw [if_neg (by omega), if_neg (by omega)] at c9
            obtain ⟨m9, m10⟩ := q2 (12 * y' + k) (by omega)
            have r9 : sl_u2 R' 8 nW (nI l.1) 9 (12 * y' + k) = R' 9 (12 * y' + k) := rfl
            have r10 : sl_u2 R' 8 nW (nI l.1) 10 (12 * y' + k) = R' 10 (12 * y' + k) := rfl
            rw [sp_u2_ne (by decide), sp_u2_ne (by decide), sp_u2_ne (by decide), sp_u2_ne (by decide), c9.1, c9.2, d9, d10, r9, r10, m9, m10]
            exact ⟨a4 k hk, b4 k hk⟩
        · intro y' hy'
          rw [sp_u2_ne (by decide), jwc_k (by decide) (by decide), sp_u2_eq, sp_u1_ne (by omega), q1 8 (by decide) (by decide)]
        · intro k k0
          rw [sp_u2_ne k0, jtq_k k0]
        · intro j hj
          rw [sp_u2_eq, sp_u1_ne (by omega)]
          show sl_u1 (sl_u1 (σ 7 0) 4 (nI p)) 5 (-1) j = _
          rw [sp_u1_ne (by omega), sp_u1_ne (by omega)]
        · intro k k0
          rw [jrq_k k0, sp_u2_ne k0, sp_u2_ne k0]
        · intro j hj
          show sl_u1 (sl_u1 (sl_u1 (sl_u1 (sl_u1 (σ 8 0) 7 (nI nF)) 3 0) 4 a) 5 d) 6 (nI l.1) j = _
          rw [sp_u1_ne (by omega), sp_u1_ne (by omega), sp_u1_ne (by omega), sp_u1_ne (by omega), sp_u1_ne (by omega)]) (fun q e' => by
        rw [e] at e'
        contradiction)
      have p02 : P' 0 2 = nI nW := by
        rw [p1 0 (by decide) (by decide) (by decide), e0]
        exact hw2
      simp (disch := omega) only [g56_37n, g56_37i, g56_37r, g56_38, g56_39, g56_42, g56_43, g56_46, g56_47, g56_48, g56_51, g56_53, g56_54, g56_55, g56_56, g56_57, g56_60i, g56_60r, g56_61, g56_64, g56_65, g56_66, g56_69, g56_70, g56_73, g56_76, g56_77, g56_78, sz_i4, sz_w4, sz_r4, sz_p4, sz_i5, sz_w5, sz_r5, sz_p5, sz_i6, sz_w6, sz_r6, sz_p6, sz_i7, sz_w7, sz_r7, sz_p7, sz_i8, sz_w8, sz_r8, sz_p8, sz_i9, sz_w9, sz_r9, sz_p9, sz_i10, sz_w10, sz_r10, sz_p10, sz_i14, sz_w14, sz_r14, sz_p14, sz_i15, sz_w15, sz_r15, sz_p15, sz_i18, sz_w18, sz_r18, sz_p18, sz_i19, sz_w19, sz_r19, sz_p19, sz_w21, sz_r21, sz_p21, sz_i23, sz_w23, sz_r23, sz_p23, sz_i24, sz_w24, sz_r24, sz_p24, sz_i25, sz_w25, sz_r25, sz_p25, sz_i28, sz_w28, sz_r28, sz_p28, sz_i31, sz_w31, sz_r31, sz_p31, sz_i41, sz_w41, sz_r41, sz_p41, sz_i42, sz_w42, sz_r42, sz_p42, sz_i43, sz_w43, sz_r43, sz_p43, sz_i44, sz_w44, sz_r44, sz_p44, sz_i45, sz_w45, sz_r45, sz_p45, sz_i46, sz_w46, sz_r46, sz_p46, sz_i47, sz_w47, sz_r47, sz_p47, sz_i48, sz_w48, sz_r48, sz_p48, sz_i49, sz_w49, sz_r49, sz_p49, sz_i50, sz_w50, sz_r50, sz_p50, sz_w51, sz_r51, sz_p51, sz_i52, sz_w52, sz_r52, sz_p52, sz_i53, sz_w53, sz_r53, sz_p53, sz_i54, sz_w54, sz_r54, sz_p54, sz_i55, sz_w55, sz_r55, sz_p55, sz_i56, sz_w56, sz_r56, sz_p56, sz_i57, sz_w57, sz_r57, sz_p57, sz_i58, sz_w58, sz_r58, sz_p58, sz_i59, sz_w59, sz_r59, sz_p59, sz_i60, sz_w60, sz_r60, sz_p60, sz_i61, sz_w61, sz_r61, sz_p61, sz_w62, sz_r62, sz_p62, sz_i63, sz_w63, sz_r63, sz_p63, sz_i64, sz_w64, sz_r64, sz_p64, sz_i65, sz_w65, sz_r65, sz_p65, sz_i66, sz_w66, sz_r66, sz_p66, sz_i67, sz_w67, sz_r67, sz_p67, sz_i68, sz_w68, sz_r68, sz_p68, sz_i69, sz_w69, sz_r69, sz_p69, sz_i70, sz_w70, sz_r70, sz_p70, sz_w71, sz_r71, sz_p71, sz_i72, sz_w72, sz_r72, sz_p72, sz_i73, sz_w73, sz_r73, sz_p73, sz_i74, sz_w74, sz_r74, sz_p74, sz_i75, sz_w75, sz_r75, sz_p75, sz_q2, sz_g2, sz_q3, sz_g3, sz_q12, sz_g12, sz_q16, sz_g16, sz_q26, sz_g26, sz_q29, sz_g29, sz_i90, sz_r90, sz_i91, sz_r91, sz_i92, sz_r92, sz_i93, sz_r93, sz_i94, sz_r94, sz_i95, sz_r95, sz_i99, sz_r99, sz_c0, sz_c1, sz_c2, sz_c3, Option.toList, List.cons_append, List.nil_append, sp_h100, sp_h2, sp_h24, sp_h10, sp_h10L, not_false_eq_true, not_true, true_and, and_true, true_implies, false_implies, nI_toInt, nI_clamp, sp_st_ne, sp_st_eq, sp_st_up, nI_1, sp_12, p02, sp_up, sp_st_st, sp_st_eq, sp_u2_eq, sp_u1_eq]
      repeat' (first | apply And.intro | (intro _))
      all_goals first | contradiction | decide | omega | exact fin
    · rw [f8] at e
      obtain ⟨p1, p2, p3, p4, p5, p6⟩ := hP'
      have fin := ref (sp_st (sp_st σ 5 P') 7 (sl_u2 (jtq (σ 7) p (nI q)) 0 3 0)) (-100 - nI q) rfl rfl (fun p' l' e' => by
        rw [e] at e'
        contradiction) (fun q' e' => by
        rw [e] at e'
        have e' := Sum.inl.inj e'
        subst e'
        refine ⟨rfl, fun l' R' a d n hR' => ?_⟩
        obtain ⟨q1, q2, q3, q4⟩ := hR'
        refine (h.read (P := P') (R := R') (A := sl_u2 (jtq (σ 7) p (nI q)) 0 3 0) (B := jrq (sl_u2 (sl_u2 (σ 8) 0 7 (nI nF)) 0 3 0) a d n) (nW' := nW) (by omega) ?_ ?_ ?_ ?_ ?_ ?_ (by omega) ?_ ?_ ?_ ?_ ?_ ⟨rfl, rfl⟩ (by rfl) (by rfl) (by rfl) (by rfl) (by rfl) (by rfl) (by rfl) (by rfl)).a
        · intro k hk k0
          rw [p1 k (by omega) (by omega) (by omega)]
        · intro j hj
          rw [p1 0 (by omega) (by omega) (by omega)]
        · intro k hk k0
          rw [q1 k (by omega) (by omega)]
        · intro j hj
          rw [q1 0 (by omega) (by omega)]
        · refine ⟨?_, ?_⟩
          · rw [p1 0 (by decide) (by decide) (by decide), e0]
            exact hw2
          · rw [q1 0 (by decide) (by decide)]
            exact hw2
        · intro y' hy'
          rw [p2 y' (by omega), q1 8 (by decide) (by decide)]
          obtain ⟨a1, nl, a2, a3, a4⟩ := hWs y' (by omega)
          obtain ⟨nl', b2, b3, b4⟩ := hRk y' (by omega)
          have en : nl' = nl := nI_inj (by omega) (by omega) (b3.symm.trans a3)
          subst en
          refine ⟨a1, nl', a2, a3, fun k hk => ?_⟩
          obtain ⟨d9, d10⟩ := p3 (12 * y' + k) (by omega)
          obtain ⟨m9, m10⟩ := q2 (12 * y' + k) (by omega)
          rw [d9, d10, m9, m10]
          exact ⟨a4 k hk, b4 k hk⟩
        · intro y' hy'
          rw [q1 8 (by decide) (by decide)]
        · intro k k0
          rw [sp_u2_ne k0, jtq_k k0]
        · intro j hj
          rw [sp_u2_eq, sp_u1_ne (by omega)]
          show sl_u1 (sl_u1 (σ 7 0) 4 p) 5 (nI q) j = _
          rw [sp_u1_ne (by omega), sp_u1_ne (by omega)]
        · intro k k0
          rw [jrq_k k0, sp_u2_ne k0, sp_u2_ne k0]
        · intro j hj
          show sl_u1 (sl_u1 (sl_u1 (sl_u1 (sl_u1 (σ 8 0) 7 (nI nF)) 3 0) 4 a) 5 d) 6 n j = _
          rw [sp_u1_ne (by omega), sp_u1_ne (by omega), sp_u1_ne (by omega), sp_u1_ne (by omega), sp_u1_ne (by omega)])
      have hq2 := j_nm1 (q := q) (by omega)
      simp (disch := omega) only [g56_37n, g56_37i, g56_37r, g56_38, g56_39, g56_42, g56_43, g56_46, g56_47, g56_48, g56_51, g56_53, g56_54, g56_55, sz_i4, sz_w4, sz_r4, sz_p4, sz_i5, sz_w5, sz_r5, sz_p5, sz_i6, sz_w6, sz_r6, sz_p6, sz_i7, sz_w7, sz_r7, sz_p7, sz_i8, sz_w8, sz_r8, sz_p8, sz_i9, sz_w9, sz_r9, sz_p9, sz_i10, sz_w10, sz_r10, sz_p10, sz_i14, sz_w14, sz_r14, sz_p14, sz_i15, sz_w15, sz_r15, sz_p15, sz_i18, sz_w18, sz_r18, sz_p18, sz_i19, sz_w19, sz_r19, sz_p19, sz_w21, sz_r21, sz_p21, sz_i23, sz_w23, sz_r23, sz_p23, sz_i24, sz_w24, sz_r24, sz_p24, sz_i25, sz_w25, sz_r25, sz_p25, sz_i28, sz_w28, sz_r28, sz_p28, sz_i31, sz_w31, sz_r31, sz_p31, sz_i41, sz_w41, sz_r41, sz_p41, sz_i42, sz_w42, sz_r42, sz_p42, sz_i43, sz_w43, sz_r43, sz_p43, sz_i44, sz_w44, sz_r44, sz_p44, sz_i45, sz_w45, sz_r45, sz_p45, sz_i46, sz_w46, sz_r46, sz_p46, sz_i47, sz_w47, sz_r47, sz_p47, sz_i48, sz_w48, sz_r48, sz_p48, sz_i49, sz_w49, sz_r49, sz_p49, sz_i50, sz_w50, sz_r50, sz_p50, sz_w51, sz_r51, sz_p51, sz_i52, sz_w52, sz_r52, sz_p52, sz_i53, sz_w53, sz_r53, sz_p53, sz_i54, sz_w54, sz_r54, sz_p54, sz_i55, sz_w55, sz_r55, sz_p55, sz_i56, sz_w56, sz_r56, sz_p56, sz_i57, sz_w57, sz_r57, sz_p57, sz_i58, sz_w58, sz_r58, sz_p58, sz_i59, sz_w59, sz_r59, sz_p59, sz_i60, sz_w60, sz_r60, sz_p60, sz_i61, sz_w61, sz_r61, sz_p61, sz_w62, sz_r62, sz_p62, sz_i63, sz_w63, sz_r63, sz_p63, sz_i64, sz_w64, sz_r64, sz_p64, sz_i65, sz_w65, sz_r65, sz_p65, sz_i66, sz_w66, sz_r66, sz_p66, sz_i67, sz_w67, sz_r67, sz_p67, sz_i68, sz_w68, sz_r68, sz_p68, sz_i69, sz_w69, sz_r69, sz_p69, sz_i70, sz_w70, sz_r70, sz_p70, sz_w71, sz_r71, sz_p71, sz_i72, sz_w72, sz_r72, sz_p72, sz_i73, sz_w73, sz_r73, sz_p73, sz_i74, sz_w74, sz_r74, sz_p74, sz_i75, sz_w75, sz_r75, sz_p75, sz_q2, sz_g2, sz_q3, sz_g3, sz_q12, sz_g12, sz_q16, sz_g16, sz_q26, sz_g26, sz_q29, sz_g29, sz_i90, sz_r90, sz_i91, sz_r91, sz_i92, sz_r92, sz_i93, sz_r93, sz_i94, sz_r94, sz_i95, sz_r95, sz_i99, sz_r99, sz_c0, sz_c1, sz_c2, sz_c3, Option.toList, List.cons_append, List.nil_append, sp_h100, sp_h2, sp_h24, sp_h10, sp_h10L, not_false_eq_true, not_true, true_and, and_true, true_implies, false_implies, nI_toInt, nI_clamp, sp_st_ne, sp_st_eq, sp_st_up, nI_1, sp_12, hq2, sp_up, sp_st_st, sp_st_eq]
      repeat' (first | apply And.intro | (intro _))
      all_goals first | contradiction | decide | omega | exact fin
end SPYX
