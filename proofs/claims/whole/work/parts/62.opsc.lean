section SPOC
variable {xs : Nat → Int32} {N : Nat} {σ : sl_S} {kd cl mt mc : Nat → Nat} {nT nM nW nR nF : Nat} {Q : Option sl_V → sl_S → Prop}
theorem jg_new {M : Nat → Nat → Int32} (h5 : M 5 nM = 0) (h6 : M 6 nM = 0) : jg (sl_u2 (sl_u2 (sl_u2 M 5 nM 0) 6 nM 0) 7 nM (-1)) (nM + 1) = jg M nM := by
  funext k j
  by_cases e7 : k = 7
  · subst e7
    show (if 7 = 7 ∧ ¬ j < nM + 1 then -1 else sl_u1 (M 7) nM (-1) j) = (if 7 = 7 ∧ ¬ j < nM then -1 else M 7 j)
    by_cases ej : j = nM
    · subst ej
      rw [sp_u1_eq]
      simp
    · rw [sp_u1_ne ej]
      by_cases el : j < nM
      · rw [if_neg (fun h => h.2 (by omega)), if_neg (fun h => h.2 el)]
      · rw [if_pos ⟨rfl, by omega⟩, if_pos ⟨rfl, el⟩]
  · simp only [jg]
    rw [if_neg (fun h => e7 h.1), if_neg (fun h => e7 h.1), sp_u2_ne e7]
    by_cases e6 : k = 6
    · subst e6
      rw [sp_u2_eq, sp_u2_ne (by decide)]
      by_cases ej : j = nM
      · rw [ej, sp_u1_eq, h6]
      · rw [sp_u1_ne ej]
    · rw [sp_u2_ne e6]
      by_cases e5 : k = 5
      · subst e5
        rw [sp_u2_eq]
        by_cases ej : j = nM
        · rw [ej, sp_u1_eq, h5]
        · rw [sp_u1_ne ej]
      · rw [sp_u2_ne e5]
theorem jL_dr {C M R : Nat → Nat → Int32} {zT zM : Nat} (h6 : nM < 6) (hz : zM ≤ nM) (hL : jL C M R cl nT nM nW zT zM) : jL C M R cl nT (nM + 1) nW zT zM := by
  obtain ⟨a1, a2, ⟨b1, b2, b3, b4, b5, b6⟩, z, a5⟩ := hL
  refine ⟨a1, a2, ⟨b1, b2, b3, ?_, b5, b6⟩, z, a5⟩
  intro f hf
  by_cases e : f < nM
  · exact b4 f e
  · obtain ⟨y1, y2, y3⟩ := z.2.1 f (by omega) (by omega)
    rw [y1]
    exact ⟨⟨by decide, by decide⟩, y3⟩
theorem jJ.mouth (h : jJ σ kd cl mt mc nT nM nW nR nF) (h6 : nM < 6) {t c : Nat} (ht : t < nT) (hc : c < cl t) : jJ (sp_st (sp_st (sp_st σ 5 (sl_u2 (sl_u2 (sl_u2 (σ 5) 6 nM (nI t)) 7 nM (nI c)) 0 1 (nI (nM + 1)))) 4 (sl_u2 (sl_u2 (sl_u2 (σ 4) 5 nM 0) 6 nM 0) 7 nM (-1))) 6 (sl_u2 (sl_u2 (sl_u2 (σ 6) 6 nM (nI t)) 7 nM (nI c)) 0 1 (nI (nM + 1)))) kd cl (fun f => if f = nM then t else mt f) (fun f => if f = nM then c else mc f) nT (nM + 1) nW nR nF := by
  obtain ⟨⟨r1, r2, r3, r4, ⟨s1, s2, s3, s4, s5, s6⟩, r6, r7⟩, hL, ⟨⟨i1, i2, i3⟩, io⟩, hS⟩ := h
  have hL2 := hL
  obtain ⟨a1, a2, ⟨b1, b2, b3, b4, b5, b6⟩, ⟨z1, z2, z3⟩, a5⟩ := hL2
  refine ⟨⟨jU (jU (jU r1)), r2, r3, r4, ⟨s1, s2, s3, rfl, by omega, ?_⟩, r6, r7⟩, ⟨?_, a2, ⟨b1, b2, b3, ?_, b5, b6⟩, ⟨z1, ?_, ?_⟩, a5⟩, ⟨⟨i1, i2, ?_⟩, io⟩, hS⟩
  · intro f hf
    show sl_u1 (σ 6 6) nM (nI t) f = _ ∧ _ ∧ sl_u1 (σ 6 7) nM (nI c) f = _ ∧ _
    by_cases e : f = nM
    · rw [e, sp_u1_eq, sp_u1_eq]
      simp only [if_true]
      exact ⟨trivial, ht, trivial, hc⟩
    · rw [sp_u1_ne e, sp_u1_ne e]
      simp only [e, if_false]
      exact s6 f (by omega)
  · obtain ⟨y1, y2, -⟩ := z2 nM (Nat.le_refl _) h6
    show σ 1 = sp_mx (jg (sl_u2 (sl_u2 (sl_u2 (σ 4) 5 nM 0) 6 nM 0) 7 nM (-1)) (nM + 1)) (σ 1)
    rw [jg_new y1 y2]
    exact a1
  · intro f hf
    show (0 ≤ (sl_u1 (σ 4 5) nM 0 f).toInt ∧ (sl_u1 (σ 4 5) nM 0 f).toInt ≤ 50) ∧ -1 ≤ (sl_u1 (σ 4 7) nM (-1) f).toInt
    by_cases e : f = nM
    · rw [e, sp_u1_eq, sp_u1_eq]
      decide
    · rw [sp_u1_ne e, sp_u1_ne e]
      exact b4 f (by omega)
  · intro f hf hf6
    show sl_u1 (σ 4 5) nM 0 f = 0 ∧ sl_u1 (σ 4 6) nM 0 f = 0 ∧ -1 ≤ (sl_u1 (σ 4 7) nM (-1) f).toInt
    rw [sp_u1_ne (by omega), sp_u1_ne (by omega), sp_u1_ne (by omega)]
    exact z2 f (by omega) hf6
  · exact jz_u2 (jz_u2 (jz_u2 z3 (.inr (.inl (by unfold sp_rg; omega)))) (.inr (.inl (by unfold sp_rg; omega)))) (.inl rfl)
  · intro hb
    obtain ⟨kT, kM, M, a1, a2, a3, a4, a5, a6⟩ := i3 hb
    exact ⟨kT, kM, M, a1, a2, a3, by omega, jL_dr h6 a4 a5, a6⟩
theorem o_feed (h : jJ σ kd cl mt mc nT nM nW nR nF) (t c : Int32) : sl_Go xs N 50 0 [some (.inr (.inr (0, 0, 0))), some (.inl t), some (.inl c)] [] σ (jQ xs N 103 [some (.inr (.inr (40, 0, 0))), some (.inl t), some (.inl c)]) := by
  have e0 := h.rc 0 (by decide) (by decide)
  have e2 := h.rc 2 (by decide) (by decide)
  obtain ⟨hT, h5, hc, hM, hM6, -⟩ := h.sh
  have hA := h.a
  unfold jQ
  by_cases ht : 0 ≤ t ∧ t ≤ nI nT - 1
  · obtain ⟨t', ht', rfl⟩ := (j_tank (by omega)).mp ht
    obtain ⟨c1, c2, c3⟩ := hc t' ht'
    have t5 : t' < 5 := by omega
    by_cases hb : 0 ≤ c ∧ c ≤ nI (cl t') - 1
    · obtain ⟨c', hc', rfl⟩ := (j_tank (by omega)).mp hb
      by_cases h66 : nM = 6
      · have hM6 : nI nM = 6 := by rw [h66]; rfl
        simp (disch := omega) only [g50_0, g50_1, g50_4, g50_5, g50_8, g50_11, g50_12, g50_13, g50_14, g50_17, g50_20, g50_21, g50_22, g50_23, g50_26, g50_29, g50_31, g50_32, g50_33, g50_36, g50_37, g50_38, g50_41, g27_0, g27_1, g27_4, g27_6, g27_9, g27_11, g103_0, g103_1, g103_2, g103_5, g103_8, g103_9, g103_10, g103_11, g103_12, g103_13, g103_14, g103_17, g103_18, g103_19, g103_20, g103_21, g103_24, g103_27, g103_29, g103_30, g103_31, g103_34, g103_36, g103_39, g103_41, sz_i4, sz_w4, sz_r4, sz_p4, sz_i5, sz_w5, sz_r5, sz_p5, sz_i6, sz_w6, sz_r6, sz_p6, sz_i7, sz_w7, sz_r7, sz_p7, sz_i8, sz_w8, sz_r8, sz_p8, sz_i9, sz_w9, sz_r9, sz_p9, sz_i10, sz_w10, sz_r10, sz_p10, sz_i14, sz_w14, sz_r14, sz_p14, sz_i15, sz_w15, sz_r15, sz_p15, sz_i18, sz_w18, sz_r18, sz_p18, sz_i19, sz_w19, sz_r19, sz_p19, sz_w21, sz_r21, sz_p21, sz_i23, sz_w23, sz_r23, sz_p23, sz_i24, sz_w24, sz_r24, sz_p24, sz_i25, sz_w25, sz_r25, sz_p25, sz_i28, sz_w28, sz_r28, sz_p28, sz_i31, sz_w31, sz_r31, sz_p31, sz_i41, sz_w41, sz_r41, sz_p41, sz_i42, sz_w42, sz_r42, sz_p42, sz_i43, sz_w43, sz_r43, sz_p43, sz_i44, sz_w44, sz_r44, sz_p44, sz_i45, sz_w45, sz_r45, sz_p45, sz_i46, sz_w46, sz_r46, sz_p46, sz_i47, sz_w47, sz_r47, sz_p47, sz_i48, sz_w48, sz_r48, sz_p48, sz_i49, sz_w49, sz_r49, sz_p49, sz_i50, sz_w50, sz_r50, sz_p50, sz_w51, sz_r51, sz_p51, sz_i52, sz_w52, sz_r52, sz_p52, sz_i53, sz_w53, sz_r53, sz_p53, sz_i54, sz_w54, sz_r54, sz_p54, sz_i55, sz_w55, sz_r55, sz_p55, sz_i56, sz_w56, sz_r56, sz_p56, sz_i57, sz_w57, sz_r57, sz_p57, sz_i58, sz_w58, sz_r58, sz_p58, sz_i59, sz_w59, sz_r59, sz_p59, sz_i60, sz_w60, sz_r60, sz_p60, sz_i61, sz_w61, sz_r61, sz_p61, sz_w62, sz_r62, sz_p62, sz_i63, sz_w63, sz_r63, sz_p63, sz_i64, sz_w64, sz_r64, sz_p64, sz_i65, sz_w65, sz_r65, sz_p65, sz_i66, sz_w66, sz_r66, sz_p66, sz_i67, sz_w67, sz_r67, sz_p67, sz_i68, sz_w68, sz_r68, sz_p68, sz_i69, sz_w69, sz_r69, sz_p69, sz_i70, sz_w70, sz_r70, sz_p70, sz_w71, sz_r71, sz_p71, sz_i72, sz_w72, sz_r72, sz_p72, sz_i73, sz_w73, sz_r73, sz_p73, sz_i74, sz_w74, sz_r74, sz_p74, sz_i75, sz_w75, sz_r75, sz_p75, sz_q2, sz_g2, sz_q3, sz_g3, sz_q12, sz_g12, sz_q16, sz_g16, sz_q26, sz_g26, sz_q29, sz_g29, sz_i90, sz_r90, sz_i91, sz_r91, sz_i92, sz_r92, sz_i93, sz_r93, sz_i94, sz_r94, sz_i95, sz_r95, sz_i99, sz_r99, sz_c0, sz_c1, sz_c2, sz_c3, Option.toList, List.cons_append, List.nil_append, sp_h100, sp_h2, sp_h24, sp_h10, sp_h10L, not_false_eq_true, not_true, true_and, and_true, true_implies, false_implies, nI_toInt, nI_clamp, sp_st_ne, sp_st_eq, sp_st_up, nI_1, sp_12, c_hasTank, c_hasColumn, m_isTank, m_in, sp_b0, e0, e2, hT, c1, ht, hb, hM, hM6]
        repeat' (first | apply And.intro | (intro _))
        all_goals first | contradiction | exact j_end rfl hA | decide | omega
      · have hM6 : ¬ nI nM = 6 := fun e => h66 (by
          have := congrArg Int32.toInt e
          rw [nI_toInt (by omega)] at this
          have e5 : (6 : Int32).toInt = 6 := rfl
          omega)
        simp (disch := omega) only [g50_0, g50_1, g50_4, g50_5, g50_8, g50_11, g50_12, g50_13, g50_14, g50_17, g50_20, g50_21, g50_22, g50_23, g50_26, g50_29, g50_31, g50_32, g50_33, g50_36, g50_37, g50_38, g50_41, g27_0, g27_1, g27_4, g27_6, g27_9, g27_11, g27_12, g27_13, g27_16, g27_17, g27_20, g27_21, g27_22, g27_23, g27_26, g27_27, g27_30, g27_31, g27_32, g27_33i, g27_33r, g27_34, g27_37, g27_38, g27_39, g27_42, g27_43, g27_46, g27_47, g27_48, g103_0, g103_1, g103_2, g103_5, g103_8, g103_9, g103_10, g103_11, g103_12, g103_13, g103_14, g103_17, g103_18, g103_19, g103_20, g103_21, g103_24, g103_27, g103_29, g103_30, g103_31, g103_34, g103_36, g103_39, g103_41, g103_42, g103_43, g103_46, g103_47, g103_50, g103_51, g103_52, g103_53, g103_56, g103_57, g103_60, g103_61, g103_62, g103_63, g103_66, g103_67, g103_70, g103_71, g103_72, g103_73, g103_76, g103_77, g103_80, g103_81, g103_82, g103_83, g103_86, g103_87, g103_90, g103_91, g103_92, g103_93i, g103_93r, g103_94, g103_97, g103_98, g103_99, g103_102, g103_103, g103_106, g103_107, g103_108, sz_i4, sz_w4, sz_r4, sz_p4, sz_i5, sz_w5, sz_r5, sz_p5, sz_i6, sz_w6, sz_r6, sz_p6, sz_i7, sz_w7, sz_r7, sz_p7, sz_i8, sz_w8, sz_r8, sz_p8, sz_i9, sz_w9, sz_r9, sz_p9, sz_i10, sz_w10, sz_r10, sz_p10, sz_i14, sz_w14, sz_r14, sz_p14, sz_i15, sz_w15, sz_r15, sz_p15, sz_i18, sz_w18, sz_r18, sz_p18, sz_i19, sz_w19, sz_r19, sz_p19, sz_w21, sz_r21, sz_p21, sz_i23, sz_w23, sz_r23, sz_p23, sz_i24, sz_w24, sz_r24, sz_p24, sz_i25, sz_w25, sz_r25, sz_p25, sz_i28, sz_w28, sz_r28, sz_p28, sz_i31, sz_w31, sz_r31, sz_p31, sz_i41, sz_w41, sz_r41, sz_p41, sz_i42, sz_w42, sz_r42, sz_p42, sz_i43, sz_w43, sz_r43, sz_p43, sz_i44, sz_w44, sz_r44, sz_p44, sz_i45, sz_w45, sz_r45, sz_p45, sz_i46, sz_w46, sz_r46, sz_p46, sz_i47, sz_w47, sz_r47, sz_p47, sz_i48, sz_w48, sz_r48, sz_p48, sz_i49, sz_w49, sz_r49, sz_p49, sz_i50, sz_w50, sz_r50, sz_p50, sz_w51, sz_r51, sz_p51, sz_i52, sz_w52, sz_r52, sz_p52, sz_i53, sz_w53, sz_r53, sz_p53, sz_i54, sz_w54, sz_r54, sz_p54, sz_i55, sz_w55, sz_r55, sz_p55, sz_i56, sz_w56, sz_r56, sz_p56, sz_i57, sz_w57, sz_r57, sz_p57, sz_i58, sz_w58, sz_r58, sz_p58, sz_i59, sz_w59, sz_r59, sz_p59, sz_i60, sz_w60, sz_r60, sz_p60, sz_i61, sz_w61, sz_r61, sz_p61, sz_w62, sz_r62, sz_p62, sz_i63, sz_w63, sz_r63, sz_p63, sz_i64, sz_w64, sz_r64, sz_p64, sz_i65, sz_w65, sz_r65, sz_p65, sz_i66, sz_w66, sz_r66, sz_p66, sz_i67, sz_w67, sz_r67, sz_p67, sz_i68, sz_w68, sz_r68, sz_p68, sz_i69, sz_w69, sz_r69, sz_p69, sz_i70, sz_w70, sz_r70, sz_p70, sz_w71, sz_r71, sz_p71, sz_i72, sz_w72, sz_r72, sz_p72, sz_i73, sz_w73, sz_r73, sz_p73, sz_i74, sz_w74, sz_r74, sz_p74, sz_i75, sz_w75, sz_r75, sz_p75, sz_q2, sz_g2, sz_q3, sz_g3, sz_q12, sz_g12, sz_q16, sz_g16, sz_q26, sz_g26, sz_q29, sz_g29, sz_i90, sz_r90, sz_i91, sz_r91, sz_i92, sz_r92, sz_i93, sz_r93, sz_i94, sz_r94, sz_i95, sz_r95, sz_i99, sz_r99, sz_c0, sz_c1, sz_c2, sz_c3, Option.toList, List.cons_append, List.nil_append, sp_h100, sp_h2, sp_h24, sp_h10, sp_h10L, not_false_eq_true, not_true, true_and, and_true, true_implies, false_implies, nI_toInt, nI_clamp, sp_st_ne, sp_st_eq, sp_st_up, nI_1, sp_12, c_hasTank, c_hasColumn, m_isTank, m_in, sp_b0, e0, e2, hT, c1, ht, hb, hM, hM6, sp_up, sp_st_st, sp_st_eq, sp_st_ne, sp_u2_ne, sp_u2_eq, sp_u1_eq]
        repeat' (first | apply And.intro | (intro _))
        all_goals try first | contradiction | exact j_end rfl hA | decide | omega
        all_goals exact j_end rfl (h.mouth (by omega) ht' hc').a
    · simp (disch := omega) only [g50_0, g50_1, g50_4, g50_5, g50_8, g50_11, g50_12, g50_13, g50_14, g50_17, g50_20, g50_21, g50_22, g50_23, g50_26, g50_29, g50_31, g103_0, g103_1, g103_2, g103_5, g103_8, g103_9, g103_10, g103_11, g103_12, g103_13, g103_14, g103_17, g103_18, g103_19, g103_20, g103_21, g103_24, g103_27, g103_29, sz_i4, sz_w4, sz_r4, sz_p4, sz_i5, sz_w5, sz_r5, sz_p5, sz_i6, sz_w6, sz_r6, sz_p6, sz_i7, sz_w7, sz_r7, sz_p7, sz_i8, sz_w8, sz_r8, sz_p8, sz_i9, sz_w9, sz_r9, sz_p9, sz_i10, sz_w10, sz_r10, sz_p10, sz_i14, sz_w14, sz_r14, sz_p14, sz_i15, sz_w15, sz_r15, sz_p15, sz_i18, sz_w18, sz_r18, sz_p18, sz_i19, sz_w19, sz_r19, sz_p19, sz_w21, sz_r21, sz_p21, sz_i23, sz_w23, sz_r23, sz_p23, sz_i24, sz_w24, sz_r24, sz_p24, sz_i25, sz_w25, sz_r25, sz_p25, sz_i28, sz_w28, sz_r28, sz_p28, sz_i31, sz_w31, sz_r31, sz_p31, sz_i41, sz_w41, sz_r41, sz_p41, sz_i42, sz_w42, sz_r42, sz_p42, sz_i43, sz_w43, sz_r43, sz_p43, sz_i44, sz_w44, sz_r44, sz_p44, sz_i45, sz_w45, sz_r45, sz_p45, sz_i46, sz_w46, sz_r46, sz_p46, sz_i47, sz_w47, sz_r47, sz_p47, sz_i48, sz_w48, sz_r48, sz_p48, sz_i49, sz_w49, sz_r49, sz_p49, sz_i50, sz_w50, sz_r50, sz_p50, sz_w51, sz_r51, sz_p51, sz_i52, sz_w52, sz_r52, sz_p52, sz_i53, sz_w53, sz_r53, sz_p53, sz_i54, sz_w54, sz_r54, sz_p54, sz_i55, sz_w55, sz_r55, sz_p55, sz_i56, sz_w56, sz_r56, sz_p56, sz_i57, sz_w57, sz_r57, sz_p57, sz_i58, sz_w58, sz_r58, sz_p58, sz_i59, sz_w59, sz_r59, sz_p59, sz_i60, sz_w60, sz_r60, sz_p60, sz_i61, sz_w61, sz_r61, sz_p61, sz_w62, sz_r62, sz_p62, sz_i63, sz_w63, sz_r63, sz_p63, sz_i64, sz_w64, sz_r64, sz_p64, sz_i65, sz_w65, sz_r65, sz_p65, sz_i66, sz_w66, sz_r66, sz_p66, sz_i67, sz_w67, sz_r67, sz_p67, sz_i68, sz_w68, sz_r68, sz_p68, sz_i69, sz_w69, sz_r69, sz_p69, sz_i70, sz_w70, sz_r70, sz_p70, sz_w71, sz_r71, sz_p71, sz_i72, sz_w72, sz_r72, sz_p72, sz_i73, sz_w73, sz_r73, sz_p73, sz_i74, sz_w74, sz_r74, sz_p74, sz_i75, sz_w75, sz_r75, sz_p75, sz_q2, sz_g2, sz_q3, sz_g3, sz_q12, sz_g12, sz_q16, sz_g16, sz_q26, sz_g26, sz_q29, sz_g29, sz_i90, sz_r90, sz_i91, sz_r91, sz_i92, sz_r92, sz_i93, sz_r93, sz_i94, sz_r94, sz_i95, sz_r95, sz_i99, sz_r99, sz_c0, sz_c1, sz_c2, sz_c3, Option.toList, List.cons_append, List.nil_append, sp_h100, sp_h2, sp_h24, sp_h10, sp_h10L, not_false_eq_true, not_true, true_and, and_true, true_implies, false_implies, nI_toInt, nI_clamp, sp_st_ne, sp_st_eq, sp_st_up, nI_1, sp_12, c_hasTank, c_hasColumn, m_isTank, m_in, sp_b0, e0, e2, hT, c1, ht, hb]
      repeat' (first | apply And.intro | (intro _))
      all_goals first | contradiction | exact j_end rfl hA | decide | omega
  · simp (disch := omega) only [g50_0, g50_1, g50_4, g50_5, g50_8, g50_11, g50_12, g103_0, g103_1, g103_2, g103_5, g103_8, g103_9, sz_i4, sz_w4, sz_r4, sz_p4, sz_i5, sz_w5, sz_r5, sz_p5, sz_i6, sz_w6, sz_r6, sz_p6, sz_i7, sz_w7, sz_r7, sz_p7, sz_i8, sz_w8, sz_r8, sz_p8, sz_i9, sz_w9, sz_r9, sz_p9, sz_i10, sz_w10, sz_r10, sz_p10, sz_i14, sz_w14, sz_r14, sz_p14, sz_i15, sz_w15, sz_r15, sz_p15, sz_i18, sz_w18, sz_r18, sz_p18, sz_i19, sz_w19, sz_r19, sz_p19, sz_w21, sz_r21, sz_p21, sz_i23, sz_w23, sz_r23, sz_p23, sz_i24, sz_w24, sz_r24, sz_p24, sz_i25, sz_w25, sz_r25, sz_p25, sz_i28, sz_w28, sz_r28, sz_p28, sz_i31, sz_w31, sz_r31, sz_p31, sz_i41, sz_w41, sz_r41, sz_p41, sz_i42, sz_w42, sz_r42, sz_p42, sz_i43, sz_w43, sz_r43, sz_p43, sz_i44, sz_w44, sz_r44, sz_p44, sz_i45, sz_w45, sz_r45, sz_p45, sz_i46, sz_w46, sz_r46, sz_p46, sz_i47, sz_w47, sz_r47, sz_p47, sz_i48, sz_w48, sz_r48, sz_p48, sz_i49, sz_w49, sz_r49, sz_p49, sz_i50, sz_w50, sz_r50, sz_p50, sz_w51, sz_r51, sz_p51, sz_i52, sz_w52, sz_r52, sz_p52, sz_i53, sz_w53, sz_r53, sz_p53, sz_i54, sz_w54, sz_r54, sz_p54, sz_i55, sz_w55, sz_r55, sz_p55, sz_i56, sz_w56, sz_r56, sz_p56, sz_i57, sz_w57, sz_r57, sz_p57, sz_i58, sz_w58, sz_r58, sz_p58, sz_i59, sz_w59, sz_r59, sz_p59, sz_i60, sz_w60, sz_r60, sz_p60, sz_i61, sz_w61, sz_r61, sz_p61, sz_w62, sz_r62, sz_p62, sz_i63, sz_w63, sz_r63, sz_p63, sz_i64, sz_w64, sz_r64, sz_p64, sz_i65, sz_w65, sz_r65, sz_p65, sz_i66, sz_w66, sz_r66, sz_p66, sz_i67, sz_w67, sz_r67, sz_p67, sz_i68, sz_w68, sz_r68, sz_p68, sz_i69, sz_w69, sz_r69, sz_p69, sz_i70, sz_w70, sz_r70, sz_p70, sz_w71, sz_r71, sz_p71, sz_i72, sz_w72, sz_r72, sz_p72, sz_i73, sz_w73, sz_r73, sz_p73, sz_i74, sz_w74, sz_r74, sz_p74, sz_i75, sz_w75, sz_r75, sz_p75, sz_q2, sz_g2, sz_q3, sz_g3, sz_q12, sz_g12, sz_q16, sz_g16, sz_q26, sz_g26, sz_q29, sz_g29, sz_i90, sz_r90, sz_i91, sz_r91, sz_i92, sz_r92, sz_i93, sz_r93, sz_i94, sz_r94, sz_i95, sz_r95, sz_i99, sz_r99, sz_c0, sz_c1, sz_c2, sz_c3, Option.toList, List.cons_append, List.nil_append, sp_h100, sp_h2, sp_h24, sp_h10, sp_h10L, not_false_eq_true, not_true, true_and, and_true, true_implies, false_implies, nI_toInt, nI_clamp, sp_st_ne, sp_st_eq, sp_st_up, nI_1, sp_12, c_hasTank, m_isTank, sp_b0, e0, hT, ht]
    repeat' (first | apply And.intro | (intro _))
    all_goals first | contradiction | exact j_end rfl hA | decide | omega
end SPOC
