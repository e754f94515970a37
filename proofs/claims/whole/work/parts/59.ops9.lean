section SPO9
variable {xs : Nat → Int32} {N : Nat} {σ : sl_S} {kd cl mt mc : Nat → Nat} {nT nM nW nR nF : Nat} {Q : Option sl_V → sl_S → Prop}
/-- a rig with one more tank -/
def jTk (R : Nat → Nat → Int32) (n : Nat) (k c h p : Int32) : Nat → Nat → Int32 := sl_u2 (sl_u2 (sl_u2 (sl_u2 (sl_u2 R 1 n k) 2 n c) 3 n h) 4 n p) 0 0 (nI (n + 1))
theorem jL_tank {C M R : Nat → Nat → Int32} {k c h p : Int32} {c' zT zT' zM : Nat} (h5 : nT < 5) (hL : jL C M R cl nT nM nW zT zM) (hz : zT ≤ nT) (hz' : zT ≤ zT') (hc : c' ≤ 12) (hh : 1 ≤ h.toInt) : jL C M (jTk R nT k c h p) (fun t => if t = nT then c' else cl t) (nT + 1) nM nW zT' zM := by
  obtain ⟨a1, a2, ⟨b1, b2, b3, b4, b5, b6⟩, ⟨z1, z2⟩, a5⟩ := hL
  refine ⟨a1, a2, ⟨?_, b2, b3, b4, b5, b6⟩, ⟨fun t ht => z1 t (by omega), z2⟩, a5⟩
  intro t ht d hd
  have e0 : (0 : Int32).toInt = 0 := rfl
  by_cases e : t = nT
  · simp only [e, if_true] at hd
    obtain ⟨x1, x2⟩ := (z1 nT hz h5).1 d (by omega)
    rw [e, x1, x2]
    show (0 ≤ (0 : Int32).toInt ∧ (0 : Int32).toInt ≤ (sl_u1 (R 3) nT h nT).toInt) ∧ sp_sm 30000 0
    rw [sp_u1_eq, e0]
    exact ⟨⟨by omega, by omega⟩, ⟨by decide, by decide⟩⟩
  · simp only [e, if_false] at hd
    show (0 ≤ (M 1 (12 * t + d)).toInt ∧ (M 1 (12 * t + d)).toInt ≤ (sl_u1 (R 3) nT h t).toInt) ∧ sp_sm 30000 (M 2 (12 * t + d))
    rw [sp_u1_ne e]
    exact b1 t (by omega) d hd
theorem jU {P R : Nat → Nat → Int32} {a i : Nat} {v : Int32} (h : ∀ k, k < 8 → ¬ k = 5 → P k = R k) : ∀ k, k < 8 → ¬ k = 5 → sl_u2 P a i v k = sl_u2 R a i v k := by
  intro k hk hk5
  simp only [sl_u2]
  by_cases e : k = a
  · subst e
    rw [if_pos rfl, if_pos rfl, h k hk hk5]
  · rw [if_neg e, if_neg e, h k hk hk5]
theorem jJ.tank (h : jJ σ kd cl mt mc nT nM nW nR nF) (h5 : nT < 5) {k' c' : Nat} {l p : Int32} (hk : k' < 6) (hc2 : 2 ≤ c') (hc : c' ≤ 12) (hl : 1 ≤ l.toInt ∧ l.toInt ≤ 99) (hp : sp_sm 50 p) : jJ (sp_st (sp_st σ 5 (jTk (σ 5) nT (nI k') (nI c') l p)) 6 (jTk (σ 6) nT (nI k') (nI c') l p)) (fun t => if t = nT then k' else kd t) (fun t => if t = nT then c' else cl t) mt mc (nT + 1) nM nW nR nF := by
  obtain ⟨⟨r1, r2, r3, r4, ⟨s1, s2, s3, s4, s5, s6⟩, r6, k1, k2⟩, hL, ⟨⟨i1, i2, i3⟩, io⟩, hS⟩ := h
  refine ⟨⟨jU (jU (jU (jU (jU r1)))), r2, r3, r4, ⟨rfl, by omega, ?_, s4, s5, ?_⟩, ?_, ?_, k2⟩, jL_tank h5 hL (by omega) (by omega) hc hl.1, ⟨⟨i1, i2, ?_⟩, io⟩, ?_⟩
  · intro t ht
    show sl_u1 (σ 6 2) nT (nI c') t = nI (if t = nT then c' else cl t) ∧ _
    by_cases e : t = nT
    · rw [e, sp_u1_eq]
      simp only [if_true]
      exact ⟨trivial, hc2, hc⟩
    · rw [sp_u1_ne e]
      simp only [e, if_false]
      exact s3 t (by omega)
  · intro f hf
    obtain ⟨a1, a2, a3, a4⟩ := s6 f hf
    refine ⟨a1, by omega, a3, ?_⟩
    have e : ¬ mt f = nT := by omega
    simp only [e, if_false]
    exact a4
  · intro t ht
    show sl_u1 (σ 6 1) nT (nI k') t = nI (if t = nT then k' else kd t) ∧ _
    by_cases e : t = nT
    · rw [e, sp_u1_eq]
      simp only [if_true]
      exact ⟨trivial, hk⟩
    · rw [sp_u1_ne e]
      simp only [e, if_false]
      exact r6 t (by omega)
  · intro t ht
    show (1 ≤ (sl_u1 (σ 6 3) nT l t).toInt ∧ (sl_u1 (σ 6 3) nT l t).toInt ≤ 99) ∧ sp_sm 50 (sl_u1 (σ 6 4) nT p t)
    by_cases e : t = nT
    · rw [e, sp_u1_eq, sp_u1_eq]
      exact ⟨hl, hp⟩
    · rw [sp_u1_ne e, sp_u1_ne e]
      exact k1 t (by omega)
  · intro hb
    obtain ⟨kT, kM, M, a1, a2, a3, a4, a5, a6⟩ := i3 hb
    exact ⟨kT, kM, M, a1, a2, by omega, a4, jL_tank h5 a5 (by omega) (by omega) hc hl.1, a6⟩
  · obtain ⟨a1, a2, a3, a4, a5, a6, a7, a8, a9, a10, a11⟩ := hS
    refine ⟨a1, a2, a3, a4, a5, a6, a7, a8, a9, ?_, a11⟩
    intro r hr
    obtain ⟨⟨t, c, l, b1, b2, b3, b4, b5, b6, b7⟩, b8⟩ := a10 r hr
    refine ⟨⟨t, c, l, by omega, ?_, b3, b4, b5, b6, b7⟩, b8⟩
    have e : ¬ t = nT := by omega
    simp only [e, if_false]
    exact b2
theorem o_tank (h : jJ σ kd cl mt mc nT nM nW nR nF) (k c l p : Int32) : sl_Go xs N 47 0 [some (.inr (.inr (0, 0, 0))), some (.inl k), some (.inl c), some (.inl l), some (.inl p)] [] σ (jQ xs N 99 [some (.inr (.inr (40, 0, 0))), some (.inl k), some (.inl c), some (.inl l), some (.inl p)]) := by
  have e0 := h.rc 0 (by decide) (by decide)
  have hA := h.a
  obtain ⟨hT, h5, hc, hM, hM6, hm⟩ := h.sh
  unfold jQ
  by_cases hk : 0 ≤ k ∧ k ≤ 5
  · by_cases hc : 2 ≤ c ∧ c ≤ 12
    · by_cases hl : 1 ≤ l ∧ l ≤ 99
      · by_cases hp : -50 ≤ p ∧ p ≤ 50
        · by_cases h55 : nT = 5
          · have hT5 : nI nT = 5 := by rw [h55]; rfl
            simp (disch := omega) only [g47_0, g47_1, g47_4, g47_5, g47_6, g47_7, g47_9, g47_12, g26_0, g26_1, g26_4, g26_7, g26_8, g26_9, g26_11, g26_14, g26_17, g26_18, g26_19, g26_21, g26_24, g26_27, g26_29, g26_31, g26_33, g26_36, g26_39, g26_41, g26_42, g26_43, g26_46, g26_47, g26_50, g26_52, g26_53, g26_54, g26_57, g26_58, g26_61, g26_62n, g26_62i, g26_62r, g26_64, g26_66, g26_67, g26_70, g26_72, g26_73, g26_76, g26_78, g26_79, g26_82, g26_84, g26_86, g26_89, g26_90i, g26_90r, g26_91, g26_94, g26_95, g26_96, g26_99, g26_100, g26_103, g26_104, g26_105, g4_0, g4_1, g4_2, g4_3, g4_6, g99_0, g99_1, g99_2, g99_3, g99_4, g99_7, g99_10, g99_11, g99_12, g99_13, g99_15, g99_18, g99_21, g99_22, g99_23, g99_24, g99_26, g99_29, g99_32, g99_33, g99_35, g99_37, g99_39, g99_42, g99_45, g99_47, g99_48, g99_49, g99_52, g99_53, g99_56, g99_58, g99_59, g99_60, g99_63, g99_64, g99_67, g99_68, g99_69, g99_70, g99_73, g99_74, g99_77, g99_78, g99_79, g99_80, g99_83, g99_84, g99_87, g99_88, g99_89, g99_90, g99_93, g99_94, g99_97, g99_99, g99_100, g99_101i, g99_101r, g99_102, g99_105, g99_106, g99_107, g99_110, g99_111, g99_114, g99_115, g99_116, sz_i4, sz_w4, sz_r4, sz_p4, sz_i5, sz_w5, sz_r5, sz_p5, sz_i6, sz_w6, sz_r6, sz_p6, sz_i7, sz_w7, sz_r7, sz_p7, sz_i8, sz_w8, sz_r8, sz_p8, sz_i9, sz_w9, sz_r9, sz_p9, sz_i10, sz_w10, sz_r10, sz_p10, sz_i14, sz_w14, sz_r14, sz_p14, sz_i15, sz_w15, sz_r15, sz_p15, sz_i18, sz_w18, sz_r18, sz_p18, sz_i19, sz_w19, sz_r19, sz_p19, sz_w21, sz_r21, sz_p21, sz_i23, sz_w23, sz_r23, sz_p23, sz_i24, sz_w24, sz_r24, sz_p24, sz_i25, sz_w25, sz_r25, sz_p25, sz_i28, sz_w28, sz_r28, sz_p28, sz_i31, sz_w31, sz_r31, sz_p31, sz_i41, sz_w41, sz_r41, sz_p41, sz_i42, sz_w42, sz_r42, sz_p42, sz_i43, sz_w43, sz_r43, sz_p43, sz_i44, sz_w44, sz_r44, sz_p44, sz_i45, sz_w45, sz_r45, sz_p45, sz_i46, sz_w46, sz_r46, sz_p46, sz_i47, sz_w47, sz_r47, sz_p47, sz_i48, sz_w48, sz_r48, sz_p48, sz_i49, sz_w49, sz_r49, sz_p49, sz_i50, sz_w50, sz_r50, sz_p50, sz_w51, sz_r51, sz_p51, sz_i52, sz_w52, sz_r52, sz_p52, sz_i53, sz_w53, sz_r53, sz_p53, sz_i54, sz_w54, sz_r54, sz_p54, sz_i55, sz_w55, sz_r55, sz_p55, sz_i56, sz_w56, sz_r56, sz_p56, sz_i57, sz_w57, sz_r57, sz_p57, sz_i58, sz_w58, sz_r58, sz_p58, sz_i59, sz_w59, sz_r59, sz_p59, sz_i60, sz_w60, sz_r60, sz_p60, sz_i61, sz_w61, sz_r61, sz_p61, sz_w62, sz_r62, sz_p62, sz_i63, sz_w63, sz_r63, sz_p63, sz_i64, sz_w64, sz_r64, sz_p64, sz_i65, sz_w65, sz_r65, sz_p65, sz_i66, sz_w66, sz_r66, sz_p66, sz_i67, sz_w67, sz_r67, sz_p67, sz_i68, sz_w68, sz_r68, sz_p68, sz_i69, sz_w69, sz_r69, sz_p69, sz_i70, sz_w70, sz_r70, sz_p70, sz_w71, sz_r71, sz_p71, sz_i72, sz_w72, sz_r72, sz_p72, sz_i73, sz_w73, sz_r73, sz_p73, sz_i74, sz_w74, sz_r74, sz_p74, sz_i75, sz_w75, sz_r75, sz_p75, sz_q2, sz_g2, sz_q3, sz_g3, sz_q12, sz_g12, sz_q16, sz_g16, sz_q26, sz_g26, sz_q29, sz_g29, sz_i90, sz_r90, sz_i91, sz_r91, sz_i92, sz_r92, sz_i93, sz_r93, sz_i94, sz_r94, sz_i95, sz_r95, sz_i99, sz_r99, sz_c0, sz_c1, sz_c2, sz_c3, Option.toList, List.cons_append, List.nil_append, sp_h100, sp_h2, sp_h24, sp_h10, sp_h10L, not_false_eq_true, not_true, true_and, and_true, true_implies, false_implies, nI_toInt, nI_clamp, sp_st_ne, sp_st_eq, sp_st_up, nI_1, sp_12, c_within, m_in, sp_b0, e0, hT, hk, hc, hl, hp, hT5]
            repeat' (first | apply And.intro | (intro _))
            all_goals first | contradiction | exact j_end rfl hA | decide | omega
          · have hT5 : ¬ nI nT = 5 := fun e => h55 (by
              have := congrArg Int32.toInt e
              rw [nI_toInt (by omega)] at this
              have e5 : (5 : Int32).toInt = 5 := rfl
              omega)
            simp (disch := omega) only [g47_0, g47_1, g47_4, g47_5, g47_6, g47_7, g47_9, g47_12, g26_0, g26_1, g26_4, g26_7, g26_8, g26_9, g26_11, g26_14, g26_17, g26_18, g26_19, g26_21, g26_24, g26_27, g26_29, g26_31, g26_33, g26_36, g26_39, g26_41, g26_42, g26_43, g26_46, g26_47, g26_50, g26_52, g26_53, g26_54, g26_57, g26_58, g26_61, g26_62n, g26_62i, g26_62r, g26_64, g26_66, g26_67, g26_70, g26_72, g26_73, g26_76, g26_78, g26_79, g26_82, g26_84, g26_86, g26_89, g26_90i, g26_90r, g26_91, g26_94, g26_95, g26_96, g26_99, g26_100, g26_103, g26_104, g26_105, g4_0, g4_1, g4_2, g4_3, g4_6, g99_0, g99_1, g99_2, g99_3, g99_4, g99_7, g99_10, g99_11, g99_12, g99_13, g99_15, g99_18, g99_21, g99_22, g99_23, g99_24, g99_26, g99_29, g99_32, g99_33, g99_35, g99_37, g99_39, g99_42, g99_45, g99_47, g99_48, g99_49, g99_52, g99_53, g99_56, g99_58, g99_59, g99_60, g99_63, g99_64, g99_67, g99_68, g99_69, g99_70, g99_73, g99_74, g99_77, g99_78, g99_79, g99_80, g99_83, g99_84, g99_87, g99_88, g99_89, g99_90, g99_93, g99_94, g99_97, g99_99, g99_100, g99_101i, g99_101r, g99_102, g99_105, g99_106, g99_107, g99_110, g99_111, g99_114, g99_115, g99_116, sz_i4, sz_w4, sz_r4, sz_p4, sz_i5, sz_w5, sz_r5, sz_p5, sz_i6, sz_w6, sz_r6, sz_p6, sz_i7, sz_w7, sz_r7, sz_p7, sz_i8, sz_w8, sz_r8, sz_p8, sz_i9, sz_w9, sz_r9, sz_p9, sz_i10, sz_w10, sz_r10, sz_p10, sz_i14, sz_w14, sz_r14, sz_p14, sz_i15, sz_w15, sz_r15, sz_p15, sz_i18, sz_w18, sz_r18, sz_p18, sz_i19, sz_w19, sz_r19, sz_p19, sz_w21, sz_r21, sz_p21, sz_i23, sz_w23, sz_r23, sz_p23, sz_i24, sz_w24, sz_r24, sz_p24, sz_i25, sz_w25, sz_r25, sz_p25, sz_i28, sz_w28, sz_r28, sz_p28, sz_i31, sz_w31, sz_r31, sz_p31, sz_i41, sz_w41, sz_r41, sz_p41, sz_i42, sz_w42, sz_r42, sz_p42, sz_i43, sz_w43, sz_r43, sz_p43, sz_i44, sz_w44, sz_r44, sz_p44, sz_i45, sz_w45, sz_r45, sz_p45, sz_i46, sz_w46, sz_r46, sz_p46, sz_i47, sz_w47, sz_r47, sz_p47, sz_i48, sz_w48, sz_r48, sz_p48, sz_i49, sz_w49, sz_r49, sz_p49, sz_i50, sz_w50, sz_r50, sz_p50, sz_w51, sz_r51, sz_p51, sz_i52, sz_w52, sz_r52, sz_p52, sz_i53, sz_w53, sz_r53, sz_p53, sz_i54, sz_w54, sz_r54, sz_p54, sz_i55, sz_w55, sz_r55, sz_p55, sz_i56, sz_w56, sz_r56, sz_p56, sz_i57, sz_w57, sz_r57, sz_p57, sz_i58, sz_w58, sz_r58, sz_p58, sz_i59, sz_w59, sz_r59, sz_p59, sz_i60, sz_w60, sz_r60, sz_p60, sz_i61, sz_w61, sz_r61, sz_p61, sz_w62, sz_r62, sz_p62, sz_i63, sz_w63, sz_r63, sz_p63, sz_i64, sz_w64, sz_r64, sz_p64, sz_i65, sz_w65, sz_r65, sz_p65, sz_i66, sz_w66, sz_r66, sz_p66, sz_i67, sz_w67, sz_r67, sz_p67, sz_i68, sz_w68, sz_r68, sz_p68, sz_i69, sz_w69, sz_r69, sz_p69, sz_i70, sz_w70, sz_r70, sz_p70, sz_w71, sz_r71, sz_p71, sz_i72, sz_w72, sz_r72, sz_p72, sz_i73, sz_w73, sz_r73, sz_p73, sz_i74, sz_w74, sz_r74, sz_p74, sz_i75, sz_w75, sz_r75, sz_p75, sz_q2, sz_g2, sz_q3, sz_g3, sz_q12, sz_g12, sz_q16, sz_g16, sz_q26, sz_g26, sz_q29, sz_g29, sz_i90, sz_r90, sz_i91, sz_r91, sz_i92, sz_r92, sz_i93, sz_r93, sz_i94, sz_r94, sz_i95, sz_r95, sz_i99, sz_r99, sz_c0, sz_c1, sz_c2, sz_c3, Option.toList, List.cons_append, List.nil_append, sp_h100, sp_h2, sp_h24, sp_h10, sp_h10L, not_false_eq_true, not_true, true_and, and_true, true_implies, false_implies, nI_toInt, nI_clamp, sp_st_ne, sp_st_eq, sp_st_up, nI_1, sp_12, c_within, m_in, sp_b0, e0, hT, hk, hc, hl, hp, hT5, sp_up, sp_st_st, sp_st_eq, sp_st_ne, sp_u2_ne, sp_u2_eq, sp_u1_eq]
            repeat' (first | apply And.intro | (intro _))
            all_goals try first | contradiction | exact j_end rfl hA | decide | omega
            all_goals
              obtain ⟨k', hk', rfl⟩ := j_kind.mp hk
              have hc0 : 0 ≤ c ∧ c ≤ 12 := ⟨Int32.le_trans (by decide) hc.1, hc.2⟩
              obtain ⟨c', hc', rfl⟩ := (j_tank (n := 13) (by decide)).mp hc0
              have hc2 : 2 ≤ c' := by
                have := (sp_le _ _).mp hc.1
                rw [nI_toInt (by omega)] at this
                have e2 : (2 : Int32).toInt = 2 := rfl
                omega
              exact j_end rfl (h.tank (by omega) hk' hc2 (by omega) ⟨(sp_le _ _).mp hl.1, (sp_le _ _).mp hl.2⟩ ⟨(sp_le _ _).mp hp.1, (sp_le _ _).mp hp.2⟩).a
        · simp (disch := omega) only [g47_0, g47_1, g47_4, g47_5, g47_6, g47_7, g47_9, g47_12, g26_0, g26_1, g26_4, g26_7, g26_8, g26_9, g26_11, g26_14, g26_17, g26_18, g26_19, g26_21, g26_24, g26_27, g26_29, g26_31, g26_33, g26_36, g26_39, g26_41, g4_0, g4_1, g4_2, g4_3, g4_6, g99_0, g99_1, g99_2, g99_3, g99_4, g99_7, g99_10, g99_11, g99_12, g99_13, g99_15, g99_18, g99_21, g99_22, g99_23, g99_24, g99_26, g99_29, g99_32, g99_33, g99_35, g99_37, g99_39, g99_42, g99_45, g99_47, sz_i4, sz_w4, sz_r4, sz_p4, sz_i5, sz_w5, sz_r5, sz_p5, sz_i6, sz_w6, sz_r6, sz_p6, sz_i7, sz_w7, sz_r7, sz_p7, sz_i8, sz_w8, sz_r8, sz_p8, sz_i9, sz_w9, sz_r9, sz_p9, sz_i10, sz_w10, sz_r10, sz_p10, sz_i14, sz_w14, sz_r14, sz_p14, sz_i15, sz_w15, sz_r15, sz_p15, sz_i18, sz_w18, sz_r18, sz_p18, sz_i19, sz_w19, sz_r19, sz_p19, sz_w21, sz_r21, sz_p21, sz_i23, sz_w23, sz_r23, sz_p23, sz_i24, sz_w24, sz_r24, sz_p24, sz_i25, sz_w25, sz_r25, sz_p25, sz_i28, sz_w28, sz_r28, sz_p28, sz_i31, sz_w31, sz_r31, sz_p31, sz_i41, sz_w41, sz_r41, sz_p41, sz_i42, sz_w42, sz_r42, sz_p42, sz_i43, sz_w43, sz_r43, sz_p43, sz_i44, sz_w44, sz_r44, sz_p44, sz_i45, sz_w45, sz_r45, sz_p45, sz_i46, sz_w46, sz_r46, sz_p46, sz_i47, sz_w47, sz_r47, sz_p47, sz_i48, sz_w48, sz_r48, sz_p48, sz_i49, sz_w49, sz_r49, sz_p49, sz_i50, sz_w50, sz_r50, sz_p50, sz_w51, sz_r51, sz_p51, sz_i52, sz_w52, sz_r52, sz_p52, sz_i53, sz_w53, sz_r53, sz_p53, sz_i54, sz_w54, sz_r54, sz_p54, sz_i55, sz_w55, sz_r55, sz_p55, sz_i56, sz_w56, sz_r56, sz_p56, sz_i57, sz_w57, sz_r57, sz_p57, sz_i58, sz_w58, sz_r58, sz_p58, sz_i59, sz_w59, sz_r59, sz_p59, sz_i60, sz_w60, sz_r60, sz_p60, sz_i61, sz_w61, sz_r61, sz_p61, sz_w62, sz_r62, sz_p62, sz_i63, sz_w63, sz_r63, sz_p63, sz_i64, sz_w64, sz_r64, sz_p64, sz_i65, sz_w65, sz_r65, sz_p65, sz_i66, sz_w66, sz_r66, sz_p66, sz_i67, sz_w67, sz_r67, sz_p67, sz_i68, sz_w68, sz_r68, sz_p68, sz_i69, sz_w69, sz_r69, sz_p69, sz_i70, sz_w70, sz_r70, sz_p70, sz_w71, sz_r71, sz_p71, sz_i72, sz_w72, sz_r72, sz_p72, sz_i73, sz_w73, sz_r73, sz_p73, sz_i74, sz_w74, sz_r74, sz_p74, sz_i75, sz_w75, sz_r75, sz_p75, sz_q2, sz_g2, sz_q3, sz_g3, sz_q12, sz_g12, sz_q16, sz_g16, sz_q26, sz_g26, sz_q29, sz_g29, sz_i90, sz_r90, sz_i91, sz_r91, sz_i92, sz_r92, sz_i93, sz_r93, sz_i94, sz_r94, sz_i95, sz_r95, sz_i99, sz_r99, sz_c0, sz_c1, sz_c2, sz_c3, Option.toList, List.cons_append, List.nil_append, sp_h100, sp_h2, sp_h24, sp_h10, sp_h10L, not_false_eq_true, not_true, true_and, and_true, true_implies, false_implies, nI_toInt, nI_clamp, sp_st_ne, sp_st_eq, sp_st_up, nI_1, sp_12, c_within, m_in, sp_b0, hk, hc, hl, hp]
          repeat' (first | apply And.intro | (intro _))
          all_goals first | contradiction | exact j_end rfl hA | decide | omega
      · simp (disch := omega) only [g47_0, g47_1, g47_4, g47_5, g47_6, g47_7, g47_9, g47_12, g26_0, g26_1, g26_4, g26_7, g26_8, g26_9, g26_11, g26_14, g26_17, g26_18, g26_19, g26_21, g26_24, g26_27, g26_29, g26_31, g26_33, g26_36, g26_39, g26_41, g4_0, g4_1, g4_2, g4_3, g4_6, g99_0, g99_1, g99_2, g99_3, g99_4, g99_7, g99_10, g99_11, g99_12, g99_13, g99_15, g99_18, g99_21, g99_22, g99_23, g99_24, g99_26, g99_29, g99_32, g99_33, g99_35, g99_37, g99_39, g99_42, g99_45, g99_47, sz_i4, sz_w4, sz_r4, sz_p4, sz_i5, sz_w5, sz_r5, sz_p5, sz_i6, sz_w6, sz_r6, sz_p6, sz_i7, sz_w7, sz_r7, sz_p7, sz_i8, sz_w8, sz_r8, sz_p8, sz_i9, sz_w9, sz_r9, sz_p9, sz_i10, sz_w10, sz_r10, sz_p10, sz_i14, sz_w14, sz_r14, sz_p14, sz_i15, sz_w15, sz_r15, sz_p15, sz_i18, sz_w18, sz_r18, sz_p18, sz_i19, sz_w19, sz_r19, sz_p19, sz_w21, sz_r21, sz_p21, sz_i23, sz_w23, sz_r23, sz_p23, sz_i24, sz_w24, sz_r24, sz_p24, sz_i25, sz_w25, sz_r25, sz_p25, sz_i28, sz_w28, sz_r28, sz_p28, sz_i31, sz_w31, sz_r31, sz_p31, sz_i41, sz_w41, sz_r41, sz_p41, sz_i42, sz_w42, sz_r42, sz_p42, sz_i43, sz_w43, sz_r43, sz_p43, sz_i44, sz_w44, sz_r44, sz_p44, sz_i45, sz_w45, sz_r45, sz_p45, sz_i46, sz_w46, sz_r46, sz_p46, sz_i47, sz_w47, sz_r47, sz_p47, sz_i48, sz_w48, sz_r48, sz_p48, sz_i49, sz_w49, sz_r49, sz_p49, sz_i50, sz_w50, sz_r50, sz_p50, sz_w51, sz_r51, sz_p51, sz_i52, sz_w52, sz_r52, sz_p52, sz_i53, sz_w53, sz_r53, sz_p53, sz_i54, sz_w54, sz_r54, sz_p54, sz_i55, sz_w55, sz_r55, sz_p55, sz_i56, sz_w56, sz_r56, sz_p56, sz_i57, sz_w57, sz_r57, sz_p57, sz_i58, sz_w58, sz_r58, sz_p58, sz_i59, sz_w59, sz_r59, sz_p59, sz_i60, sz_w60, sz_r60, sz_p60, sz_i61, sz_w61, sz_r61, sz_p61, sz_w62, sz_r62, sz_p62, sz_i63, sz_w63, sz_r63, sz_p63, sz_i64, sz_w64, sz_r64, sz_p64, sz_i65, sz_w65, sz_r65, sz_p65, sz_i66, sz_w66, sz_r66, sz_p66, sz_i67, sz_w67, sz_r67, sz_p67, sz_i68, sz_w68, sz_r68, sz_p68, sz_i69, sz_w69, sz_r69, sz_p69, sz_i70, sz_w70, sz_r70, sz_p70, sz_w71, sz_r71, sz_p71, sz_i72, sz_w72, sz_r72, sz_p72, sz_i73, sz_w73, sz_r73, sz_p73, sz_i74, sz_w74, sz_r74, sz_p74, sz_i75, sz_w75, sz_r75, sz_p75, sz_q2, sz_g2, sz_q3, sz_g3, sz_q12, sz_g12, sz_q16, sz_g16, sz_q26, sz_g26, sz_q29, sz_g29, sz_i90, sz_r90, sz_i91, sz_r91, sz_i92, sz_r92, sz_i93, sz_r93, sz_i94, sz_r94, sz_i95, sz_r95, sz_i99, sz_r99, sz_c0, sz_c1, sz_c2, sz_c3, Option.toList, List.cons_append, List.nil_append, sp_h100, sp_h2, sp_h24, sp_h10, sp_h10L, not_false_eq_true, not_true, true_and, and_true, true_implies, false_implies, nI_toInt, nI_clamp, sp_st_ne, sp_st_eq, sp_st_up, nI_1, sp_12, c_within, m_in, sp_b0, hk, hc, hl]
        repeat' (first | apply And.intro | (intro _))
        all_goals first | contradiction | exact j_end rfl hA | decide | omega
    · simp (disch := omega) only [g47_0, g47_1, g47_4, g47_5, g47_6, g47_7, g47_9, g47_12, g26_0, g26_1, g26_4, g26_7, g26_8, g26_9, g26_11, g26_14, g26_17, g26_18, g26_19, g26_21, g26_24, g26_27, g26_29, g26_31, g26_33, g26_36, g26_39, g26_41, g4_0, g4_1, g4_2, g4_3, g4_6, g99_0, g99_1, g99_2, g99_3, g99_4, g99_7, g99_10, g99_11, g99_12, g99_13, g99_15, g99_18, g99_21, g99_22, g99_23, g99_24, g99_26, g99_29, g99_32, g99_33, g99_35, g99_37, g99_39, g99_42, g99_45, g99_47, sz_i4, sz_w4, sz_r4, sz_p4, sz_i5, sz_w5, sz_r5, sz_p5, sz_i6, sz_w6, sz_r6, sz_p6, sz_i7, sz_w7, sz_r7, sz_p7, sz_i8, sz_w8, sz_r8, sz_p8, sz_i9, sz_w9, sz_r9, sz_p9, sz_i10, sz_w10, sz_r10, sz_p10, sz_i14, sz_w14, sz_r14, sz_p14, sz_i15, sz_w15, sz_r15, sz_p15, sz_i18, sz_w18, sz_r18, sz_p18, sz_i19, sz_w19, sz_r19, sz_p19, sz_w21, sz_r21, sz_p21, sz_i23, sz_w23, sz_r23, sz_p23, sz_i24, sz_w24, sz_r24, sz_p24, sz_i25, sz_w25, sz_r25, sz_p25, sz_i28, sz_w28, sz_r28, sz_p28, sz_i31, sz_w31, sz_r31, sz_p31, sz_i41, sz_w41, sz_r41, sz_p41, sz_i42, sz_w42, sz_r42, sz_p42, sz_i43, sz_w43, sz_r43, sz_p43, sz_i44, sz_w44, sz_r44, sz_p44, sz_i45, sz_w45, sz_r45, sz_p45, sz_i46, sz_w46, sz_r46, sz_p46, sz_i47, sz_w47, sz_r47, sz_p47, sz_i48, sz_w48, sz_r48, sz_p48, sz_i49, sz_w49, sz_r49, sz_p49, sz_i50, sz_w50, sz_r50, sz_p50, sz_w51, sz_r51, sz_p51, sz_i52, sz_w52, sz_r52, sz_p52, sz_i53, sz_w53, sz_r53, sz_p53, sz_i54, sz_w54, sz_r54, sz_p54, sz_i55, sz_w55, sz_r55, sz_p55, sz_i56, sz_w56, sz_r56, sz_p56, sz_i57, sz_w57, sz_r57, sz_p57, sz_i58, sz_w58, sz_r58, sz_p58, sz_i59, sz_w59, sz_r59, sz_p59, sz_i60, sz_w60, sz_r60, sz_p60, sz_i61, sz_w61, sz_r61, sz_p61, sz_w62, sz_r62, sz_p62, sz_i63, sz_w63, sz_r63, sz_p63, sz_i64, sz_w64, sz_r64, sz_p64, sz_i65, sz_w65, sz_r65, sz_p65, sz_i66, sz_w66, sz_r66, sz_p66, sz_i67, sz_w67, sz_r67, sz_p67, sz_i68, sz_w68, sz_r68, sz_p68, sz_i69, sz_w69, sz_r69, sz_p69, sz_i70, sz_w70, sz_r70, sz_p70, sz_w71, sz_r71, sz_p71, sz_i72, sz_w72, sz_r72, sz_p72, sz_i73, sz_w73, sz_r73, sz_p73, sz_i74, sz_w74, sz_r74, sz_p74, sz_i75, sz_w75, sz_r75, sz_p75, sz_q2, sz_g2, sz_q3, sz_g3, sz_q12, sz_g12, sz_q16, sz_g16, sz_q26, sz_g26, sz_q29, sz_g29, sz_i90, sz_r90, sz_i91, sz_r91, sz_i92, sz_r92, sz_i93, sz_r93, sz_i94, sz_r94, sz_i95, sz_r95, sz_i99, sz_r99, sz_c0, sz_c1, sz_c2, sz_c3, Option.toList, List.cons_append, List.nil_append, sp_h100, sp_h2, sp_h24, sp_h10, sp_h10L, not_false_eq_true, not_true, true_and, and_true, true_implies, false_implies, nI_toInt, nI_clamp, sp_st_ne, sp_st_eq, sp_st_up, nI_1, sp_12, c_within, m_in, sp_b0, hk, hc]
      repeat' (first | apply And.intro | (intro _))
      all_goals first | contradiction | exact j_end rfl hA | decide | omega
  · simp (disch := omega) only [g47_0, g47_1, g47_4, g47_5, g47_6, g47_7, g47_9, g47_12, g26_0, g26_1, g26_4, g26_7, g26_8, g26_9, g26_11, g26_14, g26_17, g26_18, g26_19, g26_21, g26_24, g26_27, g26_29, g26_31, g26_33, g26_36, g26_39, g26_41, g4_0, g4_1, g4_2, g4_3, g4_6, g99_0, g99_1, g99_2, g99_3, g99_4, g99_7, g99_10, g99_11, g99_12, g99_13, g99_15, g99_18, g99_21, g99_22, g99_23, g99_24, g99_26, g99_29, g99_32, g99_33, g99_35, g99_37, g99_39, g99_42, g99_45, g99_47, sz_i4, sz_w4, sz_r4, sz_p4, sz_i5, sz_w5, sz_r5, sz_p5, sz_i6, sz_w6, sz_r6, sz_p6, sz_i7, sz_w7, sz_r7, sz_p7, sz_i8, sz_w8, sz_r8, sz_p8, sz_i9, sz_w9, sz_r9, sz_p9, sz_i10, sz_w10, sz_r10, sz_p10, sz_i14, sz_w14, sz_r14, sz_p14, sz_i15, sz_w15, sz_r15, sz_p15, sz_i18, sz_w18, sz_r18, sz_p18, sz_i19, sz_w19, sz_r19, sz_p19, sz_w21, sz_r21, sz_p21, sz_i23, sz_w23, sz_r23, sz_p23, sz_i24, sz_w24, sz_r24, sz_p24, sz_i25, sz_w25, sz_r25, sz_p25, sz_i28, sz_w28, sz_r28, sz_p28, sz_i31, sz_w31, sz_r31, sz_p31, sz_i41, sz_w41, sz_r41, sz_p41, sz_i42, sz_w42, sz_r42, sz_p42, sz_i43, sz_w43, sz_r43, sz_p43, sz_i44, sz_w44, sz_r44, sz_p44, sz_i45, sz_w45, sz_r45, sz_p45, sz_i46, sz_w46, sz_r46, sz_p46, sz_i47, sz_w47, sz_r47, sz_p47, sz_i48, sz_w48, sz_r48, sz_p48, sz_i49, sz_w49, sz_r49, sz_p49, sz_i50, sz_w50, sz_r50, sz_p50, sz_w51, sz_r51, sz_p51, sz_i52, sz_w52, sz_r52, sz_p52, sz_i53, sz_w53, sz_r53, sz_p53, sz_i54, sz_w54, sz_r54, sz_p54, sz_i55, sz_w55, sz_r55, sz_p55, sz_i56, sz_w56, sz_r56, sz_p56, sz_i57, sz_w57, sz_r57, sz_p57, sz_i58, sz_w58, sz_r58, sz_p58, sz_i59, sz_w59, sz_r59, sz_p59, sz_i60, sz_w60, sz_r60, sz_p60, sz_i61, sz_w61, sz_r61, sz_p61, sz_w62, sz_r62, sz_p62, sz_i63, sz_w63, sz_r63, sz_p63, sz_i64, sz_w64, sz_r64, sz_p64, sz_i65, sz_w65, sz_r65, sz_p65, sz_i66, sz_w66, sz_r66, sz_p66, sz_i67, sz_w67, sz_r67, sz_p67, sz_i68, sz_w68, sz_r68, sz_p68, sz_i69, sz_w69, sz_r69, sz_p69, sz_i70, sz_w70, sz_r70, sz_p70, sz_w71, sz_r71, sz_p71, sz_i72, sz_w72, sz_r72, sz_p72, sz_i73, sz_w73, sz_r73, sz_p73, sz_i74, sz_w74, sz_r74, sz_p74, sz_i75, sz_w75, sz_r75, sz_p75, sz_q2, sz_g2, sz_q3, sz_g3, sz_q12, sz_g12, sz_q16, sz_g16, sz_q26, sz_g26, sz_q29, sz_g29, sz_i90, sz_r90, sz_i91, sz_r91, sz_i92, sz_r92, sz_i93, sz_r93, sz_i94, sz_r94, sz_i95, sz_r95, sz_i99, sz_r99, sz_c0, sz_c1, sz_c2, sz_c3, Option.toList, List.cons_append, List.nil_append, sp_h100, sp_h2, sp_h24, sp_h10, sp_h10L, not_false_eq_true, not_true, true_and, and_true, true_implies, false_implies, nI_toInt, nI_clamp, sp_st_ne, sp_st_eq, sp_st_up, nI_1, sp_12, c_within, m_in, sp_b0, hk]
    repeat' (first | apply And.intro | (intro _))
    all_goals first | contradiction | exact j_end rfl hA | decide | omega
end SPO9
