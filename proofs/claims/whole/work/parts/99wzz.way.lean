section SPYW
variable {xs : Nat → Int32} {N : Nat} {σ : sl_S} {kd cl mt mc : Nat → Nat} {nT nM nW nR nF : Nat} {Q : Option sl_V → sl_S → Prop}
theorem jrq_i {B : Nat → Nat → Int32} {a n : Int32} : sl_u2 (sl_u2 B 0 4 a) 0 6 n = jrq B a (B 0 5) n := by
  unfold jrq
  have e : sl_u2 (sl_u2 B 0 4 a) 0 5 (B 0 5) = sl_u2 B 0 4 a := sp_u2_self (f := sl_u2 B 0 4 a) (k := 0) (i := 5)
  rw [e]
/-- the legs copied to their way -/
def jwc (R : Nat → Nat → Int32) (y : Nat) : Nat → Nat → Nat → Int32
  | 0 => R
  | k + 1 => sl_u2 (sl_u2 (jwc R y k) 9 (12 * y + k) (R 9 (72 + k))) 10 (12 * y + k) (R 10 (72 + k))
theorem jwc_k {R : Nat → Nat → Int32} {y j : Nat} (h9 : ¬ j = 9) (h10 : ¬ j = 10) : ∀ n, jwc R y n j = R j
  | 0 => rfl
  | n + 1 => by rw [jwc, sp_u2_ne h10, sp_u2_ne h9, jwc_k h9 h10 n]
theorem jwc_e {R : Nat → Nat → Int32} {y j : Nat} : ∀ n, jwc R y n 9 j = (if 12 * y ≤ j ∧ j < 12 * y + n then R 9 (72 + (j - 12 * y)) else R 9 j) ∧ jwc R y n 10 j = (if 12 * y ≤ j ∧ j < 12 * y + n then R 10 (72 + (j - 12 * y)) else R 10 j)
  | 0 => by
    rw [if_neg (by omega), if_neg (by omega)]
    exact ⟨rfl, rfl⟩
  | n + 1 => by
    obtain ⟨h1, h2⟩ := jwc_e (R := R) (y := y) (j := j) n
    rw [jwc, sp_u2_ne (by decide), sp_u2_eq, sp_u2_eq, sp_u2_ne (by decide)]
    by_cases e : j = 12 * y + n
    · rw [e, sp_u1_eq, sp_u1_eq, if_pos (by omega), if_pos (by omega), show 12 * y + n - 12 * y = n by omega]
      exact ⟨rfl, rfl⟩
    · rw [sp_u1_ne e, sp_u1_ne e, h1, h2]
      by_cases e2 : 12 * y ≤ j ∧ j < 12 * y + n
      · rw [if_pos e2, if_pos e2, if_pos (by omega), if_pos (by omega)]
        exact ⟨rfl, rfl⟩
      · rw [if_neg e2, if_neg e2, if_neg (by omega), if_neg (by omega)]
        exact ⟨rfl, rfl⟩
theorem m_wayEnd {τ : sl_S} {R B : Nat → Nat → Int32} {y n : Nat} (hy : y < 6) (hn : n ≤ 12) (h02 : R 0 2 = nI y) (h06 : B 0 6 = nI n) (hQ : Q (some (.inl (nI (y + 1) - 1))) (sp_st (sp_st τ 6 (sl_u2 (jwc (sl_u2 R 8 y (nI n)) y n) 0 2 (nI (y + 1)))) 8 B)) : sl_Go xs N 121 40 [some (.inr (.inr (40, 0, 0))), none] [] (sp_st (sp_st τ 6 R) 8 B) Q := by
  have loop : ∀ k, k ≤ n → sl_Go xs N 121 55 [some (.inr (.inr (40, 0, 0))), some (.inl (nI k))] [] (sp_st (sp_st τ 6 (jwc (sl_u2 R 8 y (nI n)) y k)) 8 B) Q := by
    refine sp_down (P := fun k => sl_Go xs N 121 55 [some (.inr (.inr (40, 0, 0))), some (.inl (nI k))] [] (sp_st (sp_st τ 6 (jwc (sl_u2 R 8 y (nI n)) y k)) 8 B) Q) (n := n) ?_ ?_
    · have e0 : jwc (sl_u2 R 8 y (nI n)) y n 0 2 = nI y := by
        rw [jwc_k (by decide) (by decide), sp_u2_ne (by decide)]
        exact h02
      simp (disch := omega) only [g121_55, g121_56, g121_57, g121_60, g121_115, g121_116i, g121_116r, g121_117, g121_120, g121_121, g121_122, g121_125, g121_126, g121_129, g121_130, g121_131, sz_i4, sz_w4, sz_r4, sz_p4, sz_i5, sz_w5, sz_r5, sz_p5, sz_i6, sz_w6, sz_r6, sz_p6, sz_i7, sz_w7, sz_r7, sz_p7, sz_i8, sz_w8, sz_r8, sz_p8, sz_i9, sz_w9, sz_r9, sz_p9, sz_i10, sz_w10, sz_r10, sz_p10, sz_i14, sz_w14, sz_r14, sz_p14, sz_i15, sz_w15, sz_r15, sz_p15, sz_i18, sz_w18, sz_r18, sz_p18, sz_i19, sz_w19, sz_r19, sz_p19, sz_w21, sz_r21, sz_p21, sz_i23, sz_w23, sz_r23, sz_p23, sz_i24, sz_w24, sz_r24, sz_p24, sz_i25, sz_w25, sz_r25, sz_p25, sz_i28, sz_w28, sz_r28, sz_p28, sz_i31, sz_w31, sz_r31, sz_p31, sz_i41, sz_w41, sz_r41, sz_p41, sz_i42, sz_w42, sz_r42, sz_p42, sz_i43, sz_w43, sz_r43, sz_p43, sz_i44, sz_w44, sz_r44, sz_p44, sz_i45, sz_w45, sz_r45, sz_p45, sz_i46, sz_w46, sz_r46, sz_p46, sz_i47, sz_w47, sz_r47, sz_p47, sz_i48, sz_w48, sz_r48, sz_p48, sz_i49, sz_w49, sz_r49, sz_p49, sz_i50, sz_w50, sz_r50, sz_p50, sz_w51, sz_r51, sz_p51, sz_i52, sz_w52, sz_r52, sz_p52, sz_i53, sz_w53, sz_r53, sz_p53, sz_i54, sz_w54, sz_r54, sz_p54, sz_i55, sz_w55, sz_r55, sz_p55, sz_i56, sz_w56, sz_r56, sz_p56, sz_i57, sz_w57, sz_r57, sz_p57, sz_i58, sz_w58, sz_r58, sz_p58, sz_i59, sz_w59, sz_r59, sz_p59, sz_i60, sz_w60, sz_r60, sz_p60, sz_i61, sz_w61, sz_r61, sz_p61, sz_w62, sz_r62, sz_p62, sz_i63, sz_w63, sz_r63, sz_p63, sz_i64, sz_w64, sz_r64, sz_p64, sz_i65, sz_w65, sz_r65, sz_p65, sz_i66, sz_w66, sz_r66, sz_p66, sz_i67, sz_w67, sz_r67, sz_p67, sz_i68, sz_w68, sz_r68, sz_p68, sz_i69, sz_w69, sz_r69, sz_p69, sz_i70, sz_w70, sz_r70, sz_p70, sz_w71, sz_r71, sz_p71, sz_i72, sz_w72, sz_r72, sz_p72, sz_i73, sz_w73, sz_r73, sz_p73, sz_i74, sz_w74, sz_r74, sz_p74, sz_i75, sz_w75, sz_r75, sz_p75, sz_q2, sz_g2, sz_q3, sz_g3, sz_q12, sz_g12, sz_q16, sz_g16, sz_q26, sz_g26, sz_q29, sz_g29, sz_i90, sz_r90, sz_i91, sz_r91, sz_i92, sz_r92, sz_i93, sz_r93, sz_i94, sz_r94, sz_i95, sz_r95, sz_i99, sz_r99, sz_c0, sz_c1, sz_c2, sz_c3, Option.toList, List.cons_append, List.nil_append, sp_h100, sp_h2, sp_h24, sp_h10, sp_h10L, not_false_eq_true, not_true, true_and, and_true, true_implies, false_implies, nI_toInt, nI_clamp, sp_st_ne, sp_st_eq, sp_st_up, nI_1, sp_12, h06, nI_leI, e0, sp_up, sp_st_st, sp_st_eq, jw68, sp_u2_eq, sp_u1_eq]
      repeat' (first | apply And.intro | (intro _))
      all_goals first | omega | contradiction | exact hQ
    · intro k hk ih
      have ne : ¬ n ≤ k := by omega
      have e0 : jwc (sl_u2 R 8 y (nI n)) y k 0 2 = nI y := by
        rw [jwc_k (by decide) (by decide), sp_u2_ne (by decide)]
        exact h02
      have e9 : jwc (sl_u2 R 8 y (nI n)) y k 9 (72 + k) = R 9 (72 + k) := by
        rw [(jwc_e k).1, if_neg (by omega), sp_u2_ne (by decide)]
      have e10 : jwc (sl_u2 R 8 y (nI n)) y k 10 (72 + k) = R 10 (72 + k) := by
        rw [(jwc_e k).2, if_neg (by omega), sp_u2_ne (by decide)]
      rw [jwc] at ih
      have r9 : sl_u2 R 8 y (nI n) 9 (72 + k) = R 9 (72 + k) := rfl
      have r10 : sl_u2 R 8 y (nI n) 10 (72 + k) = R 10 (72 + k) := rfl
      rw [r9, r10] at ih
      rw [g121_55]
      simp (disch := omega) only [g121_56, g121_57, g121_60, g121_63, g121_64, g121_67, g121_69, g121_70, g121_73, g121_74, g121_75, g121_76, g121_77, g121_80, g121_82, g121_83, g121_84, g121_85, g121_86, g121_87, g121_90, g121_92, g121_93, g121_96, g121_97, g121_98, g121_99, g121_100, g121_103, g121_105, g121_106, g121_107, g121_108, g121_109n, g121_109i, g121_109r, g121_112, sz_i4, sz_w4, sz_r4, sz_p4, sz_i5, sz_w5, sz_r5, sz_p5, sz_i6, sz_w6, sz_r6, sz_p6, sz_i7, sz_w7, sz_r7, sz_p7, sz_i8, sz_w8, sz_r8, sz_p8, sz_i9, sz_w9, sz_r9, sz_p9, sz_i10, sz_w10, sz_r10, sz_p10, sz_i14, sz_w14, sz_r14, sz_p14, sz_i15, sz_w15, sz_r15, sz_p15, sz_i18, sz_w18, sz_r18, sz_p18, sz_i19, sz_w19, sz_r19, sz_p19, sz_w21, sz_r21, sz_p21, sz_i23, sz_w23, sz_r23, sz_p23, sz_i24, sz_w24, sz_r24, sz_p24, sz_i25, sz_w25, sz_r25, sz_p25, sz_i28, sz_w28, sz_r28, sz_p28, sz_i31, sz_w31, sz_r31, sz_p31, sz_i41, sz_w41, sz_r41, sz_p41, sz_i42, sz_w42, sz_r42, sz_p42, sz_i43, sz_w43, sz_r43, sz_p43, sz_i44, sz_w44, sz_r44, sz_p44, sz_i45, sz_w45, sz_r45, sz_p45, sz_i46, sz_w46, sz_r46, sz_p46, sz_i47, sz_w47, sz_r47, sz_p47, sz_i48, sz_w48, sz_r48, sz_p48, sz_i49, sz_w49, sz_r49, sz_p49, sz_i50, sz_w50, sz_r50, sz_p50, sz_w51, sz_r51, sz_p51, sz_i52, sz_w52, sz_r52, sz_p52, sz_i53, sz_w53, sz_r53, sz_p53, sz_i54, sz_w54, sz_r54, sz_p54, sz_i55, sz_w55, sz_r55, sz_p55, sz_i56, sz_w56, sz_r56, sz_p56, sz_i57, sz_w57, sz_r57, sz_p57, sz_i58, sz_w58, sz_r58, sz_p58, sz_i59, sz_w59, sz_r59, sz_p59, sz_i60, sz_w60, sz_r60, sz_p60, sz_i61, sz_w61, sz_r61, sz_p61, sz_w62, sz_r62, sz_p62, sz_i63, sz_w63, sz_r63, sz_p63, sz_i64, sz_w64, sz_r64, sz_p64, sz_i65, sz_w65, sz_r65, sz_p65, sz_i66, sz_w66, sz_r66, sz_p66, sz_i67, sz_w67, sz_r67, sz_p67, sz_i68, sz_w68, sz_r68, sz_p68, sz_i69, sz_w69, sz_r69, sz_p69, sz_i70, sz_w70, sz_r70, sz_p70, sz_w71, sz_r71, sz_p71, sz_i72, sz_w72, sz_r72, sz_p72, sz_i73, sz_w73, sz_r73, sz_p73, sz_i74, sz_w74, sz_r74, sz_p74, sz_i75, sz_w75, sz_r75, sz_p75, sz_q2, sz_g2, sz_q3, sz_g3, sz_q12, sz_g12, sz_q16, sz_g16, sz_q26, sz_g26, sz_q29, sz_g29, sz_i90, sz_r90, sz_i91, sz_r91, sz_i92, sz_r92, sz_i93, sz_r93, sz_i94, sz_r94, sz_i95, sz_r95, sz_i99, sz_r99, sz_c0, sz_c1, sz_c2, sz_c3, Option.toList, List.cons_append, List.nil_append, sp_h100, sp_h2, sp_h24, sp_h10, sp_h10L, not_false_eq_true, not_true, true_and, and_true, true_implies, false_implies, nI_toInt, nI_clamp, sp_st_ne, sp_st_eq, sp_st_up, nI_1, sp_12, h06, nI_leI, ne, e0, show (72 : Int32) = nI 72 from rfl, nI_add, e9, e10, sp_up, sp_st_st, sp_st_eq, jw68, sp_u2_ne]
      repeat' (first | apply And.intro | (intro _))
      all_goals first | omega | contradiction | exact ih
  have r := loop 0 (Nat.zero_le _)
  simp (disch := omega) only [g121_40, g121_41, g121_44, g121_45, g121_48, g121_49, g121_52, g121_53, g121_54n, g121_54i, g121_54r, sz_i4, sz_w4, sz_r4, sz_p4, sz_i5, sz_w5, sz_r5, sz_p5, sz_i6, sz_w6, sz_r6, sz_p6, sz_i7, sz_w7, sz_r7, sz_p7, sz_i8, sz_w8, sz_r8, sz_p8, sz_i9, sz_w9, sz_r9, sz_p9, sz_i10, sz_w10, sz_r10, sz_p10, sz_i14, sz_w14, sz_r14, sz_p14, sz_i15, sz_w15, sz_r15, sz_p15, sz_i18, sz_w18, sz_r18, sz_p18, sz_i19, sz_w19, sz_r19, sz_p19, sz_w21, sz_r21, sz_p21, sz_i23, sz_w23, sz_r23, sz_p23, sz_i24, sz_w24, sz_r24, sz_p24, sz_i25, sz_w25, sz_r25, sz_p25, sz_i28, sz_w28, sz_r28, sz_p28, sz_i31, sz_w31, sz_r31, sz_p31, sz_i41, sz_w41, sz_r41, sz_p41, sz_i42, sz_w42, sz_r42, sz_p42, sz_i43, sz_w43, sz_r43, sz_p43, sz_i44, sz_w44, sz_r44, sz_p44, sz_i45, sz_w45, sz_r45, sz_p45, sz_i46, sz_w46, sz_r46, sz_p46, sz_i47, sz_w47, sz_r47, sz_p47, sz_i48, sz_w48, sz_r48, sz_p48, sz_i49, sz_w49, sz_r49, sz_p49, sz_i50, sz_w50, sz_r50, sz_p50, sz_w51, sz_r51, sz_p51, sz_i52, sz_w52, sz_r52, sz_p52, sz_i53, sz_w53, sz_r53, sz_p53, sz_i54, sz_w54, sz_r54, sz_p54, sz_i55, sz_w55, sz_r55, sz_p55, sz_i56, sz_w56, sz_r56, sz_p56, sz_i57, sz_w57, sz_r57, sz_p57, sz_i58, sz_w58, sz_r58, sz_p58, sz_i59, sz_w59, sz_r59, sz_p59, sz_i60, sz_w60, sz_r60, sz_p60, sz_i61, sz_w61, sz_r61, sz_p61, sz_w62, sz_r62, sz_p62, sz_i63, sz_w63, sz_r63, sz_p63, sz_i64, sz_w64, sz_r64, sz_p64, sz_i65, sz_w65, sz_r65, sz_p65, sz_i66, sz_w66, sz_r66, sz_p66, sz_i67, sz_w67, sz_r67, sz_p67, sz_i68, sz_w68, sz_r68, sz_p68, sz_i69, sz_w69, sz_r69, sz_p69, sz_i70, sz_w70, sz_r70, sz_p70, sz_w71, sz_r71, sz_p71, sz_i72, sz_w72, sz_r72, sz_p72, sz_i73, sz_w73, sz_r73, sz_p73, sz_i74, sz_w74, sz_r74, sz_p74, sz_i75, sz_w75, sz_r75, sz_p75, sz_q2, sz_g2, sz_q3, sz_g3, sz_q12, sz_g12, sz_q16, sz_g16, sz_q26, sz_g26, sz_q29, sz_g29, sz_i90, sz_r90, sz_i91, sz_r91, sz_i92, sz_r92, sz_i93, sz_r93, sz_i94, sz_r94, sz_i95, sz_r95, sz_i99, sz_r99, sz_c0, sz_c1, sz_c2, sz_c3, Option.toList, List.cons_append, List.nil_append, sp_h100, sp_h2, sp_h24, sp_h10, sp_h10L, not_false_eq_true, not_true, true_and, and_true, true_implies, false_implies, nI_toInt, nI_clamp, sp_st_ne, sp_st_eq, sp_st_up, nI_1, sp_12, h02, h06, sp_up, sp_st_st, sp_st_eq, jw68]
  repeat' (first | apply And.intro | (intro _))
  all_goals first | omega | contradiction | exact r
end SPYW
