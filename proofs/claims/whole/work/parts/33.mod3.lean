/-! the way, one tick -/
def sp_nxt (tk : Nat → Int32) (nl : Nat) : Nat → Nat → Nat
  | 0, n => n
  | f + 1, n => if n < nl ∧ tk n = 0 then sp_nxt tk nl f (n + 1) else n
def sp_wM (M : Nat → Nat → Int32) (a l ln : Int32) : Nat → Nat → Int32 := sl_u2 (sl_u2 (sl_u2 M 9 0 a) 9 1 l) 0 1 ln
theorem sp_wM_a {M : Nat → Nat → Int32} {a l ln v : Int32} : sl_u2 (sp_wM M a l ln) 9 0 v = sp_wM M v l ln := by
  funext k i
  unfold sp_wM sl_u2 sl_u1
  by_cases h : k = 9 <;> by_cases h0 : k = 0 <;> by_cases hi : i = 0 <;> by_cases hi1 : i = 1 <;> simp_all
theorem sp_wM_l {M : Nat → Nat → Int32} {a l ln v : Int32} : sl_u2 (sp_wM M a l ln) 9 1 v = sp_wM M a v ln := by
  funext k i
  unfold sp_wM sl_u2 sl_u1
  by_cases h : k = 9 <;> by_cases h0 : k = 0 <;> by_cases hi : i = 0 <;> by_cases hi1 : i = 1 <;> simp_all
theorem sp_wM_n {M : Nat → Nat → Int32} {a l ln v : Int32} : sl_u2 (sp_wM M a l ln) 0 1 v = sp_wM M a l v := by
  funext k i
  unfold sp_wM sl_u2 sl_u1
  by_cases h : k = 9 <;> by_cases h0 : k = 0 <;> by_cases hi : i = 0 <;> by_cases hi1 : i = 1 <;> simp_all
theorem sp_wM_90 {M : Nat → Nat → Int32} {a l ln : Int32} : sp_wM M a l ln 9 0 = a := rfl
theorem sp_wM_91 {M : Nat → Nat → Int32} {a l ln : Int32} : sp_wM M a l ln 9 1 = l := rfl
theorem sp_wM_01 {M : Nat → Nat → Int32} {a l ln : Int32} : sp_wM M a l ln 0 1 = ln := rfl
theorem sp_wM_02 {M : Nat → Nat → Int32} {a l ln : Int32} : sp_wM M a l ln 0 2 = M 0 2 := rfl
theorem sp_wM_self {M : Nat → Nat → Int32} : sp_wM M (M 9 0) (M 9 1) (M 0 1) = M := by
  funext k i
  unfold sp_wM sl_u2 sl_u1
  by_cases h : k = 9 <;> by_cases h0 : k = 0 <;> by_cases hi : i = 0 <;> by_cases hi1 : i = 1 <;> simp_all
/-- the leg that is left being over: the next one of some ticks, or the way's end -/
def sp_next (R M : Nat → Nat → Int32) (y nl j : Nat) : Nat → Nat → Int32 :=
  if j < nl then sp_wM M (nI j) (R 9 (12 * y + j) - 1) (R 10 (12 * y + j)) else sl_u2 (sp_wM M (nI nl) 0 0) 0 2 (-1)
section SPM3
variable {xs : Nat → Int32} {N : Nat} {σ : sl_S} {Q : Option sl_V → sl_S → Prop} {i j : Nat}
theorem m_steerL {M : Nat → Nat → Int32} {y nl : Nat} (hy : y < 6) (hM : M 0 2 = nI y) (hnl : σ 6 8 y = nI nl) (h12 : nl ≤ 12) : ∀ (f n : Nat) (ln : Int32), nl - n < f → n ≤ nl → Q none (sp_st σ 4 (sp_next (σ 6) M y nl (sp_nxt (fun k => σ 6 9 (12 * y + k)) nl f n))) → sl_Go xs N 109 8 [some (.inr (.inr (40, i, j)))] [] (sp_st σ 4 (sp_wM M (nI n - 1) 0 ln)) Q := by
  intro f
  induction f with
  | zero => intro n ln h; omega
  | succ f ih =>
    intro n ln hf hn hQ
    have e1 : nI n - 1 + 1 = nI n := by
      rw [Int32.sub_add_cancel]
    rw [g109_8]
    rw [sp_nxt] at hQ
    by_cases hlt : n < nl
    · have hne : ¬ nI n = nI nl := by rw [nI_eq (by omega) (by omega)]; omega
      simp (disch := omega) only [g109_9, g109_12, g109_15, g109_16i, g109_16r, g109_17, g109_20, g109_21, g109_22, g109_25, g109_26, g109_29, g109_30, g109_33, g109_34, g109_37, g109_38, g109_41, g109_42, g109_43, g109_46, g109_47, g109_48, g109_51, g109_52, g109_53, g109_54, g109_57, g109_59, g109_60, g109_63, g109_64, g109_65, g109_68, g109_69, g109_70, g109_73, g109_74, g109_75, g109_78, g109_80, g109_81, g109_84, g109_85, g109_86, g109_89, g109_90, g109_91, g109_94, sz_i4, sz_w4, sz_r4, sz_p4, sz_i5, sz_w5, sz_r5, sz_p5, sz_i6, sz_w6, sz_r6, sz_p6, sz_i7, sz_w7, sz_r7, sz_p7, sz_i8, sz_w8, sz_r8, sz_p8, sz_i9, sz_w9, sz_r9, sz_p9, sz_i10, sz_w10, sz_r10, sz_p10, sz_i14, sz_w14, sz_r14, sz_p14, sz_i15, sz_w15, sz_r15, sz_p15, sz_i18, sz_w18, sz_r18, sz_p18, sz_i19, sz_w19, sz_r19, sz_p19, sz_w21, sz_r21, sz_p21, sz_i23, sz_w23, sz_r23, sz_p23, sz_i24, sz_w24, sz_r24, sz_p24, sz_i25, sz_w25, sz_r25, sz_p25, sz_i28, sz_w28, sz_r28, sz_p28, sz_i31, sz_w31, sz_r31, sz_p31, sz_i41, sz_w41, sz_r41, sz_p41, sz_i42, sz_w42, sz_r42, sz_p42, sz_i43, sz_w43, sz_r43, sz_p43, sz_i44, sz_w44, sz_r44, sz_p44, sz_i45, sz_w45, sz_r45, sz_p45, sz_i46, sz_w46, sz_r46, sz_p46, sz_i47, sz_w47, sz_r47, sz_p47, sz_i48, sz_w48, sz_r48, sz_p48, sz_i49, sz_w49, sz_r49, sz_p49, sz_i50, sz_w50, sz_r50, sz_p50, sz_w51, sz_r51, sz_p51, sz_i52, sz_w52, sz_r52, sz_p52, sz_i53, sz_w53, sz_r53, sz_p53, sz_i54, sz_w54, sz_r54, sz_p54, sz_i55, sz_w55, sz_r55, sz_p55, sz_i56, sz_w56, sz_r56, sz_p56, sz_i57, sz_w57, sz_r57, sz_p57, sz_i58, sz_w58, sz_r58, sz_p58, sz_i59, sz_w59, sz_r59, sz_p59, sz_i60, sz_w60, sz_r60, sz_p60, sz_i61, sz_w61, sz_r61, sz_p61, sz_w62, sz_r62, sz_p62, sz_i63, sz_w63, sz_r63, sz_p63, sz_i64, sz_w64, sz_r64, sz_p64, sz_i65, sz_w65, sz_r65, sz_p65, sz_i66, sz_w66, sz_r66, sz_p66, sz_i67, sz_w67, sz_r67, sz_p67, sz_i68, sz_w68, sz_r68, sz_p68, sz_i69, sz_w69, sz_r69, sz_p69, sz_i70, sz_w70, sz_r70, sz_p70, sz_w71, sz_r71, sz_p71, sz_i72, sz_w72, sz_r72, sz_p72, sz_i73, sz_w73, sz_r73, sz_p73, sz_i74, sz_w74, sz_r74, sz_p74, sz_i75, sz_w75, sz_r75, sz_p75, sz_q2, sz_g2, sz_q3, sz_g3, sz_q12, sz_g12, sz_q16, sz_g16, sz_q26, sz_g26, sz_q29, sz_g29, sz_i90, sz_r90, sz_i91, sz_r91, sz_i92, sz_r92, sz_i93, sz_r93, sz_i94, sz_r94, sz_i95, sz_r95, sz_i99, sz_r99, sz_c0, sz_c1, sz_c2, sz_c3, Option.toList, List.cons_append, List.nil_append, sp_h100, sp_h2, sp_h24, sp_h10, sp_h10L, not_false_eq_true, not_true, true_and, and_true, true_implies, false_implies, nI_toInt, nI_clamp, sp_st_ne, sp_st_eq, sp_st_up, nI_1, sp_12, sp_wM_90, sp_wM_91, sp_wM_01, sp_wM_02, sp_wM_a, sp_wM_l, sp_wM_n, e1, hM, hnl, hne]
      refine ⟨by omega, by omega, by omega, ?_⟩
      by_cases h0 : σ 6 9 (12 * y + n) = 0
      · rw [if_pos ⟨hlt, h0⟩] at hQ
        rw [h0]
        have e2 : nI n = nI (n + 1) - 1 := by rw [← nI_1, Int32.add_sub_cancel]
        rw [e2]
        exact ih (n + 1) _ (by omega) (by omega) hQ
      · rw [if_neg (fun e => h0 e.2)] at hQ
        unfold sp_next at hQ
        rw [if_pos hlt] at hQ
        rw [g109_8]
        simp (disch := omega) only [g109_9, g109_12, g109_97, g109_98i, g109_98r, g109_99, g109_102, g109_103, g109_104, g109_107, sz_i4, sz_w4, sz_r4, sz_p4, sz_i5, sz_w5, sz_r5, sz_p5, sz_i6, sz_w6, sz_r6, sz_p6, sz_i7, sz_w7, sz_r7, sz_p7, sz_i8, sz_w8, sz_r8, sz_p8, sz_i9, sz_w9, sz_r9, sz_p9, sz_i10, sz_w10, sz_r10, sz_p10, sz_i14, sz_w14, sz_r14, sz_p14, sz_i15, sz_w15, sz_r15, sz_p15, sz_i18, sz_w18, sz_r18, sz_p18, sz_i19, sz_w19, sz_r19, sz_p19, sz_w21, sz_r21, sz_p21, sz_i23, sz_w23, sz_r23, sz_p23, sz_i24, sz_w24, sz_r24, sz_p24, sz_i25, sz_w25, sz_r25, sz_p25, sz_i28, sz_w28, sz_r28, sz_p28, sz_i31, sz_w31, sz_r31, sz_p31, sz_i41, sz_w41, sz_r41, sz_p41, sz_i42, sz_w42, sz_r42, sz_p42, sz_i43, sz_w43, sz_r43, sz_p43, sz_i44, sz_w44, sz_r44, sz_p44, sz_i45, sz_w45, sz_r45, sz_p45, sz_i46, sz_w46, sz_r46, sz_p46, sz_i47, sz_w47, sz_r47, sz_p47, sz_i48, sz_w48, sz_r48, sz_p48, sz_i49, sz_w49, sz_r49, sz_p49, sz_i50, sz_w50, sz_r50, sz_p50, sz_w51, sz_r51, sz_p51, sz_i52, sz_w52, sz_r52, sz_p52, sz_i53, sz_w53, sz_r53, sz_p53, sz_i54, sz_w54, sz_r54, sz_p54, sz_i55, sz_w55, sz_r55, sz_p55, sz_i56, sz_w56, sz_r56, sz_p56, sz_i57, sz_w57, sz_r57, sz_p57, sz_i58, sz_w58, sz_r58, sz_p58, sz_i59, sz_w59, sz_r59, sz_p59, sz_i60, sz_w60, sz_r60, sz_p60, sz_i61, sz_w61, sz_r61, sz_p61, sz_w62, sz_r62, sz_p62, sz_i63, sz_w63, sz_r63, sz_p63, sz_i64, sz_w64, sz_r64, sz_p64, sz_i65, sz_w65, sz_r65, sz_p65, sz_i66, sz_w66, sz_r66, sz_p66, sz_i67, sz_w67, sz_r67, sz_p67, sz_i68, sz_w68, sz_r68, sz_p68, sz_i69, sz_w69, sz_r69, sz_p69, sz_i70, sz_w70, sz_r70, sz_p70, sz_w71, sz_r71, sz_p71, sz_i72, sz_w72, sz_r72, sz_p72, sz_i73, sz_w73, sz_r73, sz_p73, sz_i74, sz_w74, sz_r74, sz_p74, sz_i75, sz_w75, sz_r75, sz_p75, sz_q2, sz_g2, sz_q3, sz_g3, sz_q12, sz_g12, sz_q16, sz_g16, sz_q26, sz_g26, sz_q29, sz_g29, sz_i90, sz_r90, sz_i91, sz_r91, sz_i92, sz_r92, sz_i93, sz_r93, sz_i94, sz_r94, sz_i95, sz_r95, sz_i99, sz_r99, sz_c0, sz_c1, sz_c2, sz_c3, Option.toList, List.cons_append, List.nil_append, sp_h100, sp_h2, sp_h24, sp_h10, sp_h10L, not_false_eq_true, not_true, true_and, and_true, true_implies, false_implies, nI_toInt, nI_clamp, sp_st_ne, sp_st_eq, sp_st_up, nI_1, sp_12, sp_wM_90, sp_wM_91, sp_wM_01, sp_wM_02, sp_wM_a, sp_wM_l, sp_wM_n, h0]
        exact hQ
    · have hnn : n = nl := by omega
      subst hnn
      rw [if_neg (fun e => hlt e.1)] at hQ
      unfold sp_next at hQ
      rw [if_neg hlt] at hQ
      simp (disch := omega) only [g109_9, g109_12, g109_15, g109_16i, g109_16r, g109_17, g109_20, g109_21, g109_22, g109_25, g109_26, g109_29, g109_30, g109_33, g109_34, g109_37, g109_38, g109_41, g109_42, g109_43, g109_46, g109_47, g109_48, g109_51, sz_i4, sz_w4, sz_r4, sz_p4, sz_i5, sz_w5, sz_r5, sz_p5, sz_i6, sz_w6, sz_r6, sz_p6, sz_i7, sz_w7, sz_r7, sz_p7, sz_i8, sz_w8, sz_r8, sz_p8, sz_i9, sz_w9, sz_r9, sz_p9, sz_i10, sz_w10, sz_r10, sz_p10, sz_i14, sz_w14, sz_r14, sz_p14, sz_i15, sz_w15, sz_r15, sz_p15, sz_i18, sz_w18, sz_r18, sz_p18, sz_i19, sz_w19, sz_r19, sz_p19, sz_w21, sz_r21, sz_p21, sz_i23, sz_w23, sz_r23, sz_p23, sz_i24, sz_w24, sz_r24, sz_p24, sz_i25, sz_w25, sz_r25, sz_p25, sz_i28, sz_w28, sz_r28, sz_p28, sz_i31, sz_w31, sz_r31, sz_p31, sz_i41, sz_w41, sz_r41, sz_p41, sz_i42, sz_w42, sz_r42, sz_p42, sz_i43, sz_w43, sz_r43, sz_p43, sz_i44, sz_w44, sz_r44, sz_p44, sz_i45, sz_w45, sz_r45, sz_p45, sz_i46, sz_w46, sz_r46, sz_p46, sz_i47, sz_w47, sz_r47, sz_p47, sz_i48, sz_w48, sz_r48, sz_p48, sz_i49, sz_w49, sz_r49, sz_p49, sz_i50, sz_w50, sz_r50, sz_p50, sz_w51, sz_r51, sz_p51, sz_i52, sz_w52, sz_r52, sz_p52, sz_i53, sz_w53, sz_r53, sz_p53, sz_i54, sz_w54, sz_r54, sz_p54, sz_i55, sz_w55, sz_r55, sz_p55, sz_i56, sz_w56, sz_r56, sz_p56, sz_i57, sz_w57, sz_r57, sz_p57, sz_i58, sz_w58, sz_r58, sz_p58, sz_i59, sz_w59, sz_r59, sz_p59, sz_i60, sz_w60, sz_r60, sz_p60, sz_i61, sz_w61, sz_r61, sz_p61, sz_w62, sz_r62, sz_p62, sz_i63, sz_w63, sz_r63, sz_p63, sz_i64, sz_w64, sz_r64, sz_p64, sz_i65, sz_w65, sz_r65, sz_p65, sz_i66, sz_w66, sz_r66, sz_p66, sz_i67, sz_w67, sz_r67, sz_p67, sz_i68, sz_w68, sz_r68, sz_p68, sz_i69, sz_w69, sz_r69, sz_p69, sz_i70, sz_w70, sz_r70, sz_p70, sz_w71, sz_r71, sz_p71, sz_i72, sz_w72, sz_r72, sz_p72, sz_i73, sz_w73, sz_r73, sz_p73, sz_i74, sz_w74, sz_r74, sz_p74, sz_i75, sz_w75, sz_r75, sz_p75, sz_q2, sz_g2, sz_q3, sz_g3, sz_q12, sz_g12, sz_q16, sz_g16, sz_q26, sz_g26, sz_q29, sz_g29, sz_i90, sz_r90, sz_i91, sz_r91, sz_i92, sz_r92, sz_i93, sz_r93, sz_i94, sz_r94, sz_i95, sz_r95, sz_i99, sz_r99, sz_c0, sz_c1, sz_c2, sz_c3, Option.toList, List.cons_append, List.nil_append, sp_h100, sp_h2, sp_h24, sp_h10, sp_h10L, not_false_eq_true, not_true, true_and, and_true, true_implies, false_implies, nI_toInt, nI_clamp, sp_st_ne, sp_st_eq, sp_st_up, nI_1, sp_12, sp_wM_90, sp_wM_91, sp_wM_01, sp_wM_02, sp_wM_a, sp_wM_l, sp_wM_n, e1, hM, hnl]
      refine ⟨by omega, ?_⟩
      have e3 : sl_u2 (sl_u2 (sp_wM M (nI n) 0 ln) 0 2 (-1)) 0 1 0 = sl_u2 (sp_wM M (nI n) 0 0) 0 2 (-1) := by
        funext k i
        unfold sp_wM sl_u2 sl_u1
        by_cases h : k = 9 <;> by_cases h0 : k = 0 <;> by_cases hi : i = 2 <;> by_cases hi1 : i = 1 <;> simp_all
      rw [e3]
      exact hQ
/-- where the carrier goes on -/
def sp_goOn (R M : Nat → Nat → Int32) : Nat → Nat → Int32 :=
  if M 0 2 < 0 then M else if M 9 1 = 0 then sp_next R M (M 0 2).toNatClampNeg (R 8 (M 0 2).toNatClampNeg).toNatClampNeg (sp_nxt (fun k => R 9 (12 * (M 0 2).toNatClampNeg + k)) (R 8 (M 0 2).toNatClampNeg).toNatClampNeg 13 (M 9 0 + 1).toNatClampNeg)
  else sl_u2 M 9 1 (M 9 1 - 1)
/-- the carrier's way is one, and its leg -/
def sp_Wok (R M : Nat → Nat → Int32) : Prop := M 0 2 < 0 ∨ ∃ y nl n, y < 6 ∧ M 0 2 = nI y ∧ R 8 y = nI nl ∧ nl ≤ 12 ∧ n ≤ nl ∧ M 9 0 = nI n - 1
theorem m_goOnWay {M : Nat → Nat → Int32} (hW : sp_Wok (σ 6) M) (hQ : Q none (sp_st σ 4 (sp_goOn (σ 6) M))) : sl_Go xs N 109 0 [some (.inr (.inr (40, i, j)))] [] (sp_st σ 4 M) Q := by
  unfold sp_goOn at hQ
  rcases hW with hneg | ⟨y, nl, n, hy, hM, hnl, h12, hn, h9⟩
  · rw [if_pos hneg] at hQ
    simp only [g109_0, g109_1, g109_4, g109_7, sz_i4, sz_w4, sz_r4, sz_p4, sz_i5, sz_w5, sz_r5, sz_p5, sz_i6, sz_w6, sz_r6, sz_p6, sz_i7, sz_w7, sz_r7, sz_p7, sz_i8, sz_w8, sz_r8, sz_p8, sz_i9, sz_w9, sz_r9, sz_p9, sz_i10, sz_w10, sz_r10, sz_p10, sz_i14, sz_w14, sz_r14, sz_p14, sz_i15, sz_w15, sz_r15, sz_p15, sz_i18, sz_w18, sz_r18, sz_p18, sz_i19, sz_w19, sz_r19, sz_p19, sz_w21, sz_r21, sz_p21, sz_i23, sz_w23, sz_r23, sz_p23, sz_i24, sz_w24, sz_r24, sz_p24, sz_i25, sz_w25, sz_r25, sz_p25, sz_i28, sz_w28, sz_r28, sz_p28, sz_i31, sz_w31, sz_r31, sz_p31, sz_i41, sz_w41, sz_r41, sz_p41, sz_i42, sz_w42, sz_r42, sz_p42, sz_i43, sz_w43, sz_r43, sz_p43, sz_i44, sz_w44, sz_r44, sz_p44, sz_i45, sz_w45, sz_r45, sz_p45, sz_i46, sz_w46, sz_r46, sz_p46, sz_i47, sz_w47, sz_r47, sz_p47, sz_i48, sz_w48, sz_r48, sz_p48, sz_i49, sz_w49, sz_r49, sz_p49, sz_i50, sz_w50, sz_r50, sz_p50, sz_w51, sz_r51, sz_p51, sz_i52, sz_w52, sz_r52, sz_p52, sz_i53, sz_w53, sz_r53, sz_p53, sz_i54, sz_w54, sz_r54, sz_p54, sz_i55, sz_w55, sz_r55, sz_p55, sz_i56, sz_w56, sz_r56, sz_p56, sz_i57, sz_w57, sz_r57, sz_p57, sz_i58, sz_w58, sz_r58, sz_p58, sz_i59, sz_w59, sz_r59, sz_p59, sz_i60, sz_w60, sz_r60, sz_p60, sz_i61, sz_w61, sz_r61, sz_p61, sz_w62, sz_r62, sz_p62, sz_i63, sz_w63, sz_r63, sz_p63, sz_i64, sz_w64, sz_r64, sz_p64, sz_i65, sz_w65, sz_r65, sz_p65, sz_i66, sz_w66, sz_r66, sz_p66, sz_i67, sz_w67, sz_r67, sz_p67, sz_i68, sz_w68, sz_r68, sz_p68, sz_i69, sz_w69, sz_r69, sz_p69, sz_i70, sz_w70, sz_r70, sz_p70, sz_w71, sz_r71, sz_p71, sz_i72, sz_w72, sz_r72, sz_p72, sz_i73, sz_w73, sz_r73, sz_p73, sz_i74, sz_w74, sz_r74, sz_p74, sz_i75, sz_w75, sz_r75, sz_p75, sz_q2, sz_g2, sz_q3, sz_g3, sz_q12, sz_g12, sz_q16, sz_g16, sz_q26, sz_g26, sz_q29, sz_g29, sz_i90, sz_r90, sz_i91, sz_r91, sz_i92, sz_r92, sz_i93, sz_r93, sz_i94, sz_r94, sz_i95, sz_r95, sz_i99, sz_r99, sz_c0, sz_c1, sz_c2, sz_c3, sp_st_eq]
    exact ⟨fun h => absurd hneg (Int32.not_lt.mpr h), fun _ => hQ⟩
  · have hnn : ¬ M 0 2 < 0 := by rw [hM]; exact nI_pos (by omega)
    rw [if_neg hnn] at hQ
    have e1 : (M 9 0 + 1).toNatClampNeg = n := by
      rw [h9, Int32.sub_add_cancel, nI_clamp (by omega)]
    rw [hM, nI_clamp (by omega), hnl, nI_clamp (by omega), e1] at hQ
    simp only [g109_0, g109_1, g109_4, sz_i4, sz_w4, sz_r4, sz_p4, sz_i5, sz_w5, sz_r5, sz_p5, sz_i6, sz_w6, sz_r6, sz_p6, sz_i7, sz_w7, sz_r7, sz_p7, sz_i8, sz_w8, sz_r8, sz_p8, sz_i9, sz_w9, sz_r9, sz_p9, sz_i10, sz_w10, sz_r10, sz_p10, sz_i14, sz_w14, sz_r14, sz_p14, sz_i15, sz_w15, sz_r15, sz_p15, sz_i18, sz_w18, sz_r18, sz_p18, sz_i19, sz_w19, sz_r19, sz_p19, sz_w21, sz_r21, sz_p21, sz_i23, sz_w23, sz_r23, sz_p23, sz_i24, sz_w24, sz_r24, sz_p24, sz_i25, sz_w25, sz_r25, sz_p25, sz_i28, sz_w28, sz_r28, sz_p28, sz_i31, sz_w31, sz_r31, sz_p31, sz_i41, sz_w41, sz_r41, sz_p41, sz_i42, sz_w42, sz_r42, sz_p42, sz_i43, sz_w43, sz_r43, sz_p43, sz_i44, sz_w44, sz_r44, sz_p44, sz_i45, sz_w45, sz_r45, sz_p45, sz_i46, sz_w46, sz_r46, sz_p46, sz_i47, sz_w47, sz_r47, sz_p47, sz_i48, sz_w48, sz_r48, sz_p48, sz_i49, sz_w49, sz_r49, sz_p49, sz_i50, sz_w50, sz_r50, sz_p50, sz_w51, sz_r51, sz_p51, sz_i52, sz_w52, sz_r52, sz_p52, sz_i53, sz_w53, sz_r53, sz_p53, sz_i54, sz_w54, sz_r54, sz_p54, sz_i55, sz_w55, sz_r55, sz_p55, sz_i56, sz_w56, sz_r56, sz_p56, sz_i57, sz_w57, sz_r57, sz_p57, sz_i58, sz_w58, sz_r58, sz_p58, sz_i59, sz_w59, sz_r59, sz_p59, sz_i60, sz_w60, sz_r60, sz_p60, sz_i61, sz_w61, sz_r61, sz_p61, sz_w62, sz_r62, sz_p62, sz_i63, sz_w63, sz_r63, sz_p63, sz_i64, sz_w64, sz_r64, sz_p64, sz_i65, sz_w65, sz_r65, sz_p65, sz_i66, sz_w66, sz_r66, sz_p66, sz_i67, sz_w67, sz_r67, sz_p67, sz_i68, sz_w68, sz_r68, sz_p68, sz_i69, sz_w69, sz_r69, sz_p69, sz_i70, sz_w70, sz_r70, sz_p70, sz_w71, sz_r71, sz_p71, sz_i72, sz_w72, sz_r72, sz_p72, sz_i73, sz_w73, sz_r73, sz_p73, sz_i74, sz_w74, sz_r74, sz_p74, sz_i75, sz_w75, sz_r75, sz_p75, sz_q2, sz_g2, sz_q3, sz_g3, sz_q12, sz_g12, sz_q16, sz_g16, sz_q26, sz_g26, sz_q29, sz_g29, sz_i90, sz_r90, sz_i91, sz_r91, sz_i92, sz_r92, sz_i93, sz_r93, sz_i94, sz_r94, sz_i95, sz_r95, sz_i99, sz_r99, sz_c0, sz_c1, sz_c2, sz_c3, sp_st_eq]
    refine ⟨fun _ => ?_, fun h => absurd (Int32.not_lt.mp hnn) h⟩
    by_cases h0 : M 9 1 = 0
    · rw [if_pos h0] at hQ
      rw [show M = sp_wM M (nI n - 1) 0 (M 0 1) from by rw [← h9, ← h0]; exact sp_wM_self.symm]
      exact m_steerL hy hM hnl h12 13 n _ (by omega) hn hQ
    · rw [if_neg h0] at hQ
      rw [g109_8]
      simp (disch := omega) only [g109_9, g109_12, g109_97, g109_98i, g109_98r, g109_99, g109_102, g109_103, g109_104, g109_107, sz_i4, sz_w4, sz_r4, sz_p4, sz_i5, sz_w5, sz_r5, sz_p5, sz_i6, sz_w6, sz_r6, sz_p6, sz_i7, sz_w7, sz_r7, sz_p7, sz_i8, sz_w8, sz_r8, sz_p8, sz_i9, sz_w9, sz_r9, sz_p9, sz_i10, sz_w10, sz_r10, sz_p10, sz_i14, sz_w14, sz_r14, sz_p14, sz_i15, sz_w15, sz_r15, sz_p15, sz_i18, sz_w18, sz_r18, sz_p18, sz_i19, sz_w19, sz_r19, sz_p19, sz_w21, sz_r21, sz_p21, sz_i23, sz_w23, sz_r23, sz_p23, sz_i24, sz_w24, sz_r24, sz_p24, sz_i25, sz_w25, sz_r25, sz_p25, sz_i28, sz_w28, sz_r28, sz_p28, sz_i31, sz_w31, sz_r31, sz_p31, sz_i41, sz_w41, sz_r41, sz_p41, sz_i42, sz_w42, sz_r42, sz_p42, sz_i43, sz_w43, sz_r43, sz_p43, sz_i44, sz_w44, sz_r44, sz_p44, sz_i45, sz_w45, sz_r45, sz_p45, sz_i46, sz_w46, sz_r46, sz_p46, sz_i47, sz_w47, sz_r47, sz_p47, sz_i48, sz_w48, sz_r48, sz_p48, sz_i49, sz_w49, sz_r49, sz_p49, sz_i50, sz_w50, sz_r50, sz_p50, sz_w51, sz_r51, sz_p51, sz_i52, sz_w52, sz_r52, sz_p52, sz_i53, sz_w53, sz_r53, sz_p53, sz_i54, sz_w54, sz_r54, sz_p54, sz_i55, sz_w55, sz_r55, sz_p55, sz_i56, sz_w56, sz_r56, sz_p56, sz_i57, sz_w57, sz_r57, sz_p57, sz_i58, sz_w58, sz_r58, sz_p58, sz_i59, sz_w59, sz_r59, sz_p59, sz_i60, sz_w60, sz_r60, sz_p60, sz_i61, sz_w61, sz_r61, sz_p61, sz_w62, sz_r62, sz_p62, sz_i63, sz_w63, sz_r63, sz_p63, sz_i64, sz_w64, sz_r64, sz_p64, sz_i65, sz_w65, sz_r65, sz_p65, sz_i66, sz_w66, sz_r66, sz_p66, sz_i67, sz_w67, sz_r67, sz_p67, sz_i68, sz_w68, sz_r68, sz_p68, sz_i69, sz_w69, sz_r69, sz_p69, sz_i70, sz_w70, sz_r70, sz_p70, sz_w71, sz_r71, sz_p71, sz_i72, sz_w72, sz_r72, sz_p72, sz_i73, sz_w73, sz_r73, sz_p73, sz_i74, sz_w74, sz_r74, sz_p74, sz_i75, sz_w75, sz_r75, sz_p75, sz_q2, sz_g2, sz_q3, sz_g3, sz_q12, sz_g12, sz_q16, sz_g16, sz_q26, sz_g26, sz_q29, sz_g29, sz_i90, sz_r90, sz_i91, sz_r91, sz_i92, sz_r92, sz_i93, sz_r93, sz_i94, sz_r94, sz_i95, sz_r95, sz_i99, sz_r99, sz_c0, sz_c1, sz_c2, sz_c3, Option.toList, List.cons_append, List.nil_append, sp_h100, sp_h2, sp_h24, sp_h10, sp_h10L, not_false_eq_true, not_true, true_and, and_true, true_implies, false_implies, nI_toInt, nI_clamp, sp_st_ne, sp_st_eq, sp_st_up, nI_1, sp_12, h0]
      exact hQ
end SPM3
