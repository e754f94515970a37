section SPOA
variable {xs : Nat → Int32} {N : Nat} {σ : sl_S} {kd cl mt mc : Nat → Nat} {nT nM nW nR nF : Nat} {Q : Option sl_V → sl_S → Prop}
theorem sp_one (x : BitVec 32) : x &&& 1#32 = 0#32 ↔ x.getLsbD 0 = false := by
  rw [BitVec.and_one_eq_setWidth_ofBool_getLsbD]
  cases x.getLsbD 0 <;> simp <;> decide
theorem sp_tb {w : Int32} {c : Nat} (hc : c < 12) : (w >>> (nI c &&& 31)) &&& 1 = 0 ↔ w.toBitVec.getLsbD c = false := by
  rw [← Int32.toBitVec_inj, Int32.toBitVec_and]
  show _ &&& 1#32 = 0#32 ↔ _
  rw [sp_one, Int32.toBitVec_shiftRight, BitVec.sshiftRight', BitVec.getLsbD_sshiftRight]
  have e : ((nI c &&& 31).toBitVec.smod 32).toNat = c := by
    rcases (show c = 0 ∨ c = 1 ∨ c = 2 ∨ c = 3 ∨ c = 4 ∨ c = 5 ∨ c = 6 ∨ c = 7 ∨ c = 8 ∨ c = 9 ∨ c = 10 ∨ c = 11 by omega) with r | r | r | r | r | r | r | r | r | r | r | r <;> subst r <;> decide
  rw [e]
  simp (disch := omega)
  intro h; omega
theorem sp_bit {c : Nat} (hc : c < 12) : ((1 : Int32) <<< (nI c &&& 31)).toBitVec = BitVec.twoPow 32 c := by
  rcases (show c = 0 ∨ c = 1 ∨ c = 2 ∨ c = 3 ∨ c = 4 ∨ c = 5 ∨ c = 6 ∨ c = 7 ∨ c = 8 ∨ c = 9 ∨ c = 10 ∨ c = 11 by omega) with r | r | r | r | r | r | r | r | r | r | r | r <;> subst r <;> decide
theorem sp_tw {w : Int32} {c : Nat} (hc : c < 12) : w &&& ((1 : Int32) <<< (nI c &&& 31)) = 0 ↔ w.toBitVec.getLsbD c = false := by
  rw [← Int32.toBitVec_inj, Int32.toBitVec_and, sp_bit hc, BitVec.and_twoPow]
  cases h : w.toBitVec.getLsbD c
  · simp
  · simp
    rcases (show c = 0 ∨ c = 1 ∨ c = 2 ∨ c = 3 ∨ c = 4 ∨ c = 5 ∨ c = 6 ∨ c = 7 ∨ c = 8 ∨ c = 9 ∨ c = 10 ∨ c = 11 by omega) with r | r | r | r | r | r | r | r | r | r | r | r <;> subst r <;> decide
theorem sp_tor {w b : Int32} {c : Nat} : (w ||| b).toBitVec.getLsbD c = (w.toBitVec.getLsbD c || b.toBitVec.getLsbD c) := by
  rw [Int32.toBitVec_or, BitVec.getLsbD_or]
theorem sp_tan {w b : Int32} {c : Nat} (hc : c < 12) : (w &&& (b ^^^ -1)).toBitVec.getLsbD c = (w.toBitVec.getLsbD c && !b.toBitVec.getLsbD c) := by
  rw [Int32.toBitVec_and, BitVec.getLsbD_and, Int32.toBitVec_xor, BitVec.getLsbD_xor]
  have e : (-1 : Int32).toBitVec.getLsbD c = true := by
    show (BitVec.allOnes 32).getLsbD c = true
    rw [BitVec.getLsbD_allOnes]
    simp; omega
  rw [e]; simp
theorem sp_tp {c d : Nat} (hc : c < 12) (hd : d < 12) : ((1 : Int32) <<< (nI c &&& 31)).toBitVec.getLsbD d = decide (d = c) := by
  rw [sp_bit hc, BitVec.getLsbD_twoPow]
  by_cases e : c = d
  · subst e; simp; omega
  · have e2 : ¬ d = c := fun x => e x.symm
    simp [e, e2]
theorem jU2 {P R : Nat → Nat → Int32} {i i' : Nat} {v v' : Int32} (h : ∀ k, k < 8 → ¬ k = 5 → P k = R k) : ∀ k, k < 8 → ¬ k = 5 → sl_u2 P 5 i v k = sl_u2 R 5 i' v' k := by
  intro k hk hk5
  rw [sp_u2_ne hk5, sp_u2_ne hk5]
  exact h k hk hk5
theorem jJ.wall (h : jJ σ kd cl mt mc nT nM nW nR nF) {t c : Nat} {w b : Int32} (hc : c < 12) (hb : b = 0 ∨ b = 1) (hw : ∀ d, d < 12 → (w.toBitVec.getLsbD d = false ↔ if d = c then b = 0 else (σ 5 5 t).toBitVec.getLsbD d = false)) : jJ (sp_st (sp_st σ 5 (sl_u2 (σ 5) 5 t w)) 6 (sl_u2 (σ 6) 5 (12 * t + c) b)) kd cl mt mc nT nM nW nR nF := by
  obtain ⟨⟨r1, r2, r3, r4, r5⟩, hL, hI, hS⟩ := h
  refine ⟨⟨jU2 r1, ?_, ?_, r4, r5⟩, hL, hI, hS⟩
  · intro t' d ht' hd
    show ((sl_u1 (σ 5 5) t w t') >>> (nI d &&& 31) &&& 1 = 0 ↔ sl_u1 (σ 6 5) (12 * t + c) b (12 * t' + d) = 0)
    rw [sp_tb hd]
    have r := r2 t' d ht' hd
    rw [sp_tb hd] at r
    by_cases e : t' = t
    · subst e
      rw [sp_u1_eq, hw d hd]
      by_cases e2 : d = c
      · subst e2
        rw [if_pos rfl, sp_u1_eq]
      · rw [if_neg e2, sp_u1_ne (by omega)]
        exact r
    · rw [sp_u1_ne e, sp_u1_ne (by omega)]
      exact r
  · intro i hi
    show sl_u1 (σ 6 5) (12 * t + c) b i = 0 ∨ sl_u1 (σ 6 5) (12 * t + c) b i = 1
    by_cases e : i = 12 * t + c
    · rw [e, sp_u1_eq]
      exact hb
    · rw [sp_u1_ne e]
      exact r3 i hi
theorem sp_set1 {w : Int32} {c : Nat} (hc : c < 12) : ∀ d, d < 12 → ((w ||| (1 : Int32) <<< (nI c &&& 31)).toBitVec.getLsbD d = false ↔ if d = c then (1 : Int32) = 0 else w.toBitVec.getLsbD d = false) := by
  intro d hd
  rw [sp_tor, sp_tp hc hd]
  by_cases e : d = c
  · simp [e]
  · simp [e]
theorem sp_set0 {w : Int32} {c : Nat} (hc : c < 12) : ∀ d, d < 12 → ((w &&& ((1 : Int32) <<< (nI c &&& 31) ^^^ -1)).toBitVec.getLsbD d = false ↔ if d = c then (0 : Int32) = 0 else w.toBitVec.getLsbD d = false) := by
  intro d hd
  rw [sp_tan hd, sp_tp hc hd]
  by_cases e : d = c
  · simp [e]
  · simp [e]
theorem j_flag {v : Int32} : (0 ≤ v ∧ v ≤ 1) ↔ v = 0 ∨ v = 1 := by
  constructor
  · intro h
    obtain ⟨t, ht, rfl⟩ := (j_tank (n := 2) (by decide)).mp h
    rcases (show t = 0 ∨ t = 1 by omega) with e | e <;> subst e
    · exact .inl rfl
    · exact .inr rfl
  · rintro (e | e) <;> subst e <;> decide
theorem o_wall (h : jJ σ kd cl mt mc nT nM nW nR nF) (t c is : Int32) : sl_Go xs N 48 0 [some (.inr (.inr (0, 0, 0))), some (.inl t), some (.inl c), some (.inl is), none, none, none] [] σ (jQ xs N 101 [some (.inr (.inr (40, 0, 0))), some (.inl t), some (.inl c), some (.inl is), none]) := by
  have e0 := h.rc 0 (by decide) (by decide)
  have e2 := h.rc 2 (by decide) (by decide)
  obtain ⟨hT, h5, hc, -⟩ := h.sh
  have hA := h.a
  unfold jQ
  by_cases ht : 0 ≤ t ∧ t ≤ nI nT - 1
  · obtain ⟨t', ht', rfl⟩ := (j_tank (by omega)).mp ht
    obtain ⟨c1, c2, c3⟩ := hc t' ht'
    have t5 : t' < 5 := by omega
    by_cases hb : 0 ≤ c ∧ c ≤ nI (cl t') - 2
    · obtain ⟨c', hc', rfl⟩ := (j_tank2 (by omega) (by omega)).mp hb
      have c12 : c' < 12 := by omega
      have c60 : 12 * t' + c' < 60 := by omega
      have hbit : (σ 5 5 t' &&& 1 <<< (nI c' &&& 31) = 0) ↔ σ 6 5 (12 * t' + c') = 0 := by
        rw [sp_tw c12, ← sp_tb c12]
        exact h.1.2.1 t' c' t5 c12
      by_cases hi : 0 ≤ is ∧ is ≤ 1
      · by_cases hz : σ 6 5 (12 * t' + c') = 0
        all_goals rcases j_flag.mp hi with e | e <;> subst e
        all_goals simp (disch := omega) only [g48_0, g48_1, g48_4, g48_5, g48_8, g48_11, g48_12, g48_13, g48_14, g48_17, g48_20, g48_21, g48_22n, g48_22i, g48_22r, g48_24, g48_26, g48_27, g48_30, g48_33, g48_34, g48_37, g48_40, g48_42, g48_43, g48_44, g48_45, g48_46n, g48_46i, g48_46r, g48_48, g48_50, g48_53, g48_55, g48_56, g48_59, g48_60, g48_63, g48_64n, g48_64i, g48_64r, g48_66, g48_68, g48_69, g48_70, g48_73, g48_75, g48_78, g48_80, g48_81, g48_84, g48_86, g48_89, g48_91, g48_92, g48_93, g48_94, g48_97, g48_99, g101_0, g101_1, g101_2, g101_5, g101_8, g101_9, g101_10, g101_11, g101_12, g101_13, g101_16, g101_19, g101_20, g101_21, g101_22, g101_23, g101_26, g101_29, g101_31, g101_32, g101_33, g101_36, g101_38, g101_39, g101_40, g101_41, g101_42, g101_43, g101_46, g101_47, g101_50, g101_51n, g101_51i, g101_51r, g101_53, g101_54, g101_57, g101_59, g101_60, g101_61, g101_62, g101_63, g101_64, g101_65, g101_68, g101_69, g101_72, g101_73, g101_74, g101_76, sz_i4, sz_w4, sz_r4, sz_p4, sz_i5, sz_w5, sz_r5, sz_p5, sz_i6, sz_w6, sz_r6, sz_p6, sz_i7, sz_w7, sz_r7, sz_p7, sz_i8, sz_w8, sz_r8, sz_p8, sz_i9, sz_w9, sz_r9, sz_p9, sz_i10, sz_w10, sz_r10, sz_p10, sz_i14, sz_w14, sz_r14, sz_p14, sz_i15, sz_w15, sz_r15, sz_p15, sz_i18, sz_w18, sz_r18, sz_p18, sz_i19, sz_w19, sz_r19, sz_p19, sz_w21, sz_r21, sz_p21, sz_i23, sz_w23, sz_r23, sz_p23, sz_i24, sz_w24, sz_r24, sz_p24, sz_i25, sz_w25, sz_r25, sz_p25, sz_i28, sz_w28, sz_r28, sz_p28, sz_i31, sz_w31, sz_r31, sz_p31, sz_i41, sz_w41, sz_r41, sz_p41, sz_i42, sz_w42, sz_r42, sz_p42, sz_i43, sz_w43, sz_r43, sz_p43, sz_i44, sz_w44, sz_r44, sz_p44, sz_i45, sz_w45, sz_r45, sz_p45, sz_i46, sz_w46, sz_r46, sz_p46, sz_i47, sz_w47, sz_r47, sz_p47, sz_i48, sz_w48, sz_r48, sz_p48, sz_i49, sz_w49, sz_r49, sz_p49, sz_i50, sz_w50, sz_r50, sz_p50, sz_w51, sz_r51, sz_p51, sz_i52, sz_w52, sz_r52, sz_p52, sz_i53, sz_w53, sz_r53, sz_p53, sz_i54, sz_w54, sz_r54, sz_p54, sz_i55, sz_w55, sz_r55, sz_p55, sz_i56, sz_w56, sz_r56, sz_p56, sz_i57, sz_w57, sz_r57, sz_p57, sz_i58, sz_w58, sz_r58, sz_p58, sz_i59, sz_w59, sz_r59, sz_p59, sz_i60, sz_w60, sz_r60, sz_p60, sz_i61, sz_w61, sz_r61, sz_p61, sz_w62, sz_r62, sz_p62, sz_i63, sz_w63, sz_r63, sz_p63, sz_i64, sz_w64, sz_r64, sz_p64, sz_i65, sz_w65, sz_r65, sz_p65, sz_i66, sz_w66, sz_r66, sz_p66, sz_i67, sz_w67, sz_r67, sz_p67, sz_i68, sz_w68, sz_r68, sz_p68, sz_i69, sz_w69, sz_r69, sz_p69, sz_i70, sz_w70, sz_r70, sz_p70, sz_w71, sz_r71, sz_p71, sz_i72, sz_w72, sz_r72, sz_p72, sz_i73, sz_w73, sz_r73, sz_p73, sz_i74, sz_w74, sz_r74, sz_p74, sz_i75, sz_w75, sz_r75, sz_p75, sz_q2, sz_g2, sz_q3, sz_g3, sz_q12, sz_g12, sz_q16, sz_g16, sz_q26, sz_g26, sz_q29, sz_g29, sz_i90, sz_r90, sz_i91, sz_r91, sz_i92, sz_r92, sz_i93, sz_r93, sz_i94, sz_r94, sz_i95, sz_r95, sz_i99, sz_r99, sz_c0, sz_c1, sz_c2, sz_c3, Option.toList, List.cons_append, List.nil_append, sp_h100, sp_h2, sp_h24, sp_h10, sp_h10L, not_false_eq_true, not_true, true_and, and_true, true_implies, false_implies, nI_toInt, nI_clamp, sp_st_ne, sp_st_eq, sp_st_up, nI_1, sp_12, c_hasTank, c_hasBorder, c_isFlag, m_isTank, m_isBorder, m_in, sp_b0, e0, e2, hT, c1, ht, hb, hi, hbit, hz, sp_up, sp_st_ne]
        all_goals repeat' (first | apply And.intro | (intro _))
        all_goals try first | contradiction | exact j_end rfl hA | decide | omega
        all_goals first | exact j_end rfl (h.wall c12 (.inl rfl) (sp_set0 c12)).a | exact j_end rfl (h.wall c12 (.inr rfl) (sp_set1 c12)).a
      · simp (disch := omega) only [g48_0, g48_1, g48_4, g48_5, g48_8, g48_11, g48_12, g48_13, g48_14, g48_17, g48_20, g48_21, g48_22n, g48_22i, g48_22r, g48_24, g48_26, g48_27, g48_30, g48_33, g48_34, g48_37, g48_40, g48_42, g101_0, g101_1, g101_2, g101_5, g101_8, g101_9, g101_10, g101_11, g101_12, g101_13, g101_16, g101_19, g101_20, g101_21, g101_22, g101_23, g101_26, g101_29, g101_31, sz_i4, sz_w4, sz_r4, sz_p4, sz_i5, sz_w5, sz_r5, sz_p5, sz_i6, sz_w6, sz_r6, sz_p6, sz_i7, sz_w7, sz_r7, sz_p7, sz_i8, sz_w8, sz_r8, sz_p8, sz_i9, sz_w9, sz_r9, sz_p9, sz_i10, sz_w10, sz_r10, sz_p10, sz_i14, sz_w14, sz_r14, sz_p14, sz_i15, sz_w15, sz_r15, sz_p15, sz_i18, sz_w18, sz_r18, sz_p18, sz_i19, sz_w19, sz_r19, sz_p19, sz_w21, sz_r21, sz_p21, sz_i23, sz_w23, sz_r23, sz_p23, sz_i24, sz_w24, sz_r24, sz_p24, sz_i25, sz_w25, sz_r25, sz_p25, sz_i28, sz_w28, sz_r28, sz_p28, sz_i31, sz_w31, sz_r31, sz_p31, sz_i41, sz_w41, sz_r41, sz_p41, sz_i42, sz_w42, sz_r42, sz_p42, sz_i43, sz_w43, sz_r43, sz_p43, sz_i44, sz_w44, sz_r44, sz_p44, sz_i45, sz_w45, sz_r45, sz_p45, sz_i46, sz_w46, sz_r46, sz_p46, sz_i47, sz_w47, sz_r47, sz_p47, sz_i48, sz_w48, sz_r48, sz_p48, sz_i49, sz_w49, sz_r49, sz_p49, sz_i50, sz_w50, sz_r50, sz_p50, sz_w51, sz_r51, sz_p51, sz_i52, sz_w52, sz_r52, sz_p52, sz_i53, sz_w53, sz_r53, sz_p53, sz_i54, sz_w54, sz_r54, sz_p54, sz_i55, sz_w55, sz_r55, sz_p55, sz_i56, sz_w56, sz_r56, sz_p56, sz_i57, sz_w57, sz_r57, sz_p57, sz_i58, sz_w58, sz_r58, sz_p58, sz_i59, sz_w59, sz_r59, sz_p59, sz_i60, sz_w60, sz_r60, sz_p60, sz_i61, sz_w61, sz_r61, sz_p61, sz_w62, sz_r62, sz_p62, sz_i63, sz_w63, sz_r63, sz_p63, sz_i64, sz_w64, sz_r64, sz_p64, sz_i65, sz_w65, sz_r65, sz_p65, sz_i66, sz_w66, sz_r66, sz_p66, sz_i67, sz_w67, sz_r67, sz_p67, sz_i68, sz_w68, sz_r68, sz_p68, sz_i69, sz_w69, sz_r69, sz_p69, sz_i70, sz_w70, sz_r70, sz_p70, sz_w71, sz_r71, sz_p71, sz_i72, sz_w72, sz_r72, sz_p72, sz_i73, sz_w73, sz_r73, sz_p73, sz_i74, sz_w74, sz_r74, sz_p74, sz_i75, sz_w75, sz_r75, sz_p75, sz_q2, sz_g2, sz_q3, sz_g3, sz_q12, sz_g12, sz_q16, sz_g16, sz_q26, sz_g26, sz_q29, sz_g29, sz_i90, sz_r90, sz_i91, sz_r91, sz_i92, sz_r92, sz_i93, sz_r93, sz_i94, sz_r94, sz_i95, sz_r95, sz_i99, sz_r99, sz_c0, sz_c1, sz_c2, sz_c3, Option.toList, List.cons_append, List.nil_append, sp_h100, sp_h2, sp_h24, sp_h10, sp_h10L, not_false_eq_true, not_true, true_and, and_true, true_implies, false_implies, nI_toInt, nI_clamp, sp_st_ne, sp_st_eq, sp_st_up, nI_1, sp_12, c_hasTank, c_hasBorder, c_isFlag, m_isTank, m_isBorder, m_in, sp_b0, e0, e2, hT, c1, ht, hb, hi]
        repeat' (first | apply And.intro | (intro _))
        all_goals first | contradiction | exact j_end rfl hA | decide | omega
    · simp (disch := omega) only [g48_0, g48_1, g48_4, g48_5, g48_8, g48_11, g48_12, g48_13, g48_14, g48_17, g48_20, g48_21, g48_22n, g48_22i, g48_22r, g48_24, g48_26, g48_27, g48_30, g48_33, g48_34, g48_37, g48_40, g48_42, g101_0, g101_1, g101_2, g101_5, g101_8, g101_9, g101_10, g101_11, g101_12, g101_13, g101_16, g101_19, g101_20, g101_21, g101_22, g101_23, g101_26, g101_29, g101_31, sz_i4, sz_w4, sz_r4, sz_p4, sz_i5, sz_w5, sz_r5, sz_p5, sz_i6, sz_w6, sz_r6, sz_p6, sz_i7, sz_w7, sz_r7, sz_p7, sz_i8, sz_w8, sz_r8, sz_p8, sz_i9, sz_w9, sz_r9, sz_p9, sz_i10, sz_w10, sz_r10, sz_p10, sz_i14, sz_w14, sz_r14, sz_p14, sz_i15, sz_w15, sz_r15, sz_p15, sz_i18, sz_w18, sz_r18, sz_p18, sz_i19, sz_w19, sz_r19, sz_p19, sz_w21, sz_r21, sz_p21, sz_i23, sz_w23, sz_r23, sz_p23, sz_i24, sz_w24, sz_r24, sz_p24, sz_i25, sz_w25, sz_r25, sz_p25, sz_i28, sz_w28, sz_r28, sz_p28, sz_i31, sz_w31, sz_r31, sz_p31, sz_i41, sz_w41, sz_r41, sz_p41, sz_i42, sz_w42, sz_r42, sz_p42, sz_i43, sz_w43, sz_r43, sz_p43, sz_i44, sz_w44, sz_r44, sz_p44, sz_i45, sz_w45, sz_r45, sz_p45, sz_i46, sz_w46, sz_r46, sz_p46, sz_i47, sz_w47, sz_r47, sz_p47, sz_i48, sz_w48, sz_r48, sz_p48, sz_i49, sz_w49, sz_r49, sz_p49, sz_i50, sz_w50, sz_r50, sz_p50, sz_w51, sz_r51, sz_p51, sz_i52, sz_w52, sz_r52, sz_p52, sz_i53, sz_w53, sz_r53, sz_p53, sz_i54, sz_w54, sz_r54, sz_p54, sz_i55, sz_w55, sz_r55, sz_p55, sz_i56, sz_w56, sz_r56, sz_p56, sz_i57, sz_w57, sz_r57, sz_p57, sz_i58, sz_w58, sz_r58, sz_p58, sz_i59, sz_w59, sz_r59, sz_p59, sz_i60, sz_w60, sz_r60, sz_p60, sz_i61, sz_w61, sz_r61, sz_p61, sz_w62, sz_r62, sz_p62, sz_i63, sz_w63, sz_r63, sz_p63, sz_i64, sz_w64, sz_r64, sz_p64, sz_i65, sz_w65, sz_r65, sz_p65, sz_i66, sz_w66, sz_r66, sz_p66, sz_i67, sz_w67, sz_r67, sz_p67, sz_i68, sz_w68, sz_r68, sz_p68, sz_i69, sz_w69, sz_r69, sz_p69, sz_i70, sz_w70, sz_r70, sz_p70, sz_w71, sz_r71, sz_p71, sz_i72, sz_w72, sz_r72, sz_p72, sz_i73, sz_w73, sz_r73, sz_p73, sz_i74, sz_w74, sz_r74, sz_p74, sz_i75, sz_w75, sz_r75, sz_p75, sz_q2, sz_g2, sz_q3, sz_g3, sz_q12, sz_g12, sz_q16, sz_g16, sz_q26, sz_g26, sz_q29, sz_g29, sz_i90, sz_r90, sz_i91, sz_r91, sz_i92, sz_r92, sz_i93, sz_r93, sz_i94, sz_r94, sz_i95, sz_r95, sz_i99, sz_r99, sz_c0, sz_c1, sz_c2, sz_c3, Option.toList, List.cons_append, List.nil_append, sp_h100, sp_h2, sp_h24, sp_h10, sp_h10L, not_false_eq_true, not_true, true_and, and_true, true_implies, false_implies, nI_toInt, nI_clamp, sp_st_ne, sp_st_eq, sp_st_up, nI_1, sp_12, c_hasTank, c_hasBorder, c_isFlag, m_isTank, m_isBorder, m_in, sp_b0, e0, e2, hT, c1, ht, hb]
      repeat' (first | apply And.intro | (intro _))
      all_goals first | contradiction | exact j_end rfl hA | decide | omega
  · simp (disch := omega) only [g48_0, g48_1, g48_4, g48_5, g48_8, g48_11, g48_12, g101_0, g101_1, g101_2, g101_5, g101_8, g101_9, sz_i4, sz_w4, sz_r4, sz_p4, sz_i5, sz_w5, sz_r5, sz_p5, sz_i6, sz_w6, sz_r6, sz_p6, sz_i7, sz_w7, sz_r7, sz_p7, sz_i8, sz_w8, sz_r8, sz_p8, sz_i9, sz_w9, sz_r9, sz_p9, sz_i10, sz_w10, sz_r10, sz_p10, sz_i14, sz_w14, sz_r14, sz_p14, sz_i15, sz_w15, sz_r15, sz_p15, sz_i18, sz_w18, sz_r18, sz_p18, sz_i19, sz_w19, sz_r19, sz_p19, sz_w21, sz_r21, sz_p21, sz_i23, sz_w23, sz_r23, sz_p23, sz_i24, sz_w24, sz_r24, sz_p24, sz_i25, sz_w25, sz_r25, sz_p25, sz_i28, sz_w28, sz_r28, sz_p28, sz_i31, sz_w31, sz_r31, sz_p31, sz_i41, sz_w41, sz_r41, sz_p41, sz_i42, sz_w42, sz_r42, sz_p42, sz_i43, sz_w43, sz_r43, sz_p43, sz_i44, sz_w44, sz_r44, sz_p44, sz_i45, sz_w45, sz_r45, sz_p45, sz_i46, sz_w46, sz_r46, sz_p46, sz_i47, sz_w47, sz_r47, sz_p47, sz_i48, sz_w48, sz_r48, sz_p48, sz_i49, sz_w49, sz_r49, sz_p49, sz_i50, sz_w50, sz_r50, sz_p50, sz_w51, sz_r51, sz_p51, sz_i52, sz_w52, sz_r52, sz_p52, sz_i53, sz_w53, sz_r53, sz_p53, sz_i54, sz_w54, sz_r54, sz_p54, sz_i55, sz_w55, sz_r55, sz_p55, sz_i56, sz_w56, sz_r56, sz_p56, sz_i57, sz_w57, sz_r57, sz_p57, sz_i58, sz_w58, sz_r58, sz_p58, sz_i59, sz_w59, sz_r59, sz_p59, sz_i60, sz_w60, sz_r60, sz_p60, sz_i61, sz_w61, sz_r61, sz_p61, sz_w62, sz_r62, sz_p62, sz_i63, sz_w63, sz_r63, sz_p63, sz_i64, sz_w64, sz_r64, sz_p64, sz_i65, sz_w65, sz_r65, sz_p65, sz_i66, sz_w66, sz_r66, sz_p66, sz_i67, sz_w67, sz_r67, sz_p67, sz_i68, sz_w68, sz_r68, sz_p68, sz_i69, sz_w69, sz_r69, sz_p69, sz_i70, sz_w70, sz_r70, sz_p70, sz_w71, sz_r71, sz_p71, sz_i72, sz_w72, sz_r72, sz_p72, sz_i73, sz_w73, sz_r73, sz_p73, sz_i74, sz_w74, sz_r74, sz_p74, sz_i75, sz_w75, sz_r75, sz_p75, sz_q2, sz_g2, sz_q3, sz_g3, sz_q12, sz_g12, sz_q16, sz_g16, sz_q26, sz_g26, sz_q29, sz_g29, sz_i90, sz_r90, sz_i91, sz_r91, sz_i92, sz_r92, sz_i93, sz_r93, sz_i94, sz_r94, sz_i95, sz_r95, sz_i99, sz_r99, sz_c0, sz_c1, sz_c2, sz_c3, Option.toList, List.cons_append, List.nil_append, sp_h100, sp_h2, sp_h24, sp_h10, sp_h10L, not_false_eq_true, not_true, true_and, and_true, true_implies, false_implies, nI_toInt, nI_clamp, sp_st_ne, sp_st_eq, sp_st_up, nI_1, sp_12, c_hasTank, m_isTank, sp_b0, e0, hT, ht]
    repeat' (first | apply And.intro | (intro _))
    all_goals first | contradiction | exact j_end rfl hA | decide | omega
end SPOA
