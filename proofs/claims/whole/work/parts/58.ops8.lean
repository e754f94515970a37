section SPO8
variable {xs : Nat → Int32} {N : Nat} {σ : sl_S} {kd cl mt mc : Nat → Nat} {nT nM nW nR nF : Nat} {Q : Option sl_V → sl_S → Prop}
theorem j_three {v : Int32} : (0 ≤ v ∧ v ≤ 2) ↔ v = 0 ∨ v = 1 ∨ v = 2 := by
  constructor
  · intro h
    obtain ⟨t, ht, rfl⟩ := (j_tank (n := 3) (by decide)).mp h
    rcases (show t = 0 ∨ t = 1 ∨ t = 2 by omega) with e | e | e <;> subst e
    · exact .inl rfl
    · exact .inr (.inl rfl)
    · exact .inr (.inr rfl)
  · rintro (e | e | e) <;> subst e <;> decide
theorem o_takenNo (h : jJ σ kd cl mt mc nT nM nW nR nF) (a i w : Int32) (hn : ¬ (0 ≤ a ∧ a ≤ 2)) : sl_Go xs N 80 0 [some (.inr (.inr (0, 0, 0))), some (.inl a), some (.inl i), some (.inl w), none] [] σ (jQ xs N 157 [some (.inr (.inr (40, 0, 0))), some (.inl a), some (.inl i), some (.inl w)]) := by
  have hA := h.a
  clear h
  unfold jQ
  simp (disch := omega) only [g80_0, g80_1, g80_2, g80_3, g80_6, g80_9, g80_10, g80_11, g80_13, g80_16, g80_19, g80_21, g157_0, g157_1, g157_2, g157_3, g157_4, g157_7, g157_10, g157_11, g157_12, g157_13, g157_15, g157_18, g157_21, g157_23, sz_i4, sz_w4, sz_r4, sz_p4, sz_i5, sz_w5, sz_r5, sz_p5, sz_i6, sz_w6, sz_r6, sz_p6, sz_i7, sz_w7, sz_r7, sz_p7, sz_i8, sz_w8, sz_r8, sz_p8, sz_i9, sz_w9, sz_r9, sz_p9, sz_i10, sz_w10, sz_r10, sz_p10, sz_i14, sz_w14, sz_r14, sz_p14, sz_i15, sz_w15, sz_r15, sz_p15, sz_i18, sz_w18, sz_r18, sz_p18, sz_i19, sz_w19, sz_r19, sz_p19, sz_w21, sz_r21, sz_p21, sz_i23, sz_w23, sz_r23, sz_p23, sz_i24, sz_w24, sz_r24, sz_p24, sz_i25, sz_w25, sz_r25, sz_p25, sz_i28, sz_w28, sz_r28, sz_p28, sz_i31, sz_w31, sz_r31, sz_p31, sz_i41, sz_w41, sz_r41, sz_p41, sz_i42, sz_w42, sz_r42, sz_p42, sz_i43, sz_w43, sz_r43, sz_p43, sz_i44, sz_w44, sz_r44, sz_p44, sz_i45, sz_w45, sz_r45, sz_p45, sz_i46, sz_w46, sz_r46, sz_p46, sz_i47, sz_w47, sz_r47, sz_p47, sz_i48, sz_w48, sz_r48, sz_p48, sz_i49, sz_w49, sz_r49, sz_p49, sz_i50, sz_w50, sz_r50, sz_p50, sz_w51, sz_r51, sz_p51, sz_i52, sz_w52, sz_r52, sz_p52, sz_i53, sz_w53, sz_r53, sz_p53, sz_i54, sz_w54, sz_r54, sz_p54, sz_i55, sz_w55, sz_r55, sz_p55, sz_i56, sz_w56, sz_r56, sz_p56, sz_i57, sz_w57, sz_r57, sz_p57, sz_i58, sz_w58, sz_r58, sz_p58, sz_i59, sz_w59, sz_r59, sz_p59, sz_i60, sz_w60, sz_r60, sz_p60, sz_i61, sz_w61, sz_r61, sz_p61, sz_w62, sz_r62, sz_p62, sz_i63, sz_w63, sz_r63, sz_p63, sz_i64, sz_w64, sz_r64, sz_p64, sz_i65, sz_w65, sz_r65, sz_p65, sz_i66, sz_w66, sz_r66, sz_p66, sz_i67, sz_w67, sz_r67, sz_p67, sz_i68, sz_w68, sz_r68, sz_p68, sz_i69, sz_w69, sz_r69, sz_p69, sz_i70, sz_w70, sz_r70, sz_p70, sz_w71, sz_r71, sz_p71, sz_i72, sz_w72, sz_r72, sz_p72, sz_i73, sz_w73, sz_r73, sz_p73, sz_i74, sz_w74, sz_r74, sz_p74, sz_i75, sz_w75, sz_r75, sz_p75, sz_q2, sz_g2, sz_q3, sz_g3, sz_q12, sz_g12, sz_q16, sz_g16, sz_q26, sz_g26, sz_q29, sz_g29, sz_i90, sz_r90, sz_i91, sz_r91, sz_i92, sz_r92, sz_i93, sz_r93, sz_i94, sz_r94, sz_i95, sz_r95, sz_i99, sz_r99, sz_c0, sz_c1, sz_c2, sz_c3, Option.toList, List.cons_append, List.nil_append, sp_h100, sp_h2, sp_h24, sp_h10, sp_h10L, not_false_eq_true, not_true, true_and, and_true, true_implies, false_implies, nI_toInt, nI_clamp, sp_st_ne, sp_st_eq, sp_st_up, nI_1, sp_12, c_within, m_in, sp_b0, hn]
  repeat' (first | apply And.intro | (intro _))
  all_goals first | contradiction | exact j_end rfl hA | decide | omega
end SPO8
