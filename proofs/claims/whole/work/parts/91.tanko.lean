section SPTO
variable {xs : Nat → Int32} {N : Nat} {σ : sl_S} {kd cl mt mc : Nat → Nat} {nT nM nW nR nF : Nat} {Q : Option sl_V → sl_S → Prop}
/-- the rig with the tanks of a sheet's rows -/
def jts (V : Nat → Int32) (P : Nat → Nat → Int32) (n : Nat) : Nat → (Nat → Nat → Int32) × Nat
  | 0 => (P, n)
  | k + 1 => if ((0 ≤ V (4 * k) ∧ V (4 * k) ≤ 5) ∧ (2 ≤ V (4 * k + 1) ∧ V (4 * k + 1) ≤ 12) ∧ (1 ≤ V (4 * k + 2) ∧ V (4 * k + 2) ≤ 99) ∧ (-50 ≤ V (4 * k + 3) ∧ V (4 * k + 3) ≤ 50)) ∧ (jts V P n k).2 < 5 then (jTk (jts V P n k).1 (jts V P n k).2 (V (4 * k)) (V (4 * k + 1)) (V (4 * k + 2)) (V (4 * k + 3)), (jts V P n k).2 + 1) else jts V P n k
theorem jts_y {V : Nat → Int32} {P : Nat → Nat → Int32} {n k : Nat} (h : jv (V (4 * k)) (V (4 * k + 1)) (V (4 * k + 2)) (V (4 * k + 3)) ∧ (jts V P n k).2 < 5) : jts V P n (k + 1) = (jTk (jts V P n k).1 (jts V P n k).2 (V (4 * k)) (V (4 * k + 1)) (V (4 * k + 2)) (V (4 * k + 3)), (jts V P n k).2 + 1) := if_pos h
theorem jts_n {V : Nat → Int32} {P : Nat → Nat → Int32} {n k : Nat} (h : ¬ (jv (V (4 * k)) (V (4 * k + 1)) (V (4 * k + 2)) (V (4 * k + 3)) ∧ (jts V P n k).2 < 5)) : jts V P n (k + 1) = jts V P n k := if_neg h
theorem jts_00 {V : Nat → Int32} {P : Nat → Nat → Int32} {n : Nat} (hP : P 0 0 = nI n) (h5 : n ≤ 5) : ∀ k, (jts V P n k).1 0 0 = nI (jts V P n k).2 ∧ (jts V P n k).2 ≤ 5 ∧ n ≤ (jts V P n k).2
  | 0 => ⟨hP, h5, Nat.le_refl _⟩
  | k + 1 => by
    have ih := jts_00 (V := V) hP h5 k
    rcases Classical.em (jv (V (4 * k)) (V (4 * k + 1)) (V (4 * k + 2)) (V (4 * k + 3)) ∧ (jts V P n k).2 < 5) with e | e
    · rw [jts_y e]
      exact ⟨rfl, by have := e.2; show (jts V P n k).2 + 1 ≤ 5; omega, by show n ≤ (jts V P n k).2 + 1; omega⟩
    · rw [jts_n e]
      exact ih
theorem jts_2 {V : Nat → Int32} {P R : Nat → Nat → Int32} {n : Nat} : ∀ k, (jts V P n k).2 = (jts V R n k).2
  | 0 => rfl
  | k + 1 => by
    have ih := jts_2 (V := V) (P := P) (R := R) (n := n) k
    rcases Classical.em (jv (V (4 * k)) (V (4 * k + 1)) (V (4 * k + 2)) (V (4 * k + 3)) ∧ (jts V P n k).2 < 5) with e | e
    · have e2 := e
      rw [ih] at e2
      rw [jts_y e, jts_y e2]
      show (jts V P n k).2 + 1 = (jts V R n k).2 + 1
      rw [ih]
    · have e2 := e
      rw [ih] at e2
      rw [jts_n e, jts_n e2, ih]
theorem jJ.tks (h : jJ σ kd cl mt mc nT nM nW nR nF) {V : Nat → Int32} : ∀ k, ∃ kd' cl', jJ (sp_st (sp_st σ 5 (jts V (σ 5) nT k).1) 6 (jts V (σ 6) nT k).1) kd' cl' mt mc (jts V (σ 6) nT k).2 nM nW nR nF
  | 0 => by
    refine ⟨kd, cl, ?_⟩
    have e : sp_st (sp_st σ 5 (jts V (σ 5) nT 0).1) 6 (jts V (σ 6) nT 0).1 = σ := by
      show sp_st (sp_st σ 5 (σ 5)) 6 (σ 6) = σ
      rw [sp_st_self, sp_st_self]
    rw [e]
    exact h
  | k + 1 => by
    obtain ⟨kd', cl', g⟩ := jJ.tks h (V := V) k
    have i2 := jts_2 (V := V) (P := σ 5) (R := σ 6) (n := nT) k
    rcases Classical.em (jv (V (4 * k)) (V (4 * k + 1)) (V (4 * k + 2)) (V (4 * k + 3)) ∧ (jts V (σ 6) nT k).2 < 5) with e | e
    · have e2 := e
      rw [← i2] at e2
      rw [jts_y e, jts_y e2]
      obtain ⟨⟨hk, hc, hl, hp⟩, h5⟩ := e
      obtain ⟨k', hk', ek⟩ := j_kind.mp hk
      have hc0 : 0 ≤ V (4 * k + 1) ∧ V (4 * k + 1) ≤ 12 := ⟨Int32.le_trans (by decide) hc.1, hc.2⟩
      obtain ⟨c', hc', ec⟩ := (j_tank (n := 13) (by decide)).mp hc0
      have hc2 : 2 ≤ c' := by
        have := (sp_le _ _).mp hc.1
        rw [ec, nI_toInt (by omega)] at this
        have e2 : (2 : Int32).toInt = 2 := rfl
        omega
      have r := g.tank h5 (l := V (4 * k + 2)) (p := V (4 * k + 3)) hk' hc2 (by omega) ⟨(sp_le _ _).mp hl.1, (sp_le _ _).mp hl.2⟩ ⟨(sp_le _ _).mp hp.1, (sp_le _ _).mp hp.2⟩
      rw [← ek, ← ec] at r
      rw [i2]
      exact ⟨_, _, r⟩
    · have e2 := e
      rw [← i2] at e2
      rw [jts_n e, jts_n e2]
      exact ⟨kd', cl', g⟩
theorem nI_4 {k : Nat} : (4 : Int32) * nI k = nI (4 * k) := nI_mul (a := 4)
theorem nI_p2 {k : Nat} : nI k + 2 = nI (k + 2) := nI_add k 2
theorem nI_p3 {k : Nat} : nI k + 3 = nI (k + 3) := nI_add k 3
theorem j_tk {S k f : Nat} (hS : S ≤ 40) (hk : k ≤ 10) (hf : f ≤ 40) : nI S - nI (4 * k) - 4 < nI f ↔ S < f + 4 * k + 4 := by
  have eS : (nI S).toInt = S := nI_toInt (by omega)
  have ek : (nI (4 * k)).toInt = ((4 * k : Nat) : Int) := nI_toInt (by omega)
  have ef : (nI f).toInt = f := nI_toInt (by omega)
  have e4 : (4 : Int32).toInt = 4 := rfl
  have d1 := sp_sub (x := nI S) (y := nI (4 * k)) (by omega) (by omega)
  have d2 := sp_sub (x := nI S - nI (4 * k)) (y := 4) (by omega) (by omega)
  rw [sp_lt, d2, d1, eS, ek, ef, e4]
  omega
theorem c_tksL (h : jJ σ kd cl mt mc nT nM nW nR nF) {s S f m : Nat} {o n : Int32} (hs : s < 4) (hS : S ≤ 40) (h12 : σ 7 12 s = nI S) (hm : m ≤ 10) (hfm : f + 4 * m ≤ S) (hmn : ∀ k, k < m → ¬ n ≤ nI k) (hQ : ∀ (z8 z9 : Option sl_V), (z8 = none ∨ ∃ v, z8 = some (.inl v)) → sl_Go xs N 79 67 [some (.inr (.inr (0, 0, 0))), some (.inl (nI s)), some (.inl o), some (.inl (nI f)), some (.inl n), some (.inr (.inr (30, 0, s))), some (.inl (nI ((jts (fun j => σ 7 13 (40 * s + (f + j))) (σ 5) nT m).2 - nT))), some (.inl (nI m)), z8, z9] [] (sp_st σ 5 (jts (fun j => σ 7 13 (40 * s + (f + j))) (σ 5) nT m).1) Q) : ∀ z8 z9 : Option sl_V, z8 = none → z9 = none → sl_Go xs N 79 67 [some (.inr (.inr (0, 0, 0))), some (.inl (nI s)), some (.inl o), some (.inl (nI f)), some (.inl n), some (.inr (.inr (30, 0, s))), some (.inl 0), some (.inl 0), z8, z9] [] σ Q := by
  intro z8 z9 hz8 hz9
  have e5 : σ 5 0 0 = nI nT := by
    rw [h.rc 0 (by decide) (by decide)]
    exact h.sh.1
  have h5 := h.sh.2.1
  have loop : ∀ i, i ≤ m → ∀ (z8 z9 : Option sl_V), (z8 = none ∨ ∃ v, z8 = some (.inl v)) → sl_Go xs N 79 67 [some (.inr (.inr (0, 0, 0))), some (.inl (nI s)), some (.inl o), some (.inl (nI f)), some (.inl n), some (.inr (.inr (30, 0, s))), some (.inl (nI ((jts (fun j => σ 7 13 (40 * s + (f + j))) (σ 5) nT i).2 - nT))), some (.inl (nI i)), z8, z9] [] (sp_st σ 5 (jts (fun j => σ 7 13 (40 * s + (f + j))) (σ 5) nT i).1) Q := by
    refine sp_down (P := fun i => ∀ (z8 z9 : Option sl_V), (z8 = none ∨ ∃ v, z8 = some (.inl v)) → sl_Go xs N 79 67 [some (.inr (.inr (0, 0, 0))), some (.inl (nI s)), some (.inl o), some (.inl (nI f)), some (.inl n), some (.inr (.inr (30, 0, s))), some (.inl (nI ((jts (fun j => σ 7 13 (40 * s + (f + j))) (σ 5) nT i).2 - nT))), some (.inl (nI i)), z8, z9] [] (sp_st σ 5 (jts (fun j => σ 7 13 (40 * s + (f + j))) (σ 5) nT i).1) Q) (n := m) ?_ ?_
    · intro z8 z9 hz
      exact hQ z8 z9 hz
    · intro k hk ih z8 z9 hz
      have ne := hmn k hk
      have e4 : (4 : Int32).toInt = 4 := rfl
      have b1 : 0 ≤ (nI (f + 4 * k)).toInt ∧ 0 ≤ (4 : Int32).toInt ∧ (nI (f + 4 * k)).toInt + (4 : Int32).toInt ≤ S := by
        rw [nI_toInt (by omega), e4]
        omega
      obtain ⟨g0, g5, gn⟩ := jts_00 (V := fun j => σ 7 13 (40 * s + (f + j))) e5 h5 k
      have h12' : sp_st σ 5 (jts (fun j => σ 7 13 (40 * s + (f + j))) (σ 5) nT k).1 7 12 s = nI S := h12
      have r1 := ih (some (.inl (nI (f + 4 * k)))) (some (.inr (.inr (31, 0, s)))) (.inr ⟨_, rfl⟩)
      rw [g79_67]
      have main : ∀ y8 : Option Int32, sl_Go xs N 79 69 [some (.inr (.inr (0, 0, 0))), some (.inl (nI s)), some (.inl o), some (.inl (nI f)), some (.inl n), some (.inr (.inr (30, 0, s))), some (.inl (nI ((jts (fun j => σ 7 13 (40 * s + (f + j))) (σ 5) nT k).2 - nT))), some (.inl (nI k)), y8.map Sum.inl, z9] [.inl (nI k)] (sp_st σ 5 (jts (fun j => σ 7 13 (40 * s + (f + j))) (σ 5) nT k).1) Q := by
        intro y8
        have body : sl_Go xs N 79 96 [some (.inr (.inr (0, 0, 0))), some (.inl (nI s)), some (.inl o), some (.inl (nI f)), some (.inl n), some (.inr (.inr (30, 0, s))), some (.inl (nI ((jts (fun j => σ 7 13 (40 * s + (f + j))) (σ 5) nT k).2 - nT))), some (.inl (nI k)), some (.inl (nI (f + 4 * k))), z9] [] (sp_st σ 5 (jts (fun j => σ 7 13 (40 * s + (f + j))) (σ 5) nT k).1) Q := by
          have call : sl_Go xs N 26 0 [some (.inr (.inr (11, 0, 0))), some (.inl (σ 7 13 (40 * s + (f + 4 * k)))), some (.inl (σ 7 13 (40 * s + (f + 4 * k + 1)))), some (.inl (σ 7 13 (40 * s + (f + 4 * k + 2)))), some (.inl (σ 7 13 (40 * s + (f + 4 * k + 3)))), none] [] (sp_st σ 5 (jts (fun j => σ 7 13 (40 * s + (f + j))) (σ 5) nT k).1) (fun r τ => sl_Go xs N 79 136 [some (.inr (.inr (0, 0, 0))), some (.inl (nI s)), some (.inl o), some (.inl (nI f)), some (.inl n), some (.inr (.inr (30, 0, s))), some (.inl (nI ((jts (fun j => σ 7 13 (40 * s + (f + j))) (σ 5) nT k).2 - nT))), some (.inl (nI k)), some (.inl (nI (f + 4 * k))), some (.inr (.inr (31, 0, s)))] (r.toList ++ []) τ Q) := by
            refine c_addTank (n := (jts (fun j => σ 7 13 (40 * s + (f + j))) (σ 5) nT k).2) g5 (by rw [sp_st_eq]; exact g0) (fun hv hn v hv0 => ?_) (fun hv v hv0 => ?_)
            · have e := jts_y (V := fun j => σ 7 13 (40 * s + (f + j))) (P := σ 5) (n := nT) (k := k) ⟨hv, hn⟩
              rw [e] at r1
              have e1 : nI ((jts (fun j => σ 7 13 (40 * s + (f + j))) (σ 5) nT k).2 - nT) + 1 = nI ((jts (fun j => σ 7 13 (40 * s + (f + j))) (σ 5) nT k).2 + 1 - nT) := by
                rw [nI_1, show (jts (fun j => σ 7 13 (40 * s + (f + j))) (σ 5) nT k).2 - nT + 1 = (jts (fun j => σ 7 13 (40 * s + (f + j))) (σ 5) nT k).2 + 1 - nT by omega]
              simp (disch := omega) only [g79_136, g79_139n, g79_139i, g79_139r, g79_142n, g79_142i, g79_142r, g79_145, Option.toList, List.cons_append, List.nil_append, hv0, sp_st_st, sp_st_eq, e1]
              rw [nI_1]
              repeat' (first | apply And.intro | (intro _))
              all_goals first | contradiction | exact r1
            · have e := jts_n (V := fun j => σ 7 13 (40 * s + (f + j))) (P := σ 5) (n := nT) (k := k) hv
              rw [e] at r1
              simp (disch := omega) only [g79_136, g79_139n, g79_139i, g79_139r, g79_142n, g79_142i, g79_142r, g79_145, Option.toList, List.cons_append, List.nil_append, hv0]
              rw [nI_1]
              repeat' (first | apply And.intro | (intro _))
              all_goals first | contradiction | exact r1
          simp (disch := omega) only [g79_96, g79_98, g79_101n, g79_101i, g79_101r, g79_103, g79_104, g79_107, g79_109, g79_111, g79_112, g79_114, g79_116, g79_117, g79_118, g79_119, g79_121, g79_123, g79_124, g79_125, g79_126, g79_128, g79_130, g79_131, g79_132, g79_133, sz_i4, sz_w4, sz_r4, sz_p4, sz_i5, sz_w5, sz_r5, sz_p5, sz_i6, sz_w6, sz_r6, sz_p6, sz_i7, sz_w7, sz_r7, sz_p7, sz_i8, sz_w8, sz_r8, sz_p8, sz_i9, sz_w9, sz_r9, sz_p9, sz_i10, sz_w10, sz_r10, sz_p10, sz_i14, sz_w14, sz_r14, sz_p14, sz_i15, sz_w15, sz_r15, sz_p15, sz_i18, sz_w18, sz_r18, sz_p18, sz_i19, sz_w19, sz_r19, sz_p19, sz_w21, sz_r21, sz_p21, sz_i23, sz_w23, sz_r23, sz_p23, sz_i24, sz_w24, sz_r24, sz_p24, sz_i25, sz_w25, sz_r25, sz_p25, sz_i28, sz_w28, sz_r28, sz_p28, sz_i31, sz_w31, sz_r31, sz_p31, sz_i41, sz_w41, sz_r41, sz_p41, sz_i42, sz_w42, sz_r42, sz_p42, sz_i43, sz_w43, sz_r43, sz_p43, sz_i44, sz_w44, sz_r44, sz_p44, sz_i45, sz_w45, sz_r45, sz_p45, sz_i46, sz_w46, sz_r46, sz_p46, sz_i47, sz_w47, sz_r47, sz_p47, sz_i48, sz_w48, sz_r48, sz_p48, sz_i49, sz_w49, sz_r49, sz_p49, sz_i50, sz_w50, sz_r50, sz_p50, sz_w51, sz_r51, sz_p51, sz_i52, sz_w52, sz_r52, sz_p52, sz_i53, sz_w53, sz_r53, sz_p53, sz_i54, sz_w54, sz_r54, sz_p54, sz_i55, sz_w55, sz_r55, sz_p55, sz_i56, sz_w56, sz_r56, sz_p56, sz_i57, sz_w57, sz_r57, sz_p57, sz_i58, sz_w58, sz_r58, sz_p58, sz_i59, sz_w59, sz_r59, sz_p59, sz_i60, sz_w60, sz_r60, sz_p60, sz_i61, sz_w61, sz_r61, sz_p61, sz_w62, sz_r62, sz_p62, sz_i63, sz_w63, sz_r63, sz_p63, sz_i64, sz_w64, sz_r64, sz_p64, sz_i65, sz_w65, sz_r65, sz_p65, sz_i66, sz_w66, sz_r66, sz_p66, sz_i67, sz_w67, sz_r67, sz_p67, sz_i68, sz_w68, sz_r68, sz_p68, sz_i69, sz_w69, sz_r69, sz_p69, sz_i70, sz_w70, sz_r70, sz_p70, sz_w71, sz_r71, sz_p71, sz_i72, sz_w72, sz_r72, sz_p72, sz_i73, sz_w73, sz_r73, sz_p73, sz_i74, sz_w74, sz_r74, sz_p74, sz_i75, sz_w75, sz_r75, sz_p75, sz_q2, sz_g2, sz_q3, sz_g3, sz_q12, sz_g12, sz_q16, sz_g16, sz_q26, sz_g26, sz_q29, sz_g29, sz_i90, sz_r90, sz_i91, sz_r91, sz_i92, sz_r92, sz_i93, sz_r93, sz_i94, sz_r94, sz_i95, sz_r95, sz_i99, sz_r99, sz_c0, sz_c1, sz_c2, sz_c3, Option.toList, List.cons_append, List.nil_append, sp_h100, sp_h2, sp_h24, sp_h10, sp_h10L, not_false_eq_true, not_true, true_and, and_true, true_implies, false_implies, nI_toInt, nI_clamp, sp_st_ne, sp_st_eq, sp_st_up, nI_1, sp_12, nI_p2, nI_p3]
          repeat' (first | apply And.intro | (intro _))
          all_goals first | contradiction | omega | decide | exact call
        cases y8 with
        | none =>
          simp (disch := omega) only [g79_69, g79_71, g79_74, g79_75, g79_76, g79_78, g79_79, g79_80n, g79_80i, g79_80r, g79_82, g79_84, g79_86, g79_87, g79_90, g79_93, sz_i4, sz_w4, sz_r4, sz_p4, sz_i5, sz_w5, sz_r5, sz_p5, sz_i6, sz_w6, sz_r6, sz_p6, sz_i7, sz_w7, sz_r7, sz_p7, sz_i8, sz_w8, sz_r8, sz_p8, sz_i9, sz_w9, sz_r9, sz_p9, sz_i10, sz_w10, sz_r10, sz_p10, sz_i14, sz_w14, sz_r14, sz_p14, sz_i15, sz_w15, sz_r15, sz_p15, sz_i18, sz_w18, sz_r18, sz_p18, sz_i19, sz_w19, sz_r19, sz_p19, sz_w21, sz_r21, sz_p21, sz_i23, sz_w23, sz_r23, sz_p23, sz_i24, sz_w24, sz_r24, sz_p24, sz_i25, sz_w25, sz_r25, sz_p25, sz_i28, sz_w28, sz_r28, sz_p28, sz_i31, sz_w31, sz_r31, sz_p31, sz_i41, sz_w41, sz_r41, sz_p41, sz_i42, sz_w42, sz_r42, sz_p42, sz_i43, sz_w43, sz_r43, sz_p43, sz_i44, sz_w44, sz_r44, sz_p44, sz_i45, sz_w45, sz_r45, sz_p45, sz_i46, sz_w46, sz_r46, sz_p46, sz_i47, sz_w47, sz_r47, sz_p47, sz_i48, sz_w48, sz_r48, sz_p48, sz_i49, sz_w49, sz_r49, sz_p49, sz_i50, sz_w50, sz_r50, sz_p50, sz_w51, sz_r51, sz_p51, sz_i52, sz_w52, sz_r52, sz_p52, sz_i53, sz_w53, sz_r53, sz_p53, sz_i54, sz_w54, sz_r54, sz_p54, sz_i55, sz_w55, sz_r55, sz_p55, sz_i56, sz_w56, sz_r56, sz_p56, sz_i57, sz_w57, sz_r57, sz_p57, sz_i58, sz_w58, sz_r58, sz_p58, sz_i59, sz_w59, sz_r59, sz_p59, sz_i60, sz_w60, sz_r60, sz_p60, sz_i61, sz_w61, sz_r61, sz_p61, sz_w62, sz_r62, sz_p62, sz_i63, sz_w63, sz_r63, sz_p63, sz_i64, sz_w64, sz_r64, sz_p64, sz_i65, sz_w65, sz_r65, sz_p65, sz_i66, sz_w66, sz_r66, sz_p66, sz_i67, sz_w67, sz_r67, sz_p67, sz_i68, sz_w68, sz_r68, sz_p68, sz_i69, sz_w69, sz_r69, sz_p69, sz_i70, sz_w70, sz_r70, sz_p70, sz_w71, sz_r71, sz_p71, sz_i72, sz_w72, sz_r72, sz_p72, sz_i73, sz_w73, sz_r73, sz_p73, sz_i74, sz_w74, sz_r74, sz_p74, sz_i75, sz_w75, sz_r75, sz_p75, sz_q2, sz_g2, sz_q3, sz_g3, sz_q12, sz_g12, sz_q16, sz_g16, sz_q26, sz_g26, sz_q29, sz_g29, sz_i90, sz_r90, sz_i91, sz_r91, sz_i92, sz_r92, sz_i93, sz_r93, sz_i94, sz_r94, sz_i95, sz_r95, sz_i99, sz_r99, sz_c0, sz_c1, sz_c2, sz_c3, Option.toList, List.cons_append, List.nil_append, sp_h100, sp_h2, sp_h24, sp_h10, sp_h10L, not_false_eq_true, not_true, true_and, and_true, true_implies, false_implies, nI_toInt, nI_clamp, sp_st_ne, sp_st_eq, sp_st_up, nI_1, sp_12, ne, nI_4, nI_add, c_holds hS h12', sp_b0, Option.map_none]
          repeat' (first | apply And.intro | (intro _))
          all_goals first | contradiction | omega | exact body
        | some v =>
          simp (disch := omega) only [g79_69, g79_71, g79_74, g79_75, g79_76, g79_78, g79_79, g79_80n, g79_80i, g79_80r, g79_82, g79_84, g79_86, g79_87, g79_90, g79_93, sz_i4, sz_w4, sz_r4, sz_p4, sz_i5, sz_w5, sz_r5, sz_p5, sz_i6, sz_w6, sz_r6, sz_p6, sz_i7, sz_w7, sz_r7, sz_p7, sz_i8, sz_w8, sz_r8, sz_p8, sz_i9, sz_w9, sz_r9, sz_p9, sz_i10, sz_w10, sz_r10, sz_p10, sz_i14, sz_w14, sz_r14, sz_p14, sz_i15, sz_w15, sz_r15, sz_p15, sz_i18, sz_w18, sz_r18, sz_p18, sz_i19, sz_w19, sz_r19, sz_p19, sz_w21, sz_r21, sz_p21, sz_i23, sz_w23, sz_r23, sz_p23, sz_i24, sz_w24, sz_r24, sz_p24, sz_i25, sz_w25, sz_r25, sz_p25, sz_i28, sz_w28, sz_r28, sz_p28, sz_i31, sz_w31, sz_r31, sz_p31, sz_i41, sz_w41, sz_r41, sz_p41, sz_i42, sz_w42, sz_r42, sz_p42, sz_i43, sz_w43, sz_r43, sz_p43, sz_i44, sz_w44, sz_r44, sz_p44, sz_i45, sz_w45, sz_r45, sz_p45, sz_i46, sz_w46, sz_r46, sz_p46, sz_i47, sz_w47, sz_r47, sz_p47, sz_i48, sz_w48, sz_r48, sz_p48, sz_i49, sz_w49, sz_r49, sz_p49, sz_i50, sz_w50, sz_r50, sz_p50, sz_w51, sz_r51, sz_p51, sz_i52, sz_w52, sz_r52, sz_p52, sz_i53, sz_w53, sz_r53, sz_p53, sz_i54, sz_w54, sz_r54, sz_p54, sz_i55, sz_w55, sz_r55, sz_p55, sz_i56, sz_w56, sz_r56, sz_p56, sz_i57, sz_w57, sz_r57, sz_p57, sz_i58, sz_w58, sz_r58, sz_p58, sz_i59, sz_w59, sz_r59, sz_p59, sz_i60, sz_w60, sz_r60, sz_p60, sz_i61, sz_w61, sz_r61, sz_p61, sz_w62, sz_r62, sz_p62, sz_i63, sz_w63, sz_r63, sz_p63, sz_i64, sz_w64, sz_r64, sz_p64, sz_i65, sz_w65, sz_r65, sz_p65, sz_i66, sz_w66, sz_r66, sz_p66, sz_i67, sz_w67, sz_r67, sz_p67, sz_i68, sz_w68, sz_r68, sz_p68, sz_i69, sz_w69, sz_r69, sz_p69, sz_i70, sz_w70, sz_r70, sz_p70, sz_w71, sz_r71, sz_p71, sz_i72, sz_w72, sz_r72, sz_p72, sz_i73, sz_w73, sz_r73, sz_p73, sz_i74, sz_w74, sz_r74, sz_p74, sz_i75, sz_w75, sz_r75, sz_p75, sz_q2, sz_g2, sz_q3, sz_g3, sz_q12, sz_g12, sz_q16, sz_g16, sz_q26, sz_g26, sz_q29, sz_g29, sz_i90, sz_r90, sz_i91, sz_r91, sz_i92, sz_r92, sz_i93, sz_r93, sz_i94, sz_r94, sz_i95, sz_r95, sz_i99, sz_r99, sz_c0, sz_c1, sz_c2, sz_c3, Option.toList, List.cons_append, List.nil_append, sp_h100, sp_h2, sp_h24, sp_h10, sp_h10L, not_false_eq_true, not_true, true_and, and_true, true_implies, false_implies, nI_toInt, nI_clamp, sp_st_ne, sp_st_eq, sp_st_up, nI_1, sp_12, ne, nI_4, nI_add, c_holds hS h12', sp_b0, Option.map_some]
          repeat' (first | apply And.intro | (intro _))
          all_goals first | contradiction | omega | exact body
      rcases hz with e | ⟨v, e⟩
      · rw [e]
        exact main none
      · rw [e]
        exact main (some v)
  have r0 := loop 0 (Nat.zero_le _) z8 z9 (.inl hz8)
  rw [show (jts (fun j => σ 7 13 (40 * s + (f + j))) (σ 5) nT 0) = (σ 5, nT) from rfl] at r0
  rw [sp_st_self, Nat.sub_self] at r0
  exact r0
theorem m_tksL (h : jJ σ kd cl mt mc nT nM nW nR nF) {τ : sl_S} (t6 : τ 6 = σ 6) (t8 : τ 8 = σ 8) {s S f m : Nat} {o n : Int32} (hs : s < 4) (hS : S ≤ 40) (h12 : σ 8 12 s = nI S) (hm : m ≤ 10) (hfm : f + 4 * m ≤ S) (hmn : ∀ k, k < m → ¬ n ≤ nI k) (hQ : ∀ z7, (z7 = none ∨ ∃ v, z7 = some (.inl v)) → sl_Go xs N 155 64 [some (.inr (.inr (40, 0, 0))), some (.inl (nI s)), some (.inl o), some (.inl (nI f)), some (.inl n), some (.inl (nI ((jts (fun j => σ 8 13 (40 * s + (f + j))) (σ 6) nT m).2 - nT))), some (.inl (nI m)), z7] [] (sp_st τ 6 (jts (fun j => σ 8 13 (40 * s + (f + j))) (σ 6) nT m).1) Q) : sl_Go xs N 155 64 [some (.inr (.inr (40, 0, 0))), some (.inl (nI s)), some (.inl o), some (.inl (nI f)), some (.inl n), some (.inl 0), some (.inl 0), none] [] τ Q := by
  have e6 : σ 6 0 0 = nI nT := h.sh.1
  have h5 := h.sh.2.1
  have loop : ∀ i, i ≤ m → ∀ (z7 : Option sl_V), (z7 = none ∨ ∃ v, z7 = some (.inl v)) → sl_Go xs N 155 64 [some (.inr (.inr (40, 0, 0))), some (.inl (nI s)), some (.inl o), some (.inl (nI f)), some (.inl n), some (.inl (nI ((jts (fun j => σ 8 13 (40 * s + (f + j))) (σ 6) nT i).2 - nT))), some (.inl (nI i)), z7] [] (sp_st τ 6 (jts (fun j => σ 8 13 (40 * s + (f + j))) (σ 6) nT i).1) Q := by
    refine sp_down (P := fun i => ∀ (z7 : Option sl_V), (z7 = none ∨ ∃ v, z7 = some (.inl v)) → sl_Go xs N 155 64 [some (.inr (.inr (40, 0, 0))), some (.inl (nI s)), some (.inl o), some (.inl (nI f)), some (.inl n), some (.inl (nI ((jts (fun j => σ 8 13 (40 * s + (f + j))) (σ 6) nT i).2 - nT))), some (.inl (nI i)), z7] [] (sp_st τ 6 (jts (fun j => σ 8 13 (40 * s + (f + j))) (σ 6) nT i).1) Q) (n := m) ?_ ?_
    · intro z7 hz
      exact hQ z7 hz
    · intro k hk ih z7 hz
      have ne := hmn k hk
      have nf : ¬ nI f < 0 := nI_nn (by omega)
      have le : nI f ≤ nI S - nI (4 * k) - 4 := Int32.not_lt.mp (fun x => by
        have := (j_tk hS (by omega) (by omega)).mp x
        omega)
      obtain ⟨g0, g5, gn⟩ := jts_00 (V := fun j => σ 8 13 (40 * s + (f + j))) e6 h5 k
      have r1 := ih (some (.inl (nI (40 * s + f + 4 * k)))) (.inr ⟨_, rfl⟩)
      have call : sl_Go xs N 99 0 [some (.inr (.inr (40, 0, 0))), some (.inl (σ 8 13 (40 * s + (f + 4 * k)))), some (.inl (σ 8 13 (40 * s + (f + (4 * k + 1))))), some (.inl (σ 8 13 (40 * s + (f + (4 * k + 2))))), some (.inl (σ 8 13 (40 * s + (f + (4 * k + 3)))))] [] (sp_st τ 6 (jts (fun j => σ 8 13 (40 * s + (f + j))) (σ 6) nT k).1) (fun r τ' => sl_Go xs N 155 148 [some (.inr (.inr (40, 0, 0))), some (.inl (nI s)), some (.inl o), some (.inl (nI f)), some (.inl n), some (.inl (nI ((jts (fun j => σ 8 13 (40 * s + (f + j))) (σ 6) nT k).2 - nT))), some (.inl (nI k)), some (.inl (nI (40 * s + f + 4 * k)))] (r.toList ++ [.inl (nI ((jts (fun j => σ 8 13 (40 * s + (f + j))) (σ 6) nT k).2 - nT))]) τ' Q) := by
        refine m_tank (n := (jts (fun j => σ 8 13 (40 * s + (f + j))) (σ 6) nT k).2) g5 (by rw [sp_st_eq]; exact g0) (fun hv hn v hv0 => ?_) (fun hv v hv0 => ?_)
        · have e := jts_y (V := fun j => σ 8 13 (40 * s + (f + j))) (P := σ 6) (n := nT) (k := k) ⟨hv, hn⟩
          rw [e] at r1
          have e1 : nI ((jts (fun j => σ 8 13 (40 * s + (f + j))) (σ 6) nT k).2 - nT) + 1 = nI ((jts (fun j => σ 8 13 (40 * s + (f + j))) (σ 6) nT k).2 + 1 - nT) := by
            rw [nI_1, show (jts (fun j => σ 8 13 (40 * s + (f + j))) (σ 6) nT k).2 - nT + 1 = (jts (fun j => σ 8 13 (40 * s + (f + j))) (σ 6) nT k).2 + 1 - nT by omega]
          simp (disch := omega) only [g155_148, g155_151, g155_152, g155_155, g155_156, g155_157n, g155_157i, g155_157r, g155_159n, g155_159i, g155_159r, g155_162, Option.toList, List.cons_append, List.nil_append, hv0, sp_st_st, sp_st_eq, e1]
          rw [nI_1]
          repeat' (first | apply And.intro | (intro _))
          all_goals first | contradiction | exact r1
        · have e := jts_n (V := fun j => σ 8 13 (40 * s + (f + j))) (P := σ 6) (n := nT) (k := k) hv
          rw [e] at r1
          simp (disch := omega) only [g155_148, g155_151, g155_152, g155_155, g155_156, g155_157n, g155_157i, g155_157r, g155_159n, g155_159i, g155_159r, g155_162, Option.toList, List.cons_append, List.nil_append, hv0, Int32.add_zero]
          rw [nI_1]
          repeat' (first | apply And.intro | (intro _))
          all_goals first | contradiction | exact r1
      have s40 : 40 * s + (f + 4 * k) + 4 ≤ 160 := by omega
      rw [g155_64]
      rcases hz with e | ⟨v, e⟩
      · rw [e]
        simp (disch := omega) only [g155_66, g155_68, g155_71, g155_72, g155_75, g155_76, g155_77, g155_80, g155_81, g155_82, g155_83, g155_85, g155_86, g155_87, g155_88, g155_89, g155_92, g155_94, g155_95, g155_97, g155_98, g155_99, g155_100, g155_101, g155_102, g155_104, g155_105, g155_106n, g155_106i, g155_106r, g155_108, g155_110, g155_111, g155_112, g155_115, g155_117, g155_118, g155_119, g155_122, g155_124, g155_125, g155_126, g155_127, g155_128, g155_131, g155_133, g155_134, g155_135, g155_136, g155_137, g155_140, g155_142, g155_143, g155_144, g155_145, sz_i4, sz_w4, sz_r4, sz_p4, sz_i5, sz_w5, sz_r5, sz_p5, sz_i6, sz_w6, sz_r6, sz_p6, sz_i7, sz_w7, sz_r7, sz_p7, sz_i8, sz_w8, sz_r8, sz_p8, sz_i9, sz_w9, sz_r9, sz_p9, sz_i10, sz_w10, sz_r10, sz_p10, sz_i14, sz_w14, sz_r14, sz_p14, sz_i15, sz_w15, sz_r15, sz_p15, sz_i18, sz_w18, sz_r18, sz_p18, sz_i19, sz_w19, sz_r19, sz_p19, sz_w21, sz_r21, sz_p21, sz_i23, sz_w23, sz_r23, sz_p23, sz_i24, sz_w24, sz_r24, sz_p24, sz_i25, sz_w25, sz_r25, sz_p25, sz_i28, sz_w28, sz_r28, sz_p28, sz_i31, sz_w31, sz_r31, sz_p31, sz_i41, sz_w41, sz_r41, sz_p41, sz_i42, sz_w42, sz_r42, sz_p42, sz_i43, sz_w43, sz_r43, sz_p43, sz_i44, sz_w44, sz_r44, sz_p44, sz_i45, sz_w45, sz_r45, sz_p45, sz_i46, sz_w46, sz_r46, sz_p46, sz_i47, sz_w47, sz_r47, sz_p47, sz_i48, sz_w48, sz_r48, sz_p48, sz_i49, sz_w49, sz_r49, sz_p49, sz_i50, sz_w50, sz_r50, sz_p50, sz_w51, sz_r51, sz_p51, sz_i52, sz_w52, sz_r52, sz_p52, sz_i53, sz_w53, sz_r53, sz_p53, sz_i54, sz_w54, sz_r54, sz_p54, sz_i55, sz_w55, sz_r55, sz_p55, sz_i56, sz_w56, sz_r56, sz_p56, sz_i57, sz_w57, sz_r57, sz_p57, sz_i58, sz_w58, sz_r58, sz_p58, sz_i59, sz_w59, sz_r59, sz_p59, sz_i60, sz_w60, sz_r60, sz_p60, sz_i61, sz_w61, sz_r61, sz_p61, sz_w62, sz_r62, sz_p62, sz_i63, sz_w63, sz_r63, sz_p63, sz_i64, sz_w64, sz_r64, sz_p64, sz_i65, sz_w65, sz_r65, sz_p65, sz_i66, sz_w66, sz_r66, sz_p66, sz_i67, sz_w67, sz_r67, sz_p67, sz_i68, sz_w68, sz_r68, sz_p68, sz_i69, sz_w69, sz_r69, sz_p69, sz_i70, sz_w70, sz_r70, sz_p70, sz_w71, sz_r71, sz_p71, sz_i72, sz_w72, sz_r72, sz_p72, sz_i73, sz_w73, sz_r73, sz_p73, sz_i74, sz_w74, sz_r74, sz_p74, sz_i75, sz_w75, sz_r75, sz_p75, sz_q2, sz_g2, sz_q3, sz_g3, sz_q12, sz_g12, sz_q16, sz_g16, sz_q26, sz_g26, sz_q29, sz_g29, sz_i90, sz_r90, sz_i91, sz_r91, sz_i92, sz_r92, sz_i93, sz_r93, sz_i94, sz_r94, sz_i95, sz_r95, sz_i99, sz_r99, sz_c0, sz_c1, sz_c2, sz_c3, Option.toList, List.cons_append, List.nil_append, sp_h100, sp_h2, sp_h24, sp_h10, sp_h10L, not_false_eq_true, not_true, true_and, and_true, true_implies, false_implies, nI_toInt, nI_clamp, sp_st_ne, sp_st_eq, sp_st_up, nI_1, sp_12, ne, nI_4, nI_add, sp_40, nf, t8, h12, le, nI_p2, nI_p3]
        repeat' (first | apply And.intro | (intro _))
        all_goals first | contradiction | omega | decide | (rw [show 40 * s + f + 4 * k = 40 * s + (f + 4 * k) by omega] at call ⊢; exact call)
      · rw [e]
        simp (disch := omega) only [g155_66, g155_68, g155_71, g155_72, g155_75, g155_76, g155_77, g155_80, g155_81, g155_82, g155_83, g155_85, g155_86, g155_87, g155_88, g155_89, g155_92, g155_94, g155_95, g155_97, g155_98, g155_99, g155_100, g155_101, g155_102, g155_104, g155_105, g155_106n, g155_106i, g155_106r, g155_108, g155_110, g155_111, g155_112, g155_115, g155_117, g155_118, g155_119, g155_122, g155_124, g155_125, g155_126, g155_127, g155_128, g155_131, g155_133, g155_134, g155_135, g155_136, g155_137, g155_140, g155_142, g155_143, g155_144, g155_145, sz_i4, sz_w4, sz_r4, sz_p4, sz_i5, sz_w5, sz_r5, sz_p5, sz_i6, sz_w6, sz_r6, sz_p6, sz_i7, sz_w7, sz_r7, sz_p7, sz_i8, sz_w8, sz_r8, sz_p8, sz_i9, sz_w9, sz_r9, sz_p9, sz_i10, sz_w10, sz_r10, sz_p10, sz_i14, sz_w14, sz_r14, sz_p14, sz_i15, sz_w15, sz_r15, sz_p15, sz_i18, sz_w18, sz_r18, sz_p18, sz_i19, sz_w19, sz_r19, sz_p19, sz_w21, sz_r21, sz_p21, sz_i23, sz_w23, sz_r23, sz_p23, sz_i24, sz_w24, sz_r24, sz_p24, sz_i25, sz_w25, sz_r25, sz_p25, sz_i28, sz_w28, sz_r28, sz_p28, sz_i31, sz_w31, sz_r31, sz_p31, sz_i41, sz_w41, sz_r41, sz_p41, sz_i42, sz_w42, sz_r42, sz_p42, sz_i43, sz_w43, sz_r43, sz_p43, sz_i44, sz_w44, sz_r44, sz_p44, sz_i45, sz_w45, sz_r45, sz_p45, sz_i46, sz_w46, sz_r46, sz_p46, sz_i47, sz_w47, sz_r47, sz_p47, sz_i48, sz_w48, sz_r48, sz_p48, sz_i49, sz_w49, sz_r49, sz_p49, sz_i50, sz_w50, sz_r50, sz_p50, sz_w51, sz_r51, sz_p51, sz_i52, sz_w52, sz_r52, sz_p52, sz_i53, sz_w53, sz_r53, sz_p53, sz_i54, sz_w54, sz_r54, sz_p54, sz_i55, sz_w55, sz_r55, sz_p55, sz_i56, sz_w56, sz_r56, sz_p56, sz_i57, sz_w57, sz_r57, sz_p57, sz_i58, sz_w58, sz_r58, sz_p58, sz_i59, sz_w59, sz_r59, sz_p59, sz_i60, sz_w60, sz_r60, sz_p60, sz_i61, sz_w61, sz_r61, sz_p61, sz_w62, sz_r62, sz_p62, sz_i63, sz_w63, sz_r63, sz_p63, sz_i64, sz_w64, sz_r64, sz_p64, sz_i65, sz_w65, sz_r65, sz_p65, sz_i66, sz_w66, sz_r66, sz_p66, sz_i67, sz_w67, sz_r67, sz_p67, sz_i68, sz_w68, sz_r68, sz_p68, sz_i69, sz_w69, sz_r69, sz_p69, sz_i70, sz_w70, sz_r70, sz_p70, sz_w71, sz_r71, sz_p71, sz_i72, sz_w72, sz_r72, sz_p72, sz_i73, sz_w73, sz_r73, sz_p73, sz_i74, sz_w74, sz_r74, sz_p74, sz_i75, sz_w75, sz_r75, sz_p75, sz_q2, sz_g2, sz_q3, sz_g3, sz_q12, sz_g12, sz_q16, sz_g16, sz_q26, sz_g26, sz_q29, sz_g29, sz_i90, sz_r90, sz_i91, sz_r91, sz_i92, sz_r92, sz_i93, sz_r93, sz_i94, sz_r94, sz_i95, sz_r95, sz_i99, sz_r99, sz_c0, sz_c1, sz_c2, sz_c3, Option.toList, List.cons_append, List.nil_append, sp_h100, sp_h2, sp_h24, sp_h10, sp_h10L, not_false_eq_true, not_true, true_and, and_true, true_implies, false_implies, nI_toInt, nI_clamp, sp_st_ne, sp_st_eq, sp_st_up, nI_1, sp_12, ne, nI_4, nI_add, sp_40, nf, t8, h12, le, nI_p2, nI_p3]
        repeat' (first | apply And.intro | (intro _))
        all_goals first | contradiction | omega | decide | (rw [show 40 * s + f + 4 * k = 40 * s + (f + 4 * k) by omega] at call ⊢; exact call)
  have r0 := loop 0 (Nat.zero_le _) none (.inl rfl)
  rw [show (jts (fun j => σ 8 13 (40 * s + (f + j))) (σ 6) nT 0) = (σ 6, nT) from rfl] at r0
  rw [← t6, sp_st_self, Nat.sub_self] at r0
  exact r0
end SPTO
