def jr1 (first : Nat) (l : jLg) : Nat → jLg
  | 0 => l
  | k + 1 => jadd (jr1 first l k) ((jr1 first l k).2.1 (first + k)) ((jr1 first l k).2.2 (first + k))
def jrp (first many : Nat) (l : jLg) : Nat → jLg
  | 0 => l
  | m + 1 => jr1 first (jrp first many l m) many
def jlegs (T : Nat → Int32) (S : Nat) (b : Bool) : Nat → Nat → jLg → Sum Nat (Nat × jLg)
  | 0, p, _ => .inl p
  | f + 1, p, l => if jnx' T S p = 41 then .inr (p, l) else match jleg T S p b l with
    | .inl q => .inl q
    | .inr (p2, l2) => jlegs T S b f p2 l2
def jgrp (T : Nat → Int32) (S p : Nat) (l : jLg) : Sum Nat (Nat × jLg) :=
  match jnum T S (p + 1) with
  | .inl q => .inl q
  | .inr (t, p2) => match jexp T S p2 58 with
    | .inl q => .inl q
    | .inr p3 => match jlegs T S (decide (0 < t)) (S + 1) p3 l with
      | .inl q => .inl q
      | .inr (p4, l2) => if 12 < l.1 + (l2.1 - l.1) * t.toNatClampNeg then .inl p4 else .inr (p4 + 1, jrp l.1 (l2.1 - l.1) l2 (t.toNatClampNeg - 1))
def jtext (T : Nat → Int32) (S : Nat) : Nat → Nat → jLg → Sum Nat (Nat × jLg)
  | 0, p, _ => .inl p
  | f + 1, p, l => if p < S then (match (if jnx' T S p = 40 then jgrp T S p l else jleg T S p true l) with
    | .inl q => .inl q
    | .inr (p2, l2) => jtext T S f p2 l2) else .inr (p, l)
section SPY3
variable {xs : Nat → Int32} {N : Nat} {σ : sl_S} {Q : Option sl_V → sl_S → Prop}
theorem jr1_1 {first : Nat} {l : jLg} : ∀ k, (jr1 first l k).1 = l.1 + k
  | 0 => rfl
  | k + 1 => by
    rw [jr1]
    show (jr1 first l k).1 + 1 = _
    rw [jr1_1 k, Nat.add_assoc]
theorem jrp_1 {first many : Nat} {l : jLg} : ∀ m, (jrp first many l m).1 = l.1 + m * many
  | 0 => by rw [Nat.zero_mul]; rfl
  | m + 1 => by rw [jrp, jr1_1, jrp_1 m, Nat.add_mul, Nat.one_mul, Nat.add_assoc]
theorem jleg_in {T : Nat → Int32} {S p p2 : Nat} {b : Bool} {l l2 : jLg} (h : jleg T S p b l = .inr (p2, l2)) (h12 : l.1 ≤ 12) : p < p2 ∧ p2 ≤ S ∧ l.1 ≤ l2.1 ∧ l2.1 ≤ 12 ∧ (b = false → l2 = l) := by
  unfold jleg at h
  split at h
  · contradiction
  · rename_i nb
    have lb : ∀ t n, l.1 ≤ (if b = true then jadd l t n else l).1 ∧ (if b = true then jadd l t n else l).1 ≤ 12 ∧ (b = false → (if b = true then jadd l t n else l) = l) := by
      intro t n
      cases b with
      | false => exact ⟨Nat.le_refl _, h12, fun _ => rfl⟩
      | true =>
        have : ¬ l.1 = 12 := fun x => nb (.inr ⟨rfl, x⟩)
        refine ⟨?_, ?_, fun x => absurd x (by decide)⟩
        · show l.1 ≤ l.1 + 1
          omega
        · show l.1 + 1 ≤ 12
          omega
    split at h
    · contradiction
    · rename_i t q2 e2
      obtain ⟨-, n1, n2, n3⟩ := jnum_in e2
      split at h
      · split at h
        · contradiction
        · rename_i q3 e3
          obtain ⟨m1, m2⟩ := jexp_in (by decide) e3
          have h := Sum.inr.inj h
          have h1 := congrArg Prod.fst h
          have h2 := congrArg Prod.snd h
          dsimp only at h1 h2
          rw [← h2]
          exact ⟨by omega, by omega, lb _ _⟩
      · split at h
        · contradiction
        · rename_i q3 e3
          obtain ⟨m1, m2⟩ := jexp_in (by decide) e3
          split at h
          · contradiction
          · rename_i d q4 e4
            obtain ⟨-, o1, o2, o3⟩ := jnum_in e4
            split at h
            · contradiction
            · rename_i q5 e5
              obtain ⟨r1, r2⟩ := jexp_in (by decide) e5
              have h := Sum.inr.inj h
              have h1 := congrArg Prod.fst h
              have h2 := congrArg Prod.snd h
              dsimp only at h1 h2
              rw [← h2]
              exact ⟨by omega, by omega, lb _ _⟩
/-- the class's repetition -/
theorem c_repeat {A P0 P : Nat → Nat → Int32} {y first many : Nat} {l : jLg} {t : Nat} (hy : y < 6) (hl : jwl' P0 y l P) (hf : first + many ≤ l.1) (ht : t < 100) (h12 : 0 < many → l.1 + (t - 1) * many ≤ 12) (hQ : ∀ P', jwl' P0 y (jrp first many l (t - 1)) P' → Q none (sp_st (sp_st σ 5 P') 7 A)) : sl_Go xs N 40 0 [some (.inr (.inr (17, 0, y))), some (.inl (nI first)), some (.inl (nI many)), some (.inl (nI t - 1)), none, none] [] (sp_st (sp_st σ 5 P) 7 A) Q := by
  have hl12 := hl.2.2.2.2.1
  have loop : ∀ m, m ≤ t - 1 → ∀ P (z5 : Option Int32), jwl' P0 y (jrp first many l m) P → sl_Go xs N 40 3 [some (.inr (.inr (17, 0, y))), some (.inl (nI first)), some (.inl (nI many)), some (.inl (nI t - 1)), some (.inl (nI m)), z5.map Sum.inl] [] (sp_st (sp_st σ 5 P) 7 A) Q := by
    refine sp_down (P := fun m => ∀ P (z5 : Option Int32), jwl' P0 y (jrp first many l m) P → sl_Go xs N 40 3 [some (.inr (.inr (17, 0, y))), some (.inl (nI first)), some (.inl (nI many)), some (.inl (nI t - 1)), some (.inl (nI m)), z5.map Sum.inl] [] (sp_st (sp_st σ 5 P) 7 A) Q) (n := t - 1) ?_ ?_
    · intro P z5 hP
      have q := hQ P hP
      have le : nI t - 1 ≤ nI (t - 1) := by
        by_cases e : t = 0
        · subst e
          decide
        · rw [show (1 : Int32) = nI 1 from rfl, pk_sub (by omega)]
          exact Int32.le_refl _
      simp (disch := omega) only [g40_3, g40_5, g40_6, g40_50, sz_i4, sz_w4, sz_r4, sz_p4, sz_i5, sz_w5, sz_r5, sz_p5, sz_i6, sz_w6, sz_r6, sz_p6, sz_i7, sz_w7, sz_r7, sz_p7, sz_i8, sz_w8, sz_r8, sz_p8, sz_i9, sz_w9, sz_r9, sz_p9, sz_i10, sz_w10, sz_r10, sz_p10, sz_i14, sz_w14, sz_r14, sz_p14, sz_i15, sz_w15, sz_r15, sz_p15, sz_i18, sz_w18, sz_r18, sz_p18, sz_i19, sz_w19, sz_r19, sz_p19, sz_w21, sz_r21, sz_p21, sz_i23, sz_w23, sz_r23, sz_p23, sz_i24, sz_w24, sz_r24, sz_p24, sz_i25, sz_w25, sz_r25, sz_p25, sz_i28, sz_w28, sz_r28, sz_p28, sz_i31, sz_w31, sz_r31, sz_p31, sz_i41, sz_w41, sz_r41, sz_p41, sz_i42, sz_w42, sz_r42, sz_p42, sz_i43, sz_w43, sz_r43, sz_p43, sz_i44, sz_w44, sz_r44, sz_p44, sz_i45, sz_w45, sz_r45, sz_p45, sz_i46, sz_w46, sz_r46, sz_p46, sz_i47, sz_w47, sz_r47, sz_p47, sz_i48, sz_w48, sz_r48, sz_p48, sz_i49, sz_w49, sz_r49, sz_p49, sz_i50, sz_w50, sz_r50, sz_p50, sz_w51, sz_r51, sz_p51, sz_i52, sz_w52, sz_r52, sz_p52, sz_i53, sz_w53, sz_r53, sz_p53, sz_i54, sz_w54, sz_r54, sz_p54, sz_i55, sz_w55, sz_r55, sz_p55, sz_i56, sz_w56, sz_r56, sz_p56, sz_i57, sz_w57, sz_r57, sz_p57, sz_i58, sz_w58, sz_r58, sz_p58, sz_i59, sz_w59, sz_r59, sz_p59, sz_i60, sz_w60, sz_r60, sz_p60, sz_i61, sz_w61, sz_r61, sz_p61, sz_w62, sz_r62, sz_p62, sz_i63, sz_w63, sz_r63, sz_p63, sz_i64, sz_w64, sz_r64, sz_p64, sz_i65, sz_w65, sz_r65, sz_p65, sz_i66, sz_w66, sz_r66, sz_p66, sz_i67, sz_w67, sz_r67, sz_p67, sz_i68, sz_w68, sz_r68, sz_p68, sz_i69, sz_w69, sz_r69, sz_p69, sz_i70, sz_w70, sz_r70, sz_p70, sz_w71, sz_r71, sz_p71, sz_i72, sz_w72, sz_r72, sz_p72, sz_i73, sz_w73, sz_r73, sz_p73, sz_i74, sz_w74, sz_r74, sz_p74, sz_i75, sz_w75, sz_r75, sz_p75, sz_q2, sz_g2, sz_q3, sz_g3, sz_q12, sz_g12, sz_q16, sz_g16, sz_q26, sz_g26, sz_q29, sz_g29, sz_i90, sz_r90, sz_i91, sz_r91, sz_i92, sz_r92, sz_i93, sz_r93, sz_i94, sz_r94, sz_i95, sz_r95, sz_i99, sz_r99, sz_c0, sz_c1, sz_c2, sz_c3, Option.toList, List.cons_append, List.nil_append, sp_h100, sp_h2, sp_h24, sp_h10, sp_h10L, not_false_eq_true, not_true, true_and, and_true, true_implies, false_implies, nI_toInt, nI_clamp, sp_st_ne, sp_st_eq, sp_st_up, nI_1, sp_12, le]
      repeat' (first | apply And.intro | (intro _))
      all_goals first | contradiction | exact q
    · intro m hm ih P z5 hP
      have e1 : nI t - 1 = nI (t - 1) := by rw [show (1 : Int32) = nI 1 from rfl, pk_sub (by omega)]
      have le : ¬ nI t - 1 ≤ nI m := fun x => by
        rw [e1] at x
        have := (jn_le (by omega) (by omega)).mp x
        omega
      have l1 := jrp_1 (first := first) (many := many) (l := l) m
      have inner : ∀ k, k ≤ many → ∀ P, jwl' P0 y (jr1 first (jrp first many l m) k) P → sl_Go xs N 40 12 [some (.inr (.inr (17, 0, y))), some (.inl (nI first)), some (.inl (nI many)), some (.inl (nI t - 1)), some (.inl (nI m)), some (.inl (nI (first + k)))] [] (sp_st (sp_st σ 5 P) 7 A) Q := by
        refine sp_down (P := fun k => ∀ P, jwl' P0 y (jr1 first (jrp first many l m) k) P → sl_Go xs N 40 12 [some (.inr (.inr (17, 0, y))), some (.inl (nI first)), some (.inl (nI many)), some (.inl (nI t - 1)), some (.inl (nI m)), some (.inl (nI (first + k)))] [] (sp_st (sp_st σ 5 P) 7 A) Q) (n := many) ?_ ?_
        · intro P hP
          have q := ih P (some (nI (first + many))) hP
          have le2 : nI (first + many) ≤ nI (first + many) := Int32.le_refl _
          simp (disch := omega) only [g40_12, g40_14, g40_15, g40_16, g40_17, g40_44n, g40_44i, g40_44r, g40_47, sz_i4, sz_w4, sz_r4, sz_p4, sz_i5, sz_w5, sz_r5, sz_p5, sz_i6, sz_w6, sz_r6, sz_p6, sz_i7, sz_w7, sz_r7, sz_p7, sz_i8, sz_w8, sz_r8, sz_p8, sz_i9, sz_w9, sz_r9, sz_p9, sz_i10, sz_w10, sz_r10, sz_p10, sz_i14, sz_w14, sz_r14, sz_p14, sz_i15, sz_w15, sz_r15, sz_p15, sz_i18, sz_w18, sz_r18, sz_p18, sz_i19, sz_w19, sz_r19, sz_p19, sz_w21, sz_r21, sz_p21, sz_i23, sz_w23, sz_r23, sz_p23, sz_i24, sz_w24, sz_r24, sz_p24, sz_i25, sz_w25, sz_r25, sz_p25, sz_i28, sz_w28, sz_r28, sz_p28, sz_i31, sz_w31, sz_r31, sz_p31, sz_i41, sz_w41, sz_r41, sz_p41, sz_i42, sz_w42, sz_r42, sz_p42, sz_i43, sz_w43, sz_r43, sz_p43, sz_i44, sz_w44, sz_r44, sz_p44, sz_i45, sz_w45, sz_r45, sz_p45, sz_i46, sz_w46, sz_r46, sz_p46, sz_i47, sz_w47, sz_r47, sz_p47, sz_i48, sz_w48, sz_r48, sz_p48, sz_i49, sz_w49, sz_r49, sz_p49, sz_i50, sz_w50, sz_r50, sz_p50, sz_w51, sz_r51, sz_p51, sz_i52, sz_w52, sz_r52, sz_p52, sz_i53, sz_w53, sz_r53, sz_p53, sz_i54, sz_w54, sz_r54, sz_p54, sz_i55, sz_w55, sz_r55, sz_p55, sz_i56, sz_w56, sz_r56, sz_p56, sz_i57, sz_w57, sz_r57, sz_p57, sz_i58, sz_w58, sz_r58, sz_p58, sz_i59, sz_w59, sz_r59, sz_p59, sz_i60, sz_w60, sz_r60, sz_p60, sz_i61, sz_w61, sz_r61, sz_p61, sz_w62, sz_r62, sz_p62, sz_i63, sz_w63, sz_r63, sz_p63, sz_i64, sz_w64, sz_r64, sz_p64, sz_i65, sz_w65, sz_r65, sz_p65, sz_i66, sz_w66, sz_r66, sz_p66, sz_i67, sz_w67, sz_r67, sz_p67, sz_i68, sz_w68, sz_r68, sz_p68, sz_i69, sz_w69, sz_r69, sz_p69, sz_i70, sz_w70, sz_r70, sz_p70, sz_w71, sz_r71, sz_p71, sz_i72, sz_w72, sz_r72, sz_p72, sz_i73, sz_w73, sz_r73, sz_p73, sz_i74, sz_w74, sz_r74, sz_p74, sz_i75, sz_w75, sz_r75, sz_p75, sz_q2, sz_g2, sz_q3, sz_g3, sz_q12, sz_g12, sz_q16, sz_g16, sz_q26, sz_g26, sz_q29, sz_g29, sz_i90, sz_r90, sz_i91, sz_r91, sz_i92, sz_r92, sz_i93, sz_r93, sz_i94, sz_r94, sz_i95, sz_r95, sz_i99, sz_r99, sz_c0, sz_c1, sz_c2, sz_c3, Option.toList, List.cons_append, List.nil_append, sp_h100, sp_h2, sp_h24, sp_h10, sp_h10L, not_false_eq_true, not_true, true_and, and_true, true_implies, false_implies, nI_toInt, nI_clamp, sp_st_ne, sp_st_eq, sp_st_up, nI_1, sp_12, nI_add, le2]
          repeat' (first | apply And.intro | (intro _))
          all_goals first | contradiction | exact q
        · intro k hk ih2 P hP
          have le2 : ¬ nI (first + many) ≤ nI (first + k) := fun x => by
            have := (jn_le (by omega) (by omega)).mp x
            omega
          have l2 := jr1_1 (first := first) (l := jrp first many l m) k
          have mm : (m + 1) * many ≤ (t - 1) * many := Nat.mul_le_mul_right many (by omega)
          rw [Nat.add_mul, Nat.one_mul] at mm
          have hh := h12 (by omega)
          have n12 : ¬ (jr1 first (jrp first many l m) k).1 = 12 := by
            rw [l2, l1]
            omega
          obtain ⟨r9, r10⟩ := hP.2.2.2.2.2 (first + k) (by rw [l2, l1]; omega)
          have fk : first + k < 12 := by
            have := hP.2.2.2.2.1
            rw [l2, l1] at this
            omega
          have add : sl_Go xs N 46 0 [some (.inr (.inr (17, 0, y))), some (.inl ((jr1 first (jrp first many l m) k).2.1 (first + k))), some (.inl ((jr1 first (jrp first many l m) k).2.2 (first + k)))] [] (sp_st (sp_st σ 5 P) 7 A) (fun r τ => sl_Go xs N 40 38 [some (.inr (.inr (17, 0, y))), some (.inl (nI first)), some (.inl (nI many)), some (.inl (nI t - 1)), some (.inl (nI m)), some (.inl (nI (first + k)))] (r.toList ++ []) τ Q) := by
            rw [sp_st_c (by decide)]
            refine c_wadd hy hP ?_
            intro P' hP'
            rw [if_neg n12] at hP'
            have q := ih2 P' hP'
            rw [sp_st_c (by decide)]
            simp (disch := omega) only [g40_38n, g40_38i, g40_38r, g40_41, sz_i4, sz_w4, sz_r4, sz_p4, sz_i5, sz_w5, sz_r5, sz_p5, sz_i6, sz_w6, sz_r6, sz_p6, sz_i7, sz_w7, sz_r7, sz_p7, sz_i8, sz_w8, sz_r8, sz_p8, sz_i9, sz_w9, sz_r9, sz_p9, sz_i10, sz_w10, sz_r10, sz_p10, sz_i14, sz_w14, sz_r14, sz_p14, sz_i15, sz_w15, sz_r15, sz_p15, sz_i18, sz_w18, sz_r18, sz_p18, sz_i19, sz_w19, sz_r19, sz_p19, sz_w21, sz_r21, sz_p21, sz_i23, sz_w23, sz_r23, sz_p23, sz_i24, sz_w24, sz_r24, sz_p24, sz_i25, sz_w25, sz_r25, sz_p25, sz_i28, sz_w28, sz_r28, sz_p28, sz_i31, sz_w31, sz_r31, sz_p31, sz_i41, sz_w41, sz_r41, sz_p41, sz_i42, sz_w42, sz_r42, sz_p42, sz_i43, sz_w43, sz_r43, sz_p43, sz_i44, sz_w44, sz_r44, sz_p44, sz_i45, sz_w45, sz_r45, sz_p45, sz_i46, sz_w46, sz_r46, sz_p46, sz_i47, sz_w47, sz_r47, sz_p47, sz_i48, sz_w48, sz_r48, sz_p48, sz_i49, sz_w49, sz_r49, sz_p49, sz_i50, sz_w50, sz_r50, sz_p50, sz_w51, sz_r51, sz_p51, sz_i52, sz_w52, sz_r52, sz_p52, sz_i53, sz_w53, sz_r53, sz_p53, sz_i54, sz_w54, sz_r54, sz_p54, sz_i55, sz_w55, sz_r55, sz_p55, sz_i56, sz_w56, sz_r56, sz_p56, sz_i57, sz_w57, sz_r57, sz_p57, sz_i58, sz_w58, sz_r58, sz_p58, sz_i59, sz_w59, sz_r59, sz_p59, sz_i60, sz_w60, sz_r60, sz_p60, sz_i61, sz_w61, sz_r61, sz_p61, sz_w62, sz_r62, sz_p62, sz_i63, sz_w63, sz_r63, sz_p63, sz_i64, sz_w64, sz_r64, sz_p64, sz_i65, sz_w65, sz_r65, sz_p65, sz_i66, sz_w66, sz_r66, sz_p66, sz_i67, sz_w67, sz_r67, sz_p67, sz_i68, sz_w68, sz_r68, sz_p68, sz_i69, sz_w69, sz_r69, sz_p69, sz_i70, sz_w70, sz_r70, sz_p70, sz_w71, sz_r71, sz_p71, sz_i72, sz_w72, sz_r72, sz_p72, sz_i73, sz_w73, sz_r73, sz_p73, sz_i74, sz_w74, sz_r74, sz_p74, sz_i75, sz_w75, sz_r75, sz_p75, sz_q2, sz_g2, sz_q3, sz_g3, sz_q12, sz_g12, sz_q16, sz_g16, sz_q26, sz_g26, sz_q29, sz_g29, sz_i90, sz_r90, sz_i91, sz_r91, sz_i92, sz_r92, sz_i93, sz_r93, sz_i94, sz_r94, sz_i95, sz_r95, sz_i99, sz_r99, sz_c0, sz_c1, sz_c2, sz_c3, Option.toList, List.cons_append, List.nil_append, sp_h100, sp_h2, sp_h24, sp_h10, sp_h10L, not_false_eq_true, not_true, true_and, and_true, true_implies, false_implies, nI_toInt, nI_clamp, sp_st_ne, sp_st_eq, sp_st_up, nI_1, sp_12]
            exact q
          rw [g40_12]
          simp (disch := omega) only [g40_14, g40_15, g40_16, g40_17, g40_20, g40_21, g40_22, g40_25, g40_27, g40_28, g40_29, g40_32, g40_34, g40_35, sz_i4, sz_w4, sz_r4, sz_p4, sz_i5, sz_w5, sz_r5, sz_p5, sz_i6, sz_w6, sz_r6, sz_p6, sz_i7, sz_w7, sz_r7, sz_p7, sz_i8, sz_w8, sz_r8, sz_p8, sz_i9, sz_w9, sz_r9, sz_p9, sz_i10, sz_w10, sz_r10, sz_p10, sz_i14, sz_w14, sz_r14, sz_p14, sz_i15, sz_w15, sz_r15, sz_p15, sz_i18, sz_w18, sz_r18, sz_p18, sz_i19, sz_w19, sz_r19, sz_p19, sz_w21, sz_r21, sz_p21, sz_i23, sz_w23, sz_r23, sz_p23, sz_i24, sz_w24, sz_r24, sz_p24, sz_i25, sz_w25, sz_r25, sz_p25, sz_i28, sz_w28, sz_r28, sz_p28, sz_i31, sz_w31, sz_r31, sz_p31, sz_i41, sz_w41, sz_r41, sz_p41, sz_i42, sz_w42, sz_r42, sz_p42, sz_i43, sz_w43, sz_r43, sz_p43, sz_i44, sz_w44, sz_r44, sz_p44, sz_i45, sz_w45, sz_r45, sz_p45, sz_i46, sz_w46, sz_r46, sz_p46, sz_i47, sz_w47, sz_r47, sz_p47, sz_i48, sz_w48, sz_r48, sz_p48, sz_i49, sz_w49, sz_r49, sz_p49, sz_i50, sz_w50, sz_r50, sz_p50, sz_w51, sz_r51, sz_p51, sz_i52, sz_w52, sz_r52, sz_p52, sz_i53, sz_w53, sz_r53, sz_p53, sz_i54, sz_w54, sz_r54, sz_p54, sz_i55, sz_w55, sz_r55, sz_p55, sz_i56, sz_w56, sz_r56, sz_p56, sz_i57, sz_w57, sz_r57, sz_p57, sz_i58, sz_w58, sz_r58, sz_p58, sz_i59, sz_w59, sz_r59, sz_p59, sz_i60, sz_w60, sz_r60, sz_p60, sz_i61, sz_w61, sz_r61, sz_p61, sz_w62, sz_r62, sz_p62, sz_i63, sz_w63, sz_r63, sz_p63, sz_i64, sz_w64, sz_r64, sz_p64, sz_i65, sz_w65, sz_r65, sz_p65, sz_i66, sz_w66, sz_r66, sz_p66, sz_i67, sz_w67, sz_r67, sz_p67, sz_i68, sz_w68, sz_r68, sz_p68, sz_i69, sz_w69, sz_r69, sz_p69, sz_i70, sz_w70, sz_r70, sz_p70, sz_w71, sz_r71, sz_p71, sz_i72, sz_w72, sz_r72, sz_p72, sz_i73, sz_w73, sz_r73, sz_p73, sz_i74, sz_w74, sz_r74, sz_p74, sz_i75, sz_w75, sz_r75, sz_p75, sz_q2, sz_g2, sz_q3, sz_g3, sz_q12, sz_g12, sz_q16, sz_g16, sz_q26, sz_g26, sz_q29, sz_g29, sz_i90, sz_r90, sz_i91, sz_r91, sz_i92, sz_r92, sz_i93, sz_r93, sz_i94, sz_r94, sz_i95, sz_r95, sz_i99, sz_r99, sz_c0, sz_c1, sz_c2, sz_c3, Option.toList, List.cons_append, List.nil_append, sp_h100, sp_h2, sp_h24, sp_h10, sp_h10L, not_false_eq_true, not_true, true_and, and_true, true_implies, false_implies, nI_toInt, nI_clamp, sp_st_ne, sp_st_eq, sp_st_up, nI_1, sp_12, nI_add, le2, r9, r10]
          repeat' (first | apply And.intro | (intro _))
          all_goals first | contradiction | omega | decide | exact add
      have r := inner 0 (Nat.zero_le _) P hP
      rw [Nat.add_zero] at r
      rw [g40_3]
      cases z5 with
      | none =>
        simp (disch := omega) only [g40_5, g40_6, g40_9, g40_10n, g40_10i, g40_10r, sz_i4, sz_w4, sz_r4, sz_p4, sz_i5, sz_w5, sz_r5, sz_p5, sz_i6, sz_w6, sz_r6, sz_p6, sz_i7, sz_w7, sz_r7, sz_p7, sz_i8, sz_w8, sz_r8, sz_p8, sz_i9, sz_w9, sz_r9, sz_p9, sz_i10, sz_w10, sz_r10, sz_p10, sz_i14, sz_w14, sz_r14, sz_p14, sz_i15, sz_w15, sz_r15, sz_p15, sz_i18, sz_w18, sz_r18, sz_p18, sz_i19, sz_w19, sz_r19, sz_p19, sz_w21, sz_r21, sz_p21, sz_i23, sz_w23, sz_r23, sz_p23, sz_i24, sz_w24, sz_r24, sz_p24, sz_i25, sz_w25, sz_r25, sz_p25, sz_i28, sz_w28, sz_r28, sz_p28, sz_i31, sz_w31, sz_r31, sz_p31, sz_i41, sz_w41, sz_r41, sz_p41, sz_i42, sz_w42, sz_r42, sz_p42, sz_i43, sz_w43, sz_r43, sz_p43, sz_i44, sz_w44, sz_r44, sz_p44, sz_i45, sz_w45, sz_r45, sz_p45, sz_i46, sz_w46, sz_r46, sz_p46, sz_i47, sz_w47, sz_r47, sz_p47, sz_i48, sz_w48, sz_r48, sz_p48, sz_i49, sz_w49, sz_r49, sz_p49, sz_i50, sz_w50, sz_r50, sz_p50, sz_w51, sz_r51, sz_p51, sz_i52, sz_w52, sz_r52, sz_p52, sz_i53, sz_w53, sz_r53, sz_p53, sz_i54, sz_w54, sz_r54, sz_p54, sz_i55, sz_w55, sz_r55, sz_p55, sz_i56, sz_w56, sz_r56, sz_p56, sz_i57, sz_w57, sz_r57, sz_p57, sz_i58, sz_w58, sz_r58, sz_p58, sz_i59, sz_w59, sz_r59, sz_p59, sz_i60, sz_w60, sz_r60, sz_p60, sz_i61, sz_w61, sz_r61, sz_p61, sz_w62, sz_r62, sz_p62, sz_i63, sz_w63, sz_r63, sz_p63, sz_i64, sz_w64, sz_r64, sz_p64, sz_i65, sz_w65, sz_r65, sz_p65, sz_i66, sz_w66, sz_r66, sz_p66, sz_i67, sz_w67, sz_r67, sz_p67, sz_i68, sz_w68, sz_r68, sz_p68, sz_i69, sz_w69, sz_r69, sz_p69, sz_i70, sz_w70, sz_r70, sz_p70, sz_w71, sz_r71, sz_p71, sz_i72, sz_w72, sz_r72, sz_p72, sz_i73, sz_w73, sz_r73, sz_p73, sz_i74, sz_w74, sz_r74, sz_p74, sz_i75, sz_w75, sz_r75, sz_p75, sz_q2, sz_g2, sz_q3, sz_g3, sz_q12, sz_g12, sz_q16, sz_g16, sz_q26, sz_g26, sz_q29, sz_g29, sz_i90, sz_r90, sz_i91, sz_r91, sz_i92, sz_r92, sz_i93, sz_r93, sz_i94, sz_r94, sz_i95, sz_r95, sz_i99, sz_r99, sz_c0, sz_c1, sz_c2, sz_c3, Option.toList, List.cons_append, List.nil_append, sp_h100, sp_h2, sp_h24, sp_h10, sp_h10L, not_false_eq_true, not_true, true_and, and_true, true_implies, false_implies, nI_toInt, nI_clamp, sp_st_ne, sp_st_eq, sp_st_up, nI_1, sp_12, le, Option.map_none]
        repeat' (first | apply And.intro | (intro _))
        all_goals first | contradiction | exact r
      | some w =>
        simp (disch := omega) only [g40_5, g40_6, g40_9, g40_10n, g40_10i, g40_10r, sz_i4, sz_w4, sz_r4, sz_p4, sz_i5, sz_w5, sz_r5, sz_p5, sz_i6, sz_w6, sz_r6, sz_p6, sz_i7, sz_w7, sz_r7, sz_p7, sz_i8, sz_w8, sz_r8, sz_p8, sz_i9, sz_w9, sz_r9, sz_p9, sz_i10, sz_w10, sz_r10, sz_p10, sz_i14, sz_w14, sz_r14, sz_p14, sz_i15, sz_w15, sz_r15, sz_p15, sz_i18, sz_w18, sz_r18, sz_p18, sz_i19, sz_w19, sz_r19, sz_p19, sz_w21, sz_r21, sz_p21, sz_i23, sz_w23, sz_r23, sz_p23, sz_i24, sz_w24, sz_r24, sz_p24, sz_i25, sz_w25, sz_r25, sz_p25, sz_i28, sz_w28, sz_r28, sz_p28, sz_i31, sz_w31, sz_r31, sz_p31, sz_i41, sz_w41, sz_r41, sz_p41, sz_i42, sz_w42, sz_r42, sz_p42, sz_i43, sz_w43, sz_r43, sz_p43, sz_i44, sz_w44, sz_r44, sz_p44, sz_i45, sz_w45, sz_r45, sz_p45, sz_i46, sz_w46, sz_r46, sz_p46, sz_i47, sz_w47, sz_r47, sz_p47, sz_i48, sz_w48, sz_r48, sz_p48, sz_i49, sz_w49, sz_r49, sz_p49, sz_i50, sz_w50, sz_r50, sz_p50, sz_w51, sz_r51, sz_p51, sz_i52, sz_w52, sz_r52, sz_p52, sz_i53, sz_w53, sz_r53, sz_p53, sz_i54, sz_w54, sz_r54, sz_p54, sz_i55, sz_w55, sz_r55, sz_p55, sz_i56, sz_w56, sz_r56, sz_p56, sz_i57, sz_w57, sz_r57, sz_p57, sz_i58, sz_w58, sz_r58, sz_p58, sz_i59, sz_w59, sz_r59, sz_p59, sz_i60, sz_w60, sz_r60, sz_p60, sz_i61, sz_w61, sz_r61, sz_p61, sz_w62, sz_r62, sz_p62, sz_i63, sz_w63, sz_r63, sz_p63, sz_i64, sz_w64, sz_r64, sz_p64, sz_i65, sz_w65, sz_r65, sz_p65, sz_i66, sz_w66, sz_r66, sz_p66, sz_i67, sz_w67, sz_r67, sz_p67, sz_i68, sz_w68, sz_r68, sz_p68, sz_i69, sz_w69, sz_r69, sz_p69, sz_i70, sz_w70, sz_r70, sz_p70, sz_w71, sz_r71, sz_p71, sz_i72, sz_w72, sz_r72, sz_p72, sz_i73, sz_w73, sz_r73, sz_p73, sz_i74, sz_w74, sz_r74, sz_p74, sz_i75, sz_w75, sz_r75, sz_p75, sz_q2, sz_g2, sz_q3, sz_g3, sz_q12, sz_g12, sz_q16, sz_g16, sz_q26, sz_g26, sz_q29, sz_g29, sz_i90, sz_r90, sz_i91, sz_r91, sz_i92, sz_r92, sz_i93, sz_r93, sz_i94, sz_r94, sz_i95, sz_r95, sz_i99, sz_r99, sz_c0, sz_c1, sz_c2, sz_c3, Option.toList, List.cons_append, List.nil_append, sp_h100, sp_h2, sp_h24, sp_h10, sp_h10L, not_false_eq_true, not_true, true_and, and_true, true_implies, false_implies, nI_toInt, nI_clamp, sp_st_ne, sp_st_eq, sp_st_up, nI_1, sp_12, le, Option.map_some]
        repeat' (first | apply And.intro | (intro _))
        all_goals first | contradiction | exact r
  have r := loop 0 (Nat.zero_le _) P none hl
  simp (disch := omega) only [g40_0, g40_1n, g40_1i, g40_1r, sz_i4, sz_w4, sz_r4, sz_p4, sz_i5, sz_w5, sz_r5, sz_p5, sz_i6, sz_w6, sz_r6, sz_p6, sz_i7, sz_w7, sz_r7, sz_p7, sz_i8, sz_w8, sz_r8, sz_p8, sz_i9, sz_w9, sz_r9, sz_p9, sz_i10, sz_w10, sz_r10, sz_p10, sz_i14, sz_w14, sz_r14, sz_p14, sz_i15, sz_w15, sz_r15, sz_p15, sz_i18, sz_w18, sz_r18, sz_p18, sz_i19, sz_w19, sz_r19, sz_p19, sz_w21, sz_r21, sz_p21, sz_i23, sz_w23, sz_r23, sz_p23, sz_i24, sz_w24, sz_r24, sz_p24, sz_i25, sz_w25, sz_r25, sz_p25, sz_i28, sz_w28, sz_r28, sz_p28, sz_i31, sz_w31, sz_r31, sz_p31, sz_i41, sz_w41, sz_r41, sz_p41, sz_i42, sz_w42, sz_r42, sz_p42, sz_i43, sz_w43, sz_r43, sz_p43, sz_i44, sz_w44, sz_r44, sz_p44, sz_i45, sz_w45, sz_r45, sz_p45, sz_i46, sz_w46, sz_r46, sz_p46, sz_i47, sz_w47, sz_r47, sz_p47, sz_i48, sz_w48, sz_r48, sz_p48, sz_i49, sz_w49, sz_r49, sz_p49, sz_i50, sz_w50, sz_r50, sz_p50, sz_w51, sz_r51, sz_p51, sz_i52, sz_w52, sz_r52, sz_p52, sz_i53, sz_w53, sz_r53, sz_p53, sz_i54, sz_w54, sz_r54, sz_p54, sz_i55, sz_w55, sz_r55, sz_p55, sz_i56, sz_w56, sz_r56, sz_p56, sz_i57, sz_w57, sz_r57, sz_p57, sz_i58, sz_w58, sz_r58, sz_p58, sz_i59, sz_w59, sz_r59, sz_p59, sz_i60, sz_w60, sz_r60, sz_p60, sz_i61, sz_w61, sz_r61, sz_p61, sz_w62, sz_r62, sz_p62, sz_i63, sz_w63, sz_r63, sz_p63, sz_i64, sz_w64, sz_r64, sz_p64, sz_i65, sz_w65, sz_r65, sz_p65, sz_i66, sz_w66, sz_r66, sz_p66, sz_i67, sz_w67, sz_r67, sz_p67, sz_i68, sz_w68, sz_r68, sz_p68, sz_i69, sz_w69, sz_r69, sz_p69, sz_i70, sz_w70, sz_r70, sz_p70, sz_w71, sz_r71, sz_p71, sz_i72, sz_w72, sz_r72, sz_p72, sz_i73, sz_w73, sz_r73, sz_p73, sz_i74, sz_w74, sz_r74, sz_p74, sz_i75, sz_w75, sz_r75, sz_p75, sz_q2, sz_g2, sz_q3, sz_g3, sz_q12, sz_g12, sz_q16, sz_g16, sz_q26, sz_g26, sz_q29, sz_g29, sz_i90, sz_r90, sz_i91, sz_r91, sz_i92, sz_r92, sz_i93, sz_r93, sz_i94, sz_r94, sz_i95, sz_r95, sz_i99, sz_r99, sz_c0, sz_c1, sz_c2, sz_c3, Option.toList, List.cons_append, List.nil_append, sp_h100, sp_h2, sp_h24, sp_h10, sp_h10L, not_false_eq_true, not_true, true_and, and_true, true_implies, false_implies, nI_toInt, nI_clamp, sp_st_ne, sp_st_eq, sp_st_up, nI_1, sp_12]
  exact r
end SPY3
