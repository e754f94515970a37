section SPB
variable {xs : Nat → Int32} {N : Nat} {σ : sl_S} {kd cl mt mc : Nat → Nat} {nT nM nW nR nF : Nat} {Q : Option sl_V → sl_S → Prop}
/-- at the places p it has what Mi has, at all others what M has -/
def sp_gp (Mi M : Nat → Nat → Int32) (p : Nat → Nat → Prop) (C : Nat → Nat → Int32) : Prop := (∀ k j, p k j → C k j = Mi k j) ∧ ∀ k j, ¬ p k j → C k j = M k j
theorem sp_gp_u {Mi M C : Nat → Nat → Int32} {p q : Nat → Nat → Prop} {k i : Nat} {v : Int32} (h : sp_gp Mi M p C) (hv : v = Mi k i) (hq : ∀ k' j, q k' j ↔ p k' j ∨ (k' = k ∧ j = i)) : sp_gp Mi M q (sl_u2 C k i v) := by
  have f : ∀ k' j, ¬ (k' = k ∧ j = i) → sl_u2 C k i v k' j = C k' j := by
    intro k' j hn
    by_cases e : k' = k
    · subst e
      rw [sp_u2_eq, sp_u1_ne (fun x => hn ⟨rfl, x⟩)]
    · rw [sp_u2_ne e]
  refine ⟨?_, ?_⟩
  · intro k' j hj
    by_cases e : k' = k ∧ j = i
    · obtain ⟨e1, e2⟩ := e
      subst e1 e2
      rw [sp_u2_eq, sp_u1_eq, hv]
    · rw [f k' j e]
      exact h.1 k' j (((hq k' j).mp hj).resolve_right e)
  · intro k' j hj
    have := (not_congr (hq k' j)).mp hj
    rw [f k' j (fun x => this (.inr x))]
    exact h.2 k' j (fun x => this (.inl x))
/-- a row's piece taken over -/
def sp_cr (C S : Nat → Nat → Int32) (k q n : Nat) : Nat → Nat → Int32 := fun c j => if c = k ∧ q ≤ j ∧ j < q + n then S k j else C c j
theorem sp_gp_cr {Mi M C S : Nat → Nat → Int32} {p q : Nat → Nat → Prop} {k o n : Nat} (h : sp_gp Mi M p C) (hS : ∀ j, S k j = Mi k j) (hq : ∀ k' j, q k' j ↔ p k' j ∨ (k' = k ∧ o ≤ j ∧ j < o + n)) : sp_gp Mi M q (sp_cr C S k o n) := by
  refine ⟨?_, ?_⟩
  · intro k' j hj
    unfold sp_cr
    by_cases e : k' = k ∧ o ≤ j ∧ j < o + n
    · rw [if_pos e, hS, e.1]
    · rw [if_neg e]
      exact h.1 k' j (((hq k' j).mp hj).resolve_right e)
  · intro k' j hj
    have := (not_congr (hq k' j)).mp hj
    unfold sp_cr
    rw [if_neg (fun x => this (.inr x))]
    exact h.2 k' j (fun x => this (.inl x))
theorem sp_cpg {C : Nat → Nat → Int32} {b b' K o n : Nat} (hb : ¬ b' = b) : (fun a => if a = b then (fun c => if c = K then (fun j => if o + 0 ≤ j ∧ j < o + 0 + n then (sp_st σ b C) b' K (o + 0 + (j - (o + 0))) else (sp_st σ b C) b K j) else (sp_st σ b C) b c) else (sp_st σ b C) a) = sp_st σ b (sp_cr C (σ b') K o n) := by
  funext a c j
  simp only [Nat.add_zero]
  by_cases e : a = b
  · subst e
    rw [if_pos rfl, sp_st_eq, sp_st_eq, sp_st_ne hb]
    unfold sp_cr
    by_cases e2 : c = K
    · subst e2
      rw [if_pos rfl]
      by_cases e3 : o ≤ j ∧ j < o + n
      · rw [if_pos e3, if_pos ⟨rfl, e3⟩, show o + (j - o) = j by omega]
      · rw [if_neg e3, if_neg (fun x => e3 x.2)]
    · rw [if_neg e2, if_neg (fun x => e2 x.1)]
  · rw [if_neg e, sp_st_ne e, sp_st_ne e]
theorem sz_cp4 {C : Nat → Nat → Int32} {b b' t : Nat} (hb : ¬ b' = b) : sl_cp (sp_st σ b C) (4, b', t) (4, b, t) 0 0 12 = sp_st σ b (sp_cr C (σ b') 1 (12 * t) 12) := sp_cpg hb
theorem sz_cp5 {C : Nat → Nat → Int32} {b b' t : Nat} (hb : ¬ b' = b) : sl_cp (sp_st σ b C) (5, b', t) (5, b, t) 0 0 12 = sp_st σ b (sp_cr C (σ b') 2 (12 * t) 12) := sp_cpg hb
theorem sz_cp6 {C : Nat → Nat → Int32} {b b' t : Nat} (hb : ¬ b' = b) : sl_cp (sp_st σ b C) (6, b', t) (6, b, t) 0 0 5 = sp_st σ b (sp_cr C (σ b') 3 0 5) := sp_cpg hb
theorem sz_cp7 {C : Nat → Nat → Int32} {b b' t : Nat} (hb : ¬ b' = b) : sl_cp (sp_st σ b C) (7, b', t) (7, b, t) 0 0 5 = sp_st σ b (sp_cr C (σ b') 4 0 5) := sp_cpg hb
theorem sz_cp8 {C : Nat → Nat → Int32} {b b' t : Nat} (hb : ¬ b' = b) : sl_cp (sp_st σ b C) (8, b', t) (8, b, t) 0 0 6 = sp_st σ b (sp_cr C (σ b') 5 0 6) := sp_cpg hb
theorem sz_cp9 {C : Nat → Nat → Int32} {b b' t : Nat} (hb : ¬ b' = b) : sl_cp (sp_st σ b C) (9, b', t) (9, b, t) 0 0 6 = sp_st σ b (sp_cr C (σ b') 6 0 6) := sp_cpg hb
theorem sz_cp10 {C : Nat → Nat → Int32} {b b' t : Nat} (hb : ¬ b' = b) : sl_cp (sp_st σ b C) (10, b', t) (10, b, t) 0 0 6 = sp_st σ b (sp_cr C (σ b') 7 0 6) := sp_cpg hb
theorem jcl : ((0 : Int32).toNatClampNeg = 0 ∧ (5 : Int32).toNatClampNeg = 5 ∧ (6 : Int32).toNatClampNeg = 6 ∧ (12 : Int32).toNatClampNeg = 12) ∧ (0 : Int32).toInt = 0 ∧ (5 : Int32).toInt = 5 ∧ (6 : Int32).toInt = 6 ∧ (12 : Int32).toInt = 12 := by decide
/-- a liquid of the class becomes another -/
theorem c_become {b b' : Nat} (hb : ¬ b' = b) (ht : σ b' 0 8 = 0 ∨ σ b' 0 8 = 1) (hQ : ∀ C, (∀ k j, sp_rg k j → C k j = σ b' k j) → C 8 0 = σ b' 8 0 → C 8 1 = σ b' 8 1 → C 8 2 = 0 → (∀ k j, k < 8 → ¬ sp_rg k j → C k j = σ b k j) → Q none (sp_st σ b C)) : sl_Go xs N 10 0 [some (.inr (.inr (1, b, 0))), some (.inr (.inr (1, b', 0))), none] [] σ Q := by
  obtain ⟨⟨q0, q5, q6, q12⟩, w0, w5, w6, w12⟩ := jcl
  have hQ2 : ∀ C, sp_gp (fun k j => if k = 8 ∧ j = 2 then 0 else σ b' k j) (σ b) (fun k j => sp_rg k j ∨ (k = 8 ∧ (j < 3))) C → Q none (sp_st σ b C) := by
    intro C h
    refine hQ C ?_ ?_ ?_ ?_ ?_
    · intro k j hr
      rw [h.1 k j (.inl hr)]
      exact if_neg (by unfold sp_rg at hr; omega)
    · rw [h.1 8 0 (.inr (by omega))]
      exact if_neg (by omega)
    · rw [h.1 8 1 (.inr (by omega))]
      exact if_neg (by omega)
    · rw [h.1 8 2 (.inr (by omega))]
      exact if_pos (by omega)
    · intro k j hk hr
      exact h.2 k j (fun x => x.elim hr (fun y => by omega))
  have rest : ∀ C, sp_gp (fun k j => if k = 8 ∧ j = 2 then 0 else σ b' k j) (σ b) (fun k j => (k = 1 ∨ k = 2) ∧ j < 60) C → ∀ z, sl_Go xs N 10 51 [some (.inr (.inr (1, b, 0))), some (.inr (.inr (1, b', 0))), z] [] (sp_st σ b C) Q := by
    intro C h z
    simp (disch := first | omega | exact hb) only [g10_51, g10_52, g10_55, g10_56, g10_57, g10_60, g10_61, g10_62, g10_65, g10_66, g10_69, g10_70, g10_71, g10_74, g10_75, g10_76, g10_79, g10_80, g10_83, g10_84, g10_85, g10_88, g10_89, g10_91, g10_94, g10_95, g10_98, g10_99, g10_100, g10_103, g10_104, g10_106, g10_109, g10_110, g10_113, g10_114, g10_115, g10_118, g10_119, g10_121, g10_124, g10_125, g10_126, g10_129, g10_132, g10_133, g10_134, g10_137, g10_140, g10_141, g10_142, g10_145, g10_148, g10_149, g10_150, g10_153, g10_156, g10_157, g10_158, g10_161, g10_164, g10_165, g10_166, g10_169, g10_172, g10_173, g10_174, g10_177, g10_180, g10_181, g10_182, g10_185, g10_188, g10_189, g10_190, g10_193, g10_196, g10_197, g10_198, g10_201, sz_i4, sz_w4, sz_r4, sz_p4, sz_i5, sz_w5, sz_r5, sz_p5, sz_i6, sz_w6, sz_r6, sz_p6, sz_i7, sz_w7, sz_r7, sz_p7, sz_i8, sz_w8, sz_r8, sz_p8, sz_i9, sz_w9, sz_r9, sz_p9, sz_i10, sz_w10, sz_r10, sz_p10, sz_i14, sz_w14, sz_r14, sz_p14, sz_i15, sz_w15, sz_r15, sz_p15, sz_i18, sz_w18, sz_r18, sz_p18, sz_i19, sz_w19, sz_r19, sz_p19, sz_w21, sz_r21, sz_p21, sz_i23, sz_w23, sz_r23, sz_p23, sz_i24, sz_w24, sz_r24, sz_p24, sz_i25, sz_w25, sz_r25, sz_p25, sz_i28, sz_w28, sz_r28, sz_p28, sz_i31, sz_w31, sz_r31, sz_p31, sz_i41, sz_w41, sz_r41, sz_p41, sz_i42, sz_w42, sz_r42, sz_p42, sz_i43, sz_w43, sz_r43, sz_p43, sz_i44, sz_w44, sz_r44, sz_p44, sz_i45, sz_w45, sz_r45, sz_p45, sz_i46, sz_w46, sz_r46, sz_p46, sz_i47, sz_w47, sz_r47, sz_p47, sz_i48, sz_w48, sz_r48, sz_p48, sz_i49, sz_w49, sz_r49, sz_p49, sz_i50, sz_w50, sz_r50, sz_p50, sz_w51, sz_r51, sz_p51, sz_i52, sz_w52, sz_r52, sz_p52, sz_i53, sz_w53, sz_r53, sz_p53, sz_i54, sz_w54, sz_r54, sz_p54, sz_i55, sz_w55, sz_r55, sz_p55, sz_i56, sz_w56, sz_r56, sz_p56, sz_i57, sz_w57, sz_r57, sz_p57, sz_i58, sz_w58, sz_r58, sz_p58, sz_i59, sz_w59, sz_r59, sz_p59, sz_i60, sz_w60, sz_r60, sz_p60, sz_i61, sz_w61, sz_r61, sz_p61, sz_w62, sz_r62, sz_p62, sz_i63, sz_w63, sz_r63, sz_p63, sz_i64, sz_w64, sz_r64, sz_p64, sz_i65, sz_w65, sz_r65, sz_p65, sz_i66, sz_w66, sz_r66, sz_p66, sz_i67, sz_w67, sz_r67, sz_p67, sz_i68, sz_w68, sz_r68, sz_p68, sz_i69, sz_w69, sz_r69, sz_p69, sz_i70, sz_w70, sz_r70, sz_p70, sz_w71, sz_r71, sz_p71, sz_i72, sz_w72, sz_r72, sz_p72, sz_i73, sz_w73, sz_r73, sz_p73, sz_i74, sz_w74, sz_r74, sz_p74, sz_i75, sz_w75, sz_r75, sz_p75, sz_q2, sz_g2, sz_q3, sz_g3, sz_q12, sz_g12, sz_q16, sz_g16, sz_q26, sz_g26, sz_q29, sz_g29, sz_i90, sz_r90, sz_i91, sz_r91, sz_i92, sz_r92, sz_i93, sz_r93, sz_i94, sz_r94, sz_i95, sz_r95, sz_i99, sz_r99, sz_c0, sz_c1, sz_c2, sz_c3, Option.toList, List.cons_append, List.nil_append, sp_h100, sp_h2, sp_h24, sp_h10, sp_h10L, not_false_eq_true, not_true, true_and, and_true, true_implies, false_implies, nI_toInt, nI_clamp, sp_st_ne, sp_st_eq, sp_st_up, nI_1, sp_12, q0, q5, q6, w0, w5, w6, sz_cp6, sz_cp7, sz_cp8, sz_cp9, sz_cp10]
    have f : ∀ k j, ¬ (k = 8 ∧ j = 2) → σ b' k j = (fun k j => if k = 8 ∧ j = 2 then 0 else σ b' k j) k j := fun k j hn => (if_neg hn).symm
    have s3 := sp_gp_cr (S := σ b') (k := 3) (o := 0) (n := 5) (q := fun k j => ((k = 1 ∨ k = 2) ∧ j < 60) ∨ (k = 3 ∧ j < 5)) h (fun j => f 3 j (by omega)) (fun k' j => by omega)
    have s4 := sp_gp_cr (S := σ b') (k := 4) (o := 0) (n := 5) (q := fun k j => (((k = 1 ∨ k = 2) ∧ j < 60) ∨ (k = 3 ∧ j < 5)) ∨ (k = 4 ∧ j < 5)) s3 (fun j => f 4 j (by omega)) (fun k' j => by omega)
    have s5 := sp_gp_cr (S := σ b') (k := 5) (o := 0) (n := 6) (q := fun k j => ((((k = 1 ∨ k = 2) ∧ j < 60) ∨ (k = 3 ∧ j < 5)) ∨ (k = 4 ∧ j < 5)) ∨ (k = 5 ∧ j < 6)) s4 (fun j => f 5 j (by omega)) (fun k' j => by omega)
    have s6 := sp_gp_cr (S := σ b') (k := 6) (o := 0) (n := 6) (q := fun k j => (((((k = 1 ∨ k = 2) ∧ j < 60) ∨ (k = 3 ∧ j < 5)) ∨ (k = 4 ∧ j < 5)) ∨ (k = 5 ∧ j < 6)) ∨ (k = 6 ∧ j < 6)) s5 (fun j => f 6 j (by omega)) (fun k' j => by omega)
    have s7 := sp_gp_cr (S := σ b') (k := 7) (o := 0) (n := 6) (q := fun k j => ((((((k = 1 ∨ k = 2) ∧ j < 60) ∨ (k = 3 ∧ j < 5)) ∨ (k = 4 ∧ j < 5)) ∨ (k = 5 ∧ j < 6)) ∨ (k = 6 ∧ j < 6)) ∨ (k = 7 ∧ j < 6)) s6 (fun j => f 7 j (by omega)) (fun k' j => by omega)
    have a0 := sp_gp_u (v := σ b' 0 0) (k := 0) (i := 0) (q := fun k j => (((1 ≤ k ∧ k ≤ 2) ∧ j < 60) ∨ ((3 ≤ k ∧ k ≤ 4) ∧ j < 5) ∨ ((5 ≤ k ∧ k ≤ 7) ∧ j < 6)) ∨ (k = 0 ∧ j = 0)) s7 (f 0 0 (by omega)) (fun k' j => by omega)
    have a1 := sp_gp_u (v := σ b' 0 1) (k := 0) (i := 1) (q := fun k j => (((1 ≤ k ∧ k ≤ 2) ∧ j < 60) ∨ ((3 ≤ k ∧ k ≤ 4) ∧ j < 5) ∨ ((5 ≤ k ∧ k ≤ 7) ∧ j < 6)) ∨ (k = 0 ∧ j < 2)) a0 (f 0 1 (by omega)) (fun k' j => by omega)
    have a2 := sp_gp_u (v := σ b' 0 2) (k := 0) (i := 2) (q := fun k j => (((1 ≤ k ∧ k ≤ 2) ∧ j < 60) ∨ ((3 ≤ k ∧ k ≤ 4) ∧ j < 5) ∨ ((5 ≤ k ∧ k ≤ 7) ∧ j < 6)) ∨ (k = 0 ∧ j < 3)) a1 (f 0 2 (by omega)) (fun k' j => by omega)
    have a3 := sp_gp_u (v := σ b' 8 0) (k := 8) (i := 0) (q := fun k j => ((((1 ≤ k ∧ k ≤ 2) ∧ j < 60) ∨ ((3 ≤ k ∧ k ≤ 4) ∧ j < 5) ∨ ((5 ≤ k ∧ k ≤ 7) ∧ j < 6)) ∨ (k = 0 ∧ j < 3)) ∨ (k = 8 ∧ j = 0)) a2 (f 8 0 (by omega)) (fun k' j => by omega)
    have a4 := sp_gp_u (v := σ b' 8 1) (k := 8) (i := 1) (q := fun k j => ((((1 ≤ k ∧ k ≤ 2) ∧ j < 60) ∨ ((3 ≤ k ∧ k ≤ 4) ∧ j < 5) ∨ ((5 ≤ k ∧ k ≤ 7) ∧ j < 6)) ∨ (k = 0 ∧ j < 3)) ∨ (k = 8 ∧ j < 2)) a3 (f 8 1 (by omega)) (fun k' j => by omega)
    have a5 := sp_gp_u (v := σ b' 0 5) (k := 0) (i := 5) (q := fun k j => ((((1 ≤ k ∧ k ≤ 2) ∧ j < 60) ∨ ((3 ≤ k ∧ k ≤ 4) ∧ j < 5) ∨ ((5 ≤ k ∧ k ≤ 7) ∧ j < 6)) ∨ (k = 0 ∧ (j < 3 ∨ j = 5))) ∨ (k = 8 ∧ j < 2)) a4 (f 0 5 (by omega)) (fun k' j => by omega)
    have a6 := sp_gp_u (v := σ b' 0 6) (k := 0) (i := 6) (q := fun k j => ((((1 ≤ k ∧ k ≤ 2) ∧ j < 60) ∨ ((3 ≤ k ∧ k ≤ 4) ∧ j < 5) ∨ ((5 ≤ k ∧ k ≤ 7) ∧ j < 6)) ∨ (k = 0 ∧ (j < 3 ∨ j = 5 ∨ j = 6))) ∨ (k = 8 ∧ j < 2)) a5 (f 0 6 (by omega)) (fun k' j => by omega)
    have a7 := sp_gp_u (v := σ b' 0 7) (k := 0) (i := 7) (q := fun k j => ((((1 ≤ k ∧ k ≤ 2) ∧ j < 60) ∨ ((3 ≤ k ∧ k ≤ 4) ∧ j < 5) ∨ ((5 ≤ k ∧ k ≤ 7) ∧ j < 6)) ∨ (k = 0 ∧ (j < 3 ∨ j = 5 ∨ j = 6 ∨ j = 7))) ∨ (k = 8 ∧ j < 2)) a6 (f 0 7 (by omega)) (fun k' j => by omega)
    have a8 := sp_gp_u (v := σ b' 0 8) (k := 0) (i := 8) (q := fun k j => ((((1 ≤ k ∧ k ≤ 2) ∧ j < 60) ∨ ((3 ≤ k ∧ k ≤ 4) ∧ j < 5) ∨ ((5 ≤ k ∧ k ≤ 7) ∧ j < 6)) ∨ (k = 0 ∧ (j < 3 ∨ j = 5 ∨ j = 6 ∨ j = 7 ∨ j = 8))) ∨ (k = 8 ∧ j < 2)) a7 (f 0 8 (by omega)) (fun k' j => by omega)
    have a9 := sp_gp_u (v := 0) (k := 8) (i := 2) (q := fun k j => sp_rg k j ∨ (k = 8 ∧ j < 3)) a8 (if_pos ⟨rfl, rfl⟩).symm (fun k' j => by unfold sp_rg; omega)
    have r := hQ2 _ a9
    repeat' (first | apply And.intro | (intro _))
    all_goals first | omega | decide | exact ht | exact r
  have h0 : σ = sp_st σ b (σ b) := sp_st_self.symm
  simp (disch := omega) only [g10_0, g10_1n, g10_1i, g10_1r, sz_i4, sz_w4, sz_r4, sz_p4, sz_i5, sz_w5, sz_r5, sz_p5, sz_i6, sz_w6, sz_r6, sz_p6, sz_i7, sz_w7, sz_r7, sz_p7, sz_i8, sz_w8, sz_r8, sz_p8, sz_i9, sz_w9, sz_r9, sz_p9, sz_i10, sz_w10, sz_r10, sz_p10, sz_i14, sz_w14, sz_r14, sz_p14, sz_i15, sz_w15, sz_r15, sz_p15, sz_i18, sz_w18, sz_r18, sz_p18, sz_i19, sz_w19, sz_r19, sz_p19, sz_w21, sz_r21, sz_p21, sz_i23, sz_w23, sz_r23, sz_p23, sz_i24, sz_w24, sz_r24, sz_p24, sz_i25, sz_w25, sz_r25, sz_p25, sz_i28, sz_w28, sz_r28, sz_p28, sz_i31, sz_w31, sz_r31, sz_p31, sz_i41, sz_w41, sz_r41, sz_p41, sz_i42, sz_w42, sz_r42, sz_p42, sz_i43, sz_w43, sz_r43, sz_p43, sz_i44, sz_w44, sz_r44, sz_p44, sz_i45, sz_w45, sz_r45, sz_p45, sz_i46, sz_w46, sz_r46, sz_p46, sz_i47, sz_w47, sz_r47, sz_p47, sz_i48, sz_w48, sz_r48, sz_p48, sz_i49, sz_w49, sz_r49, sz_p49, sz_i50, sz_w50, sz_r50, sz_p50, sz_w51, sz_r51, sz_p51, sz_i52, sz_w52, sz_r52, sz_p52, sz_i53, sz_w53, sz_r53, sz_p53, sz_i54, sz_w54, sz_r54, sz_p54, sz_i55, sz_w55, sz_r55, sz_p55, sz_i56, sz_w56, sz_r56, sz_p56, sz_i57, sz_w57, sz_r57, sz_p57, sz_i58, sz_w58, sz_r58, sz_p58, sz_i59, sz_w59, sz_r59, sz_p59, sz_i60, sz_w60, sz_r60, sz_p60, sz_i61, sz_w61, sz_r61, sz_p61, sz_w62, sz_r62, sz_p62, sz_i63, sz_w63, sz_r63, sz_p63, sz_i64, sz_w64, sz_r64, sz_p64, sz_i65, sz_w65, sz_r65, sz_p65, sz_i66, sz_w66, sz_r66, sz_p66, sz_i67, sz_w67, sz_r67, sz_p67, sz_i68, sz_w68, sz_r68, sz_p68, sz_i69, sz_w69, sz_r69, sz_p69, sz_i70, sz_w70, sz_r70, sz_p70, sz_w71, sz_r71, sz_p71, sz_i72, sz_w72, sz_r72, sz_p72, sz_i73, sz_w73, sz_r73, sz_p73, sz_i74, sz_w74, sz_r74, sz_p74, sz_i75, sz_w75, sz_r75, sz_p75, sz_q2, sz_g2, sz_q3, sz_g3, sz_q12, sz_g12, sz_q16, sz_g16, sz_q26, sz_g26, sz_q29, sz_g29, sz_i90, sz_r90, sz_i91, sz_r91, sz_i92, sz_r92, sz_i93, sz_r93, sz_i94, sz_r94, sz_i95, sz_r95, sz_i99, sz_r99, sz_c0, sz_c1, sz_c2, sz_c3, Option.toList, List.cons_append, List.nil_append, sp_h100, sp_h2, sp_h24, sp_h10, sp_h10L, not_false_eq_true, not_true, true_and, and_true, true_implies, false_implies, nI_toInt, nI_clamp, sp_st_ne, sp_st_eq, sp_st_up, nI_1, sp_12]
  have st : ∀ C, sp_gp (fun k j => if k = 8 ∧ j = 2 then 0 else σ b' k j) (σ b) (fun _ _ => False) C → sl_Go xs N 10 2 [some (.inr (.inr (1, b, 0))), some (.inr (.inr (1, b', 0))), some (.inl (nI 0))] [] (sp_st σ b C) Q := by
    intro C hC
    refine sp_down (P := fun k => ∀ C, sp_gp (fun k j => if k = 8 ∧ j = 2 then 0 else σ b' k j) (σ b) (fun k' j => (k' = 1 ∨ k' = 2) ∧ j < 12 * k) C → sl_Go xs N 10 2 [some (.inr (.inr (1, b, 0))), some (.inr (.inr (1, b', 0))), some (.inl (nI k))] [] (sp_st σ b C) Q) (n := 5) ?_ ?_ 0 (Nat.zero_le _) C ⟨fun k j (hj : (k = 1 ∨ k = 2) ∧ j < 12 * 0) => by omega, fun k j hj => hC.2 k j (fun h => h)⟩
    · intro C hC
      simp (disch := omega) only [g10_2, g10_3, g10_4, sz_i4, sz_w4, sz_r4, sz_p4, sz_i5, sz_w5, sz_r5, sz_p5, sz_i6, sz_w6, sz_r6, sz_p6, sz_i7, sz_w7, sz_r7, sz_p7, sz_i8, sz_w8, sz_r8, sz_p8, sz_i9, sz_w9, sz_r9, sz_p9, sz_i10, sz_w10, sz_r10, sz_p10, sz_i14, sz_w14, sz_r14, sz_p14, sz_i15, sz_w15, sz_r15, sz_p15, sz_i18, sz_w18, sz_r18, sz_p18, sz_i19, sz_w19, sz_r19, sz_p19, sz_w21, sz_r21, sz_p21, sz_i23, sz_w23, sz_r23, sz_p23, sz_i24, sz_w24, sz_r24, sz_p24, sz_i25, sz_w25, sz_r25, sz_p25, sz_i28, sz_w28, sz_r28, sz_p28, sz_i31, sz_w31, sz_r31, sz_p31, sz_i41, sz_w41, sz_r41, sz_p41, sz_i42, sz_w42, sz_r42, sz_p42, sz_i43, sz_w43, sz_r43, sz_p43, sz_i44, sz_w44, sz_r44, sz_p44, sz_i45, sz_w45, sz_r45, sz_p45, sz_i46, sz_w46, sz_r46, sz_p46, sz_i47, sz_w47, sz_r47, sz_p47, sz_i48, sz_w48, sz_r48, sz_p48, sz_i49, sz_w49, sz_r49, sz_p49, sz_i50, sz_w50, sz_r50, sz_p50, sz_w51, sz_r51, sz_p51, sz_i52, sz_w52, sz_r52, sz_p52, sz_i53, sz_w53, sz_r53, sz_p53, sz_i54, sz_w54, sz_r54, sz_p54, sz_i55, sz_w55, sz_r55, sz_p55, sz_i56, sz_w56, sz_r56, sz_p56, sz_i57, sz_w57, sz_r57, sz_p57, sz_i58, sz_w58, sz_r58, sz_p58, sz_i59, sz_w59, sz_r59, sz_p59, sz_i60, sz_w60, sz_r60, sz_p60, sz_i61, sz_w61, sz_r61, sz_p61, sz_w62, sz_r62, sz_p62, sz_i63, sz_w63, sz_r63, sz_p63, sz_i64, sz_w64, sz_r64, sz_p64, sz_i65, sz_w65, sz_r65, sz_p65, sz_i66, sz_w66, sz_r66, sz_p66, sz_i67, sz_w67, sz_r67, sz_p67, sz_i68, sz_w68, sz_r68, sz_p68, sz_i69, sz_w69, sz_r69, sz_p69, sz_i70, sz_w70, sz_r70, sz_p70, sz_w71, sz_r71, sz_p71, sz_i72, sz_w72, sz_r72, sz_p72, sz_i73, sz_w73, sz_r73, sz_p73, sz_i74, sz_w74, sz_r74, sz_p74, sz_i75, sz_w75, sz_r75, sz_p75, sz_q2, sz_g2, sz_q3, sz_g3, sz_q12, sz_g12, sz_q16, sz_g16, sz_q26, sz_g26, sz_q29, sz_g29, sz_i90, sz_r90, sz_i91, sz_r91, sz_i92, sz_r92, sz_i93, sz_r93, sz_i94, sz_r94, sz_i95, sz_r95, sz_i99, sz_r99, sz_c0, sz_c1, sz_c2, sz_c3, Option.toList, List.cons_append, List.nil_append, sp_h100, sp_h2, sp_h24, sp_h10, sp_h10L, not_false_eq_true, not_true, true_and, and_true, true_implies, false_implies, nI_toInt, nI_clamp, sp_st_ne, sp_st_eq, sp_st_up, nI_1, sp_12, j5]
      refine ⟨fun _ => rest C ⟨fun k j hj => hC.1 k j (by omega), fun k j hj => hC.2 k j (by omega)⟩ _, fun h => absurd (Nat.le_refl 5) h⟩
    · intro k hk ih C hC
      rw [g10_2]
      simp (disch := first | omega | exact hb) only [g10_3, g10_4, g10_7, g10_8, g10_11, g10_12, g10_13, g10_14, g10_15, g10_18, g10_19, g10_20, g10_21, g10_23, g10_26, g10_27, g10_30, g10_31, g10_32, g10_33, g10_34, g10_37, g10_38, g10_39, g10_40, g10_42, g10_45n, g10_45i, g10_45r, g10_48, sz_i4, sz_w4, sz_r4, sz_p4, sz_i5, sz_w5, sz_r5, sz_p5, sz_i6, sz_w6, sz_r6, sz_p6, sz_i7, sz_w7, sz_r7, sz_p7, sz_i8, sz_w8, sz_r8, sz_p8, sz_i9, sz_w9, sz_r9, sz_p9, sz_i10, sz_w10, sz_r10, sz_p10, sz_i14, sz_w14, sz_r14, sz_p14, sz_i15, sz_w15, sz_r15, sz_p15, sz_i18, sz_w18, sz_r18, sz_p18, sz_i19, sz_w19, sz_r19, sz_p19, sz_w21, sz_r21, sz_p21, sz_i23, sz_w23, sz_r23, sz_p23, sz_i24, sz_w24, sz_r24, sz_p24, sz_i25, sz_w25, sz_r25, sz_p25, sz_i28, sz_w28, sz_r28, sz_p28, sz_i31, sz_w31, sz_r31, sz_p31, sz_i41, sz_w41, sz_r41, sz_p41, sz_i42, sz_w42, sz_r42, sz_p42, sz_i43, sz_w43, sz_r43, sz_p43, sz_i44, sz_w44, sz_r44, sz_p44, sz_i45, sz_w45, sz_r45, sz_p45, sz_i46, sz_w46, sz_r46, sz_p46, sz_i47, sz_w47, sz_r47, sz_p47, sz_i48, sz_w48, sz_r48, sz_p48, sz_i49, sz_w49, sz_r49, sz_p49, sz_i50, sz_w50, sz_r50, sz_p50, sz_w51, sz_r51, sz_p51, sz_i52, sz_w52, sz_r52, sz_p52, sz_i53, sz_w53, sz_r53, sz_p53, sz_i54, sz_w54, sz_r54, sz_p54, sz_i55, sz_w55, sz_r55, sz_p55, sz_i56, sz_w56, sz_r56, sz_p56, sz_i57, sz_w57, sz_r57, sz_p57, sz_i58, sz_w58, sz_r58, sz_p58, sz_i59, sz_w59, sz_r59, sz_p59, sz_i60, sz_w60, sz_r60, sz_p60, sz_i61, sz_w61, sz_r61, sz_p61, sz_w62, sz_r62, sz_p62, sz_i63, sz_w63, sz_r63, sz_p63, sz_i64, sz_w64, sz_r64, sz_p64, sz_i65, sz_w65, sz_r65, sz_p65, sz_i66, sz_w66, sz_r66, sz_p66, sz_i67, sz_w67, sz_r67, sz_p67, sz_i68, sz_w68, sz_r68, sz_p68, sz_i69, sz_w69, sz_r69, sz_p69, sz_i70, sz_w70, sz_r70, sz_p70, sz_w71, sz_r71, sz_p71, sz_i72, sz_w72, sz_r72, sz_p72, sz_i73, sz_w73, sz_r73, sz_p73, sz_i74, sz_w74, sz_r74, sz_p74, sz_i75, sz_w75, sz_r75, sz_p75, sz_q2, sz_g2, sz_q3, sz_g3, sz_q12, sz_g12, sz_q16, sz_g16, sz_q26, sz_g26, sz_q29, sz_g29, sz_i90, sz_r90, sz_i91, sz_r91, sz_i92, sz_r92, sz_i93, sz_r93, sz_i94, sz_r94, sz_i95, sz_r95, sz_i99, sz_r99, sz_c0, sz_c1, sz_c2, sz_c3, Option.toList, List.cons_append, List.nil_append, sp_h100, sp_h2, sp_h24, sp_h10, sp_h10L, not_false_eq_true, not_true, true_and, and_true, true_implies, false_implies, nI_toInt, nI_clamp, sp_st_ne, sp_st_eq, sp_st_up, nI_1, sp_12, j5, q0, q12, w0, w12, sz_cp4, sz_cp5]
      have f : ∀ k j, ¬ (k = 8 ∧ j = 2) → σ b' k j = (fun k j => if k = 8 ∧ j = 2 then 0 else σ b' k j) k j := fun k j hn => (if_neg hn).symm
      have s1 := sp_gp_cr (S := σ b') (k := 1) (o := 12 * k) (n := 12) (q := fun k' j => ((k' = 1 ∨ k' = 2) ∧ j < 12 * k) ∨ (k' = 1 ∧ 12 * k ≤ j ∧ j < 12 * k + 12)) hC (fun j => f 1 j (by omega)) (fun k' j => by omega)
      have s2 := sp_gp_cr (S := σ b') (k := 2) (o := 12 * k) (n := 12) (q := fun k' j => (k' = 1 ∨ k' = 2) ∧ j < 12 * (k + 1)) s1 (fun j => f 2 j (by omega)) (fun k' j => by omega)
      have r := ih _ s2
      repeat' (first | apply And.intro | (intro _))
      all_goals first | omega | decide | exact r
  have r := st (σ b) ⟨fun _ _ h => h.elim, fun _ _ _ => rfl⟩
  rw [sp_st_self] at r
  exact r
end SPB
