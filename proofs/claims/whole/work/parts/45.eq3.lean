/-- the pull, bounded -/
def sp_Rk (R : Nat → Nat → Int32) (nT nW : Nat) : Prop := (∀ t, t < nT → (1 ≤ (R 3 t).toInt ∧ (R 3 t).toInt ≤ 99) ∧ sp_sm 50 (R 4 t)) ∧ (1 ≤ (R 0 3).toInt ∧ (R 0 3).toInt ≤ 50) ∧ R 0 2 = nI nW ∧ nW ≤ 6 ∧ ∀ y, y < nW → ∃ nl, nl ≤ 12 ∧ R 8 y = nI nl ∧ ∀ k, k < nl → sp_sm 50 (R 10 (12 * y + k))
theorem sp_prod {x y : Int} {a b : Int} (ha : 0 ≤ a) (hb : 0 ≤ b) (hx : -a ≤ x ∧ x ≤ a) (hy : -b ≤ y ∧ y ≤ b) : -(a * b) ≤ x * y ∧ x * y ≤ a * b := by
  have h1 : (x * y).natAbs ≤ (a * b).natAbs := by
    rw [Int.natAbs_mul, Int.natAbs_mul]
    exact Nat.mul_le_mul (by omega) (by omega)
  have h2 : 0 ≤ a * b := Int.mul_nonneg ha hb
  omega
theorem sp_term_sm {R M : Nat → Nat → Int32} {nT nM nW : Nat} {cl mt mc : Nat → Nat} {t c : Nat} (hs : sp_Sh R nT nM cl mt mc) (hk : sp_Rk R nT nW) (hL : sp_Lv R M nT cl) (ht : t < nT) (hc : c < cl t) : sp_sm 10000 (sp_term R M t c) := by
  obtain ⟨-, -, hcl, -⟩ := hs
  obtain ⟨h1, -⟩ := hk
  obtain ⟨c1, c2, c3⟩ := hcl t ht
  obtain ⟨⟨g1, g2⟩, g3⟩ := h1 t ht
  have hl := (hL t ht c hc).1
  unfold sp_sm at g3 ⊢
  unfold sp_term
  have e2 : (2 : Int32).toInt = 2 := rfl
  have e1 : (1 : Int32).toInt = 1 := rfl
  have ec : (nI c).toInt = c := nI_toInt (by omega)
  have ek : (R 2 t).toInt = cl t := by rw [c1]; exact nI_toInt (by omega)
  have a1 := sp_mul (x := 2) (y := nI c) (by rw [e2, ec]; omega) (by rw [e2, ec]; omega)
  rw [e2, ec] at a1
  have a2 := sp_add (x := R 4 t) (y := 2 * nI c) (by rw [a1]; omega) (by rw [a1]; omega)
  rw [a1] at a2
  have a3 := sp_sub (x := R 4 t + 2 * nI c) (y := R 2 t) (by rw [a2, ek]; omega) (by rw [a2, ek]; omega)
  rw [a2, ek] at a3
  have a4 := sp_add (x := R 4 t + 2 * nI c - R 2 t) (y := 1) (by rw [a3, e1]; omega) (by rw [a3, e1]; omega)
  rw [a3, e1] at a4
  have p := sp_prod (x := (M 1 (12 * t + c)).toInt) (y := (R 4 t + 2 * nI c - R 2 t + 1).toInt) (a := 99) (b := 100) (by decide) (by decide) (by omega) (by omega)
  rw [sp_mul (by omega) (by omega)]
  omega
theorem sp_acc_sm {f : Nat → Int32} {a : Int32} {k : Int} : ∀ n : Nat, (∀ i, i < n → sp_sm 10000 (f i)) → sp_sm k a → 0 ≤ k → k + 10000 * n ≤ 1000000 → sp_sm (k + 10000 * n) (sp_acc f a n)
  | 0, _, h, _, _ => by
    unfold sp_acc
    unfold sp_sm at h ⊢
    omega
  | n + 1, h1, h2, h0, h3 => by
    have ih := sp_acc_sm (f := f) n (fun i hi => h1 i (by omega)) h2 h0 (by omega)
    have hf := h1 n (by omega)
    unfold sp_acc
    unfold sp_sm at ih hf ⊢
    rw [sp_add (by omega) (by omega)]
    omega
theorem sp_momT_sm {R M : Nat → Nat → Int32} {nT nM nW : Nat} {cl mt mc : Nat → Nat} (hs : sp_Sh R nT nM cl mt mc) (hk : sp_Rk R nT nW) (hL : sp_Lv R M nT cl) : ∀ t, t ≤ nT → sp_sm (120000 * t) (sp_momT R M cl t)
  | 0, _ => (show sp_sm (120000 * ((0 : Nat) : Int)) (0 : Int32) from ⟨by decide, by decide⟩)
  | t + 1, ht => by
    have ih := sp_momT_sm hs hk hL t (by omega)
    have h5 := hs.2.1
    have c3 := (hs.2.2.1 t (by omega)).2.2
    have := sp_acc_sm (f := sp_term R M t) (a := sp_momT R M cl t) (k := 120000 * t) (cl t) (fun i hi => sp_term_sm hs hk hL (by omega) hi) ih (by omega) (by omega)
    unfold sp_momT
    unfold sp_sm at this ⊢
    omega
theorem sp_bm64 {z : Int} (h1 : -2147483648 ≤ z) (h2 : z < 2147483648) : z.bmod (2 ^ 64) = z := by
  rw [Int.bmod_def]
  split <;> omega
theorem sp_long {m h : Int32} (hm : sp_sm 1000000 m) (hh : 1 ≤ h.toInt ∧ h.toInt ≤ 50) : (m.toInt64 * h.toInt64 / 10).toInt32 = m * h / 10 := by
  unfold sp_sm at hm
  have p := sp_prod (x := m.toInt) (y := h.toInt) (a := 1000000) (b := 50) (by decide) (by decide) hm (by omega)
  have e10 : (10 : Int32).toInt = 10 := rfl
  have e10L : (10 : Int64).toInt = 10 := rfl
  have hmul : (m * h).toInt = m.toInt * h.toInt := sp_mul (by omega) (by omega)
  have ht := sp_td (a := m.toInt * h.toInt) (d := 10) (Or.inr (Or.inr rfl))
  refine sp_toi ?_
  rw [sp_div (Or.inr (Or.inr rfl)), hmul, e10]
  rw [Int64.toInt_toInt32, Int64.toInt_div, Int64.toInt_mul, Int32.toInt_toInt64, Int32.toInt_toInt64, e10L]
  rw [sp_bm64 (z := m.toInt * h.toInt) (by omega) (by omega)]
  rcases Int.lt_or_le (m.toInt * h.toInt) 0 with h2 | h2
  · rw [ht.2 h2, sp_bm64 (by omega) (by omega)]
    exact sp_bm (by omega) (by omega)
  · rw [ht.1 h2, sp_bm64 (by omega) (by omega)]
    exact sp_bm (by omega) (by omega)
theorem sp_pl_eq {R M : Nat → Nat → Int32} {nT nM nW : Nat} {cl mt mc : Nat → Nat} (hs : sp_Sh R nT nM cl mt mc) (hk : sp_Rk R nT nW) (hL : sp_Lv R M nT cl) : sp_pl R M cl nT = cs_pl R M cl nT := by
  unfold sp_pl sp_pullM cs_pl
  have h5 := hs.2.1
  have := sp_momT_sm hs hk hL nT (Nat.le_refl nT)
  rw [sp_long (by unfold sp_sm at this ⊢; omega) hk.2.1]
/-- the way's tick -/
theorem sp_nxt_le {tk : Nat → Int32} {nl : Nat} : ∀ f n, n ≤ nl → sp_nxt tk nl f n ≤ nl
  | 0, n, h => h
  | f + 1, n, h => by
    unfold sp_nxt
    split
    · rename_i h2
      exact sp_nxt_le f (n + 1) (by omega)
    · exact h
theorem sp_goOn_k {R M : Nat → Nat → Int32} {k : Nat} (h0 : ¬ k = 0) (h9 : ¬ k = 9) : sp_goOn R M k = M k := by
  unfold sp_goOn sp_next sp_wM
  repeat' split
  · rfl
  · rw [sp_u2_ne h0, sp_u2_ne h9, sp_u2_ne h9]
  · rw [sp_u2_ne h0, sp_u2_ne h0, sp_u2_ne h9, sp_u2_ne h9]
  · rw [sp_u2_ne h9]
theorem sp_goOn_0 {R M : Nat → Nat → Int32} {i : Nat} (h1 : ¬ i = 1) (h2 : ¬ i = 2) : sp_goOn R M 0 i = M 0 i := by
  unfold sp_goOn sp_next sp_wM
  repeat' split
  · rfl
  · rw [sp_u2_eq, sp_u1_ne h1, sp_u2_ne (by decide), sp_u2_ne (by decide)]
  · rw [sp_u2_eq, sp_u1_ne h2, sp_u2_eq, sp_u1_ne h1, sp_u2_ne (by decide), sp_u2_ne (by decide)]
  · rw [sp_u2_ne (by decide)]
theorem sp_goOn_w {R M : Nat → Nat → Int32} {nT nW : Nat} (hk : sp_Rk R nT nW) (hW : sp_Wok2 R M nW) (hv : sp_sm 50 (M 0 1)) : sp_Wok2 R (sp_goOn R M) nW ∧ sp_sm 50 (sp_goOn R M 0 1) := by
  unfold sp_goOn
  rcases hW with hneg | ⟨y, nl, n, hy, hM, hnl, h12, hn, h9⟩
  · rw [if_pos hneg]
    exact ⟨Or.inl hneg, hv⟩
  · have hnn : ¬ M 0 2 < 0 := by rw [hM]; exact nI_pos (by have := hk.2.2.2.1; omega)
    have h6 := hk.2.2.2.1
    have e1 : (M 9 0 + 1).toNatClampNeg = n := by
      rw [h9, Int32.sub_add_cancel, nI_clamp (by omega)]
    rw [if_neg hnn]
    split
    · rw [hM, nI_clamp (by omega), hnl, nI_clamp (by omega), e1]
      have hle := sp_nxt_le (tk := fun k => R 9 (12 * y + k)) (nl := nl) 13 n hn
      generalize sp_nxt (fun k => R 9 (12 * y + k)) nl 13 n = j at hle ⊢
      unfold sp_next
      split
      · rename_i hj
        obtain ⟨nl2, k1, k2, k3⟩ := hk.2.2.2.2 y hy
        have hnl2 : nl2 = nl := by
          rw [hnl] at k2
          exact ((nI_eq (by omega) (by omega)).mp k2).symm
        subst hnl2
        refine ⟨Or.inr ⟨y, nl2, j + 1, hy, by rw [sp_wM_02]; exact hM, hnl, h12, hj, by rw [sp_wM_90, ← nI_1, Int32.add_sub_cancel]⟩, ?_⟩
        rw [sp_wM_01]
        exact k3 j hj
      · exact ⟨Or.inl (show (-1 : Int32) < 0 by decide), (show sp_sm 50 (0 : Int32) from ⟨by decide, by decide⟩)⟩
    · exact ⟨Or.inr ⟨y, nl, n, hy, hM, hnl, h12, hn, h9⟩, hv⟩
/-- a liquid within the bounds, its time below T -/
def sp_Iv (R M : Nat → Nat → Int32) (nT nM nW : Nat) (cl : Nat → Nat) (T : Nat) : Prop := sp_Lv R M nT cl ∧ sp_sm 50 (M 0 1) ∧ sp_Wok2 R M nW ∧ sp_Dr M nM ∧ 0 ≤ (M 0 0).toInt ∧ (M 0 0).toInt ≤ T
/-- a rig as it should be -/
def sp_Rg (R : Nat → Nat → Int32) (kd cl mt mc : Nat → Nat) (nT nM nW : Nat) : Prop := sp_Sh R nT nM cl mt mc ∧ sp_Kd R nT kd ∧ sp_Rk R nT nW
theorem sp_tick_eq {R M wl : Nat → Nat → Int32} {kd cl mt mc : Nat → Nat} {nT nM nW T : Nat} (hg : sp_Rg R kd cl mt mc nT nM nW) (hI : sp_Iv R M nT nM nW cl T) (hT : T < 1000000) : cs_mid R wl M kd cl mt mc nT nM = sp_mid R wl M kd cl mt mc nT nM ∧ cs_pl R (sp_mid R wl M kd cl mt mc nT nM) cl nT = sp_pl R (sp_mid R wl M kd cl mt mc nT nM) cl nT ∧ cs_tick R wl M kd cl mt mc nT nM = sp_tick R wl M kd cl mt mc nT nM ∧ sp_Iv R (sp_tick R wl M kd cl mt mc nT nM) nT nM nW cl (T + 1) := by
  obtain ⟨hs, hK, hk⟩ := hg
  obtain ⟨hL, hv, hW, hD, h0, h0T⟩ := hI
  have hh : ∀ t, t < nT → 1 ≤ (R 3 t).toInt ∧ (R 3 t).toInt ≤ 99 := fun t ht => (hk.1 t ht).1
  obtain ⟨g1, g2⟩ := sp_goOn_w hk hW hv
  have gL : sp_Lv R (sp_goOn R M) nT cl := by
    unfold sp_Lv
    rw [sp_goOn_k (by decide) (by decide), sp_goOn_k (by decide) (by decide)]
    exact hL
  have gD : sp_Dr (sp_goOn R M) nM := by
    unfold sp_Dr
    rw [sp_goOn_k (by decide) (by decide), sp_goOn_k (by decide) (by decide)]
    exact hD
  have g00 : sp_goOn R M 0 0 = M 0 0 := sp_goOn_0 (by decide) (by decide)
  unfold cs_tick sp_tick cs_mid sp_mid
  generalize sp_goOn R M = M1 at g1 g2 gL gD g00 ⊢
  obtain ⟨s1, s2, s3⟩ := sp_sw_eq (wl := wl) (fun t ht => (hK t ht).2) (fun t ht => (hs.2.2.1 t ht).2.1) (fun t ht => (hs.2.2.1 t ht).2.2) hh g2 gL nT (Nat.le_refl nT)
  obtain ⟨k5, k7, k9, k00, k01, k02⟩ := sp_sw_kp (R := R) (M := M1) (wl := wl) (kd := kd) (cl := cl) nT
  rw [s1]
  generalize sp_sw R wl M1 kd cl nT = M2 at s2 s3 k5 k7 k9 k00 k01 k02 ⊢
  have sD : sp_Dr M2 nM := by
    unfold sp_Dr
    rw [k5, k7]
    exact gD
  obtain ⟨u1, u2, u3, u9, u00, u01, u02⟩ := sp_suck_eq hs s2 sD (by rw [k00, g00]; exact h0) hh nM (Nat.le_refl nM)
  rw [u1]
  generalize sp_suck M2 mt mc nM = M3 at u2 u3 u9 u00 u01 u02 ⊢
  refine ⟨rfl, (sp_pl_eq hs hk u2).symm, by rw [sp_pl_eq hs hk u2], ?_⟩
  generalize sp_pl R M3 cl nT = p
  have e1 : (1 : Int32).toInt = 1 := rfl
  have ht : (M3 0 0 + 1).toInt = (M 0 0).toInt + 1 := by
    have : M3 0 0 = M 0 0 := by rw [u00, k00, g00]
    rw [this, sp_add (by omega) (by omega), e1]
  have key : ∀ M4, M4 1 = M3 1 → M4 2 = M3 2 → M4 5 = M3 5 → M4 7 = M3 7 → M4 9 = M3 9 → M4 0 1 = M3 0 1 → M4 0 2 = M3 0 2 → M4 0 0 = M3 0 0 + 1 → sp_Iv R M4 nT nM nW cl (T + 1) := by
    intro M4 c1 c2 c5 c7 c9 c01 c02 c00
    refine ⟨?_, ?_, ?_, ?_, ?_, ?_⟩
    · unfold sp_Lv; rw [c1, c2]; exact u2
    · rw [c01, u01, k01]; exact g2
    · unfold sp_Wok2
      rw [c02, c9, u02, u9, k02, k9]
      exact g1
    · unfold sp_Dr; rw [c5, c7]; exact u3
    · rw [c00, ht]; omega
    · rw [c00, ht]; omega
  unfold sp_end
  split
  · exact key _ rfl rfl rfl rfl rfl rfl rfl rfl
  · exact key _ rfl rfl rfl rfl rfl rfl rfl rfl
