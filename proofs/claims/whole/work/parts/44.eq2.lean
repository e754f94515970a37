/-- the swings -/
theorem sp_swT_eq {R M wl : Nat → Nat → Int32} {nT t kd : Nat} {cl : Nat → Nat} (hk : kd < 6) (ht : t < nT) (hcl : ∀ t, t < nT → cl t ≤ 12) (hh : ∀ t, t < nT → 1 ≤ (R 3 t).toInt ∧ (R 3 t).toInt ≤ 99) (hv : sp_sm 50 (M 0 1)) (hL : sp_Lv R M nT cl) : ∀ c, c + 1 ≤ cl t → cs_swT R wl M kd t c = sp_swT R wl M kd t c ∧ sp_Lv R (sp_swT R wl M kd t c) nT cl ∧ sp_swT R wl M kd t c 0 1 = M 0 1
  | 0, _ => ⟨rfl, hL, rfl⟩
  | c + 1, hc => by
    obtain ⟨h1, h2, h3⟩ := sp_swT_eq (kd := kd) (wl := wl) hk ht hcl hh hv hL c (by omega)
    rw [cs_swT, sp_swT, h1]
    have := sp_over_eq (w := wl t c) hk ht (show c + 1 < cl t by omega) hcl hh (by rw [h3]; exact hv) h2
    exact ⟨this.1, this.2.1, this.2.2.trans h3⟩
theorem sp_sw_eq {R M wl : Nat → Nat → Int32} {nT : Nat} {kd cl : Nat → Nat} (hk : ∀ t, t < nT → kd t < 6) (hc2 : ∀ t, t < nT → 2 ≤ cl t) (hcl : ∀ t, t < nT → cl t ≤ 12) (hh : ∀ t, t < nT → 1 ≤ (R 3 t).toInt ∧ (R 3 t).toInt ≤ 99) (hv : sp_sm 50 (M 0 1)) (hL : sp_Lv R M nT cl) : ∀ t, t ≤ nT → cs_sw R wl M kd cl t = sp_sw R wl M kd cl t ∧ sp_Lv R (sp_sw R wl M kd cl t) nT cl ∧ sp_sw R wl M kd cl t 0 1 = M 0 1
  | 0, _ => ⟨rfl, hL, rfl⟩
  | t + 1, ht => by
    obtain ⟨h1, h2, h3⟩ := sp_sw_eq (wl := wl) hk hc2 hcl hh hv hL t (by omega)
    rw [cs_sw, sp_sw, h1]
    have h4 := hc2 t (by omega)
    have := sp_swT_eq (wl := wl) (hk t (by omega)) (show t < nT by omega) hcl hh (by rw [h3]; exact hv) h2 (cl t - 1) (by omega)
    exact ⟨this.1, this.2.1, this.2.2.trans h3⟩
/-- what the swings leave alone: key 5, 7, 9, and of key 0 the time, the way -/
def sp_Kp (M M' : Nat → Nat → Int32) : Prop := M' 5 = M 5 ∧ M' 7 = M 7 ∧ M' 9 = M 9 ∧ M' 0 0 = M 0 0 ∧ M' 0 1 = M 0 1 ∧ M' 0 2 = M 0 2
theorem sp_Kp.rf {M : Nat → Nat → Int32} : sp_Kp M M := ⟨rfl, rfl, rfl, rfl, rfl, rfl⟩
theorem sp_Kp.tr {M M' M2 : Nat → Nat → Int32} (h : sp_Kp M M') (h2 : sp_Kp M' M2) : sp_Kp M M2 := ⟨h2.1.trans h.1, h2.2.1.trans h.2.1, h2.2.2.1.trans h.2.2.1, h2.2.2.2.1.trans h.2.2.2.1, h2.2.2.2.2.1.trans h.2.2.2.2.1, h2.2.2.2.2.2.trans h.2.2.2.2.2⟩
theorem sp_pour_kp {M : Nat → Nat → Int32} {hi kd n : Int32} {t k a b : Nat} : sp_Kp M (sp_pourN M hi kd t k a b n) := by
  unfold sp_pourN
  repeat' split
  all_goals exact ⟨rfl, rfl, rfl, rfl, rfl, rfl⟩
theorem sp_over_kp {R M : Nat → Nat → Int32} {dm th w : Int32} {t c : Nat} : sp_Kp M (sp_over R M dm th w t c) := by
  unfold sp_over
  split
  · exact sp_Kp.tr ⟨rfl, rfl, rfl, rfl, rfl, rfl⟩ sp_pour_kp
  · exact sp_Kp.tr ⟨rfl, rfl, rfl, rfl, rfl, rfl⟩ sp_pour_kp
theorem sp_swT_kp {R M wl : Nat → Nat → Int32} {kd t : Nat} : ∀ c, sp_Kp M (sp_swT R wl M kd t c)
  | 0 => .rf
  | c + 1 => (sp_swT_kp c).tr sp_over_kp
theorem sp_sw_kp {R M wl : Nat → Nat → Int32} {kd cl : Nat → Nat} : ∀ t, sp_Kp M (sp_sw R wl M kd cl t)
  | 0 => .rf
  | t + 1 => (sp_sw_kp t).tr (sp_swT_kp _)
/-- the mouths -/
theorem sp_minc {x y : Int32} : (if y < x then y else x) = (if x < y then x else y) := by
  by_cases h1 : y < x
  · rw [if_pos h1, if_neg (fun h2 => by have a := (sp_lt _ _).mp h1; have b := (sp_lt _ _).mp h2; omega)]
  · by_cases h2 : x < y
    · rw [if_neg h1, if_pos h2]
    · rw [if_neg h1, if_neg h2]
      have a := (sp_le _ _).mp (Int32.not_lt.mp h1)
      have b := (sp_le _ _).mp (Int32.not_lt.mp h2)
      exact sp_toi (by omega)
theorem sp_suckN_eq {M : Nat → Nat → Int32} {t k f : Nat} {n : Int32} (h5 : 0 ≤ (M 5 f).toInt ∧ (M 5 f).toInt ≤ 50) (h7 : -1 ≤ (M 7 f).toInt) (hn : 0 ≤ n.toInt ∧ n.toInt ≤ (M 5 f).toInt) : cs_suckN M t k f n = sp_suckN M t k f n := by
  have e0 : (0 : Int32).toInt = 0 := rfl
  have e1 : (-1 : Int32).toInt = -1 := rfl
  have b1 := sp_sub (x := M 5 f) (y := n) (by omega) (by omega)
  unfold cs_suckN sp_suckN
  by_cases h : n = M 5 f
  · rw [if_pos h, if_pos ((sp_le _ _).mpr (by rw [b1, e0, h]; omega))]
    exact sp_cm (Or.inl (by decide))
  · have hne : ¬ n.toInt = (M 5 f).toInt := fun e => h (sp_toi e)
    rw [if_neg h, if_neg (fun e => by have := (sp_le _ _).mp e; omega)]
    by_cases h2 : M 7 f < 0
    · have a := (sp_lt _ _).mp h2
      rw [if_pos h2, if_pos (sp_toi (by omega))]
      rw [sp_cm (k := 6) (i := f) (k' := 7) (Or.inl (by decide)), sp_cm (k := 4) (i := t) (k' := 0) (Or.inl (by decide))]
    · have a := (sp_le _ _).mp (Int32.not_lt.mp h2)
      rw [if_neg h2, if_neg (fun e => by rw [e] at a; omega)]
      rw [sp_cm (k := 4) (i := t) (k' := 0) (Or.inl (by decide))]
def sp_Dr (M : Nat → Nat → Int32) (nM : Nat) : Prop := ∀ f, f < nM → (0 ≤ (M 5 f).toInt ∧ (M 5 f).toInt ≤ 50) ∧ -1 ≤ (M 7 f).toInt
theorem sp_suckN_1 {M : Nat → Nat → Int32} {t k f : Nat} {n : Int32} : sp_suckN M t k f n 1 = sl_u1 (M 1) k (M 1 k - n) ∧ sp_suckN M t k f n 2 = M 2 ∧ sp_suckN M t k f n 5 = M 5 ∧ sp_suckN M t k f n 9 = M 9 ∧ sp_suckN M t k f n 0 0 = M 0 0 ∧ sp_suckN M t k f n 0 1 = M 0 1 ∧ sp_suckN M t k f n 0 2 = M 0 2 ∧ (sp_suckN M t k f n 7 = M 7 ∨ sp_suckN M t k f n 7 = sl_u1 (M 7) f (M 0 0)) := by
  unfold sp_suckN
  repeat' split
  · exact ⟨rfl, rfl, rfl, rfl, rfl, rfl, rfl, Or.inl rfl⟩
  · exact ⟨rfl, rfl, rfl, rfl, rfl, rfl, rfl, Or.inr rfl⟩
  · exact ⟨rfl, rfl, rfl, rfl, rfl, rfl, rfl, Or.inl rfl⟩
theorem sp_suck_eq {R M : Nat → Nat → Int32} {nT nM : Nat} {cl mt mc : Nat → Nat} (hs : sp_Sh R nT nM cl mt mc) (hL : sp_Lv R M nT cl) (hD : sp_Dr M nM) (h0 : 0 ≤ (M 0 0).toInt) (hh : ∀ t, t < nT → 1 ≤ (R 3 t).toInt ∧ (R 3 t).toInt ≤ 99) : ∀ f, f ≤ nM → cs_suck M mt mc f = sp_suck M mt mc f ∧ sp_Lv R (sp_suck M mt mc f) nT cl ∧ sp_Dr (sp_suck M mt mc f) nM ∧ sp_suck M mt mc f 9 = M 9 ∧ sp_suck M mt mc f 0 0 = M 0 0 ∧ sp_suck M mt mc f 0 1 = M 0 1 ∧ sp_suck M mt mc f 0 2 = M 0 2
  | 0, _ => ⟨rfl, hL, hD, rfl, rfl, rfl, rfl⟩
  | f + 1, hf => by
    obtain ⟨h1, h2, h3, h4, h5, h6, h7⟩ := sp_suck_eq hs hL hD h0 hh f (by omega)
    obtain ⟨-, -, hc, -, -, hm⟩ := hs
    obtain ⟨m1, m2, m3, m4⟩ := hm f (by omega)
    rw [cs_suck, sp_suck, h1, sp_minc]
    generalize sp_suck M mt mc f = M1 at h2 h3 h4 h5 h6 h7 ⊢
    have hl := (h2 _ m2 _ m4).1
    have hd := h3 f (by omega)
    have hn : 0 ≤ (if M1 5 f < M1 1 (12 * mt f + mc f) then M1 5 f else M1 1 (12 * mt f + mc f)).toInt ∧ (if M1 5 f < M1 1 (12 * mt f + mc f) then M1 5 f else M1 1 (12 * mt f + mc f)).toInt ≤ (M1 5 f).toInt ∧ (if M1 5 f < M1 1 (12 * mt f + mc f) then M1 5 f else M1 1 (12 * mt f + mc f)).toInt ≤ (M1 1 (12 * mt f + mc f)).toInt := by
      split
      · rename_i h
        have := (sp_lt _ _).mp h
        omega
      · rename_i h
        have := (sp_le _ _).mp (Int32.not_lt.mp h)
        omega
    generalize (if M1 5 f < M1 1 (12 * mt f + mc f) then M1 5 f else M1 1 (12 * mt f + mc f)) = n at hn ⊢
    refine ⟨sp_suckN_eq hd.1 hd.2 ⟨hn.1, hn.2.1⟩, ?_⟩
    obtain ⟨q1, q2, q5, q9, q00, q01, q02, q7⟩ := sp_suckN_1 (M := M1) (t := mt f) (k := 12 * mt f + mc f) (f := f) (n := n)
    have hht := hh _ m2
    have bs := sp_sub (x := M1 1 (12 * mt f + mc f)) (y := n) (by omega) (by omega)
    refine ⟨fun t ht c hc' => ?_, fun g hg => ?_, q9.trans h4, q00.trans h5, q01.trans h6, q02.trans h7⟩
    · rw [q1, q2]
      refine ⟨?_, (h2 t ht c hc').2⟩
      by_cases e : 12 * t + c = 12 * mt f + mc f
      · have h12 := (hc t ht).2.2
        have h12' := (hc _ m2).2.2
        have et : t = mt f := by omega
        rw [e, sp_u1_eq, et]
        omega
      · rw [sp_u1_ne e]
        exact (h2 t ht c hc').1
    · rw [q5]
      refine ⟨(h3 g hg).1, ?_⟩
      rcases q7 with q | q
      · rw [q]; exact (h3 g hg).2
      · rw [q]
        by_cases e : g = f
        · rw [e, sp_u1_eq, h5]; omega
        · rw [sp_u1_ne e]; exact (h3 g hg).2
