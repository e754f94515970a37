/-! THE TICK IN JOINT STATES -/
theorem jg_ne {M : Nat → Nat → Int32} {z k : Nat} (h : ¬ k = 7) : jg M z k = M k := by
  funext i
  simp only [jg]
  rw [if_neg (fun e => h e.1)]
theorem jg_7 {M : Nat → Nat → Int32} {z f : Nat} (h : f < z) : jg M z 7 f = M 7 f := by
  simp only [jg]
  rw [if_neg (fun e => e.2 h)]
theorem jg_w {M : Nat → Nat → Int32} {z k i : Nat} {v : Int32} (h : ¬ k = 7) : sl_u2 (jg M z) k i v = jg (sl_u2 M k i v) z := (jg_u2 (fun e => absurd e h)).symm
theorem jg_w7 {M : Nat → Nat → Int32} {z i : Nat} {v : Int32} (h : i < z) : sl_u2 (jg M z) 7 i v = jg (sl_u2 M 7 i v) z := (jg_u2 (fun _ => h)).symm
theorem jg_ite {A B : Nat → Nat → Int32} {z : Nat} {p : Prop} [Decidable p] : jg (if p then A else B) z = if p then jg A z else jg B z := by
  by_cases h : p
  · rw [if_pos h, if_pos h]
  · rw [if_neg h, if_neg h]
theorem jg_pourN {M : Nat → Nat → Int32} {z : Nat} {hi kd n : Int32} {t k a b : Nat} : sp_pourN (jg M z) hi kd t k a b n = jg (sp_pourN M hi kd t k a b n) z := by
  unfold sp_pourN
  simp (disch := decide) only [jg_ne, jg_w, jg_ite]
theorem jg_over {R M : Nat → Nat → Int32} {z : Nat} {dm th w : Int32} {t c : Nat} : sp_over R (jg M z) dm th w t c = jg (sp_over R M dm th w t c) z := by
  unfold sp_over
  simp (disch := decide) only [jg_ne, jg_w, jg_ite, jg_pourN]
theorem jg_swT {R wl M : Nat → Nat → Int32} {z kd t : Nat} : ∀ c, sp_swT R wl (jg M z) kd t c = jg (sp_swT R wl M kd t c) z
  | 0 => rfl
  | c + 1 => by rw [sp_swT, jg_swT c, jg_over]; rfl
theorem jg_sw {R wl M : Nat → Nat → Int32} {z : Nat} {kd cl : Nat → Nat} : ∀ t, sp_sw R wl (jg M z) kd cl t = jg (sp_sw R wl M kd cl t) z
  | 0 => rfl
  | t + 1 => by rw [sp_sw, jg_sw t, jg_swT]; rfl
theorem jg_suckN {M : Nat → Nat → Int32} {z t k f : Nat} {n : Int32} (h : f < z) : sp_suckN (jg M z) t k f n = jg (sp_suckN M t k f n) z := by
  unfold sp_suckN
  rw [jg_7 h]
  simp (disch := first | decide | exact h) only [jg_ne, jg_w, jg_w7, jg_ite]
theorem jg_suck {M : Nat → Nat → Int32} {z : Nat} {mt mc : Nat → Nat} : ∀ f, f ≤ z → sp_suck (jg M z) mt mc f = jg (sp_suck M mt mc f) z
  | 0, _ => rfl
  | f + 1, h => by
    rw [sp_suck, jg_suck f (by omega), jg_suckN (by omega), jg_ne (by decide), jg_ne (by decide)]
    rfl
theorem jg_goOn {R M : Nat → Nat → Int32} {z : Nat} : sp_goOn R (jg M z) = jg (sp_goOn R M) z := by
  unfold sp_goOn sp_next sp_wM
  simp (disch := decide) only [jg_ne, jg_w, jg_ite]
theorem jg_mid {R wl M : Nat → Nat → Int32} {kd cl mt mc : Nat → Nat} {nT nM : Nat} : sp_mid R wl (jg M nM) kd cl mt mc nT nM = jg (sp_mid R wl M kd cl mt mc nT nM) nM := by
  unfold sp_mid
  rw [jg_goOn, jg_sw, jg_suck nM (Nat.le_refl _)]
theorem jg_pl {R M : Nat → Nat → Int32} {cl : Nat → Nat} {z nT : Nat} : sp_pl R (jg M z) cl nT = sp_pl R M cl nT := by
  unfold sp_pl sp_pullM
  rw [jg_mom, jg_ne (by decide)]
theorem jg_tick {R wl M : Nat → Nat → Int32} {kd cl mt mc : Nat → Nat} {nT nM : Nat} : sp_tick R wl (jg M nM) kd cl mt mc nT nM = jg (sp_tick R wl M kd cl mt mc nT nM) nM := by
  unfold sp_tick
  rw [jg_mid, jg_pl]
  unfold sp_end
  simp (disch := decide) only [jg_ne, jg_w, jg_ite]
theorem jg_Iv {R M : Nat → Nat → Int32} {nT nM nW T : Nat} {cl : Nat → Nat} (h : sp_Iv R M nT nM nW cl T) : sp_Iv R (jg M nM) nT nM nW cl T := by
  obtain ⟨a1, a2, a3, a4, a5, a6⟩ := h
  refine ⟨a1, a2, a3, ?_, a5, a6⟩
  intro f hf
  rw [jg_7 hf]
  exact a4 f hf
/-- the places that a tick writes -/
def sp_in (nT nM k j : Nat) : Prop := (k = 0 ∧ (j < 3 ∨ 5 ≤ j ∧ j < 9)) ∨ ((k = 1 ∨ k = 2) ∧ j < 12 * nT) ∨ (k = 4 ∧ j < nT) ∨ ((k = 6 ∨ k = 7) ∧ j < nM) ∨ (k = 9 ∧ j < 2)
def sp_Ot (nT nM : Nat) (M M' : Nat → Nat → Int32) : Prop := ∀ k j, ¬ sp_in nT nM k j → M' k j = M k j
theorem sp_Ot.rf {nT nM : Nat} {M : Nat → Nat → Int32} : sp_Ot nT nM M M := fun _ _ _ => rfl
theorem sp_Ot.tr {nT nM : Nat} {M M' M2 : Nat → Nat → Int32} (h : sp_Ot nT nM M M') (h2 : sp_Ot nT nM M' M2) : sp_Ot nT nM M M2 := fun k j hn => (h2 k j hn).trans (h k j hn)
theorem sp_Ot.u2 {nT nM k i : Nat} {M M' : Nat → Nat → Int32} {v : Int32} (h : sp_Ot nT nM M M') (hi : sp_in nT nM k i) : sp_Ot nT nM M (sl_u2 M' k i v) := by
  intro k' j hn
  simp only [sl_u2]
  by_cases e : k' = k
  · subst e
    rw [if_pos rfl]
    by_cases e2 : j = i
    · subst e2
      exact absurd hi hn
    · simp only [sl_u1]
      rw [if_neg e2]
      exact h k' j hn
  · rw [if_neg e]
    exact h k' j hn
theorem sp_ot_pourN {nT nM : Nat} {M0 M : Nat → Nat → Int32} {hi kd n : Int32} {t k a b : Nat} (ht : t < nT) (hk : k < 12 * nT) (ha : a < 12 * nT) (hb : b < 12 * nT) (h : sp_Ot nT nM M0 M) : sp_Ot nT nM M0 (sp_pourN M hi kd t k a b n) := by
  unfold sp_pourN
  split
  · exact (h.u2 (by unfold sp_in; omega)).u2 (by unfold sp_in; omega)
  · split
    · exact (((h.u2 (by unfold sp_in; omega)).u2 (by unfold sp_in; omega)).u2 (by unfold sp_in; omega)).u2 (by unfold sp_in; omega)
    · exact ((((h.u2 (by unfold sp_in; omega)).u2 (by unfold sp_in; omega)).u2 (by unfold sp_in; omega)).u2 (by unfold sp_in; omega)).u2 (by unfold sp_in; omega)
theorem sp_ot_over {nT nM : Nat} {R M0 M : Nat → Nat → Int32} {dm th w : Int32} {t c : Nat} (ht : t < nT) (hc : c + 1 < 12) (h : sp_Ot nT nM M0 M) : sp_Ot nT nM M0 (sp_over R M dm th w t c) := by
  unfold sp_over
  split
  · exact sp_ot_pourN ht (by omega) (by omega) (by omega) (h.u2 (by unfold sp_in; omega))
  · exact sp_ot_pourN ht (by omega) (by omega) (by omega) (h.u2 (by unfold sp_in; omega))
theorem sp_ot_swT {nT nM : Nat} {R wl M0 M : Nat → Nat → Int32} {kd t : Nat} (ht : t < nT) (h : sp_Ot nT nM M0 M) : ∀ c, c < 12 → sp_Ot nT nM M0 (sp_swT R wl M kd t c)
  | 0, _ => h
  | c + 1, hc => sp_ot_over ht hc (sp_ot_swT ht h c (by omega))
theorem sp_ot_sw {nT nM : Nat} {R wl M0 M : Nat → Nat → Int32} {kd cl : Nat → Nat} (hcl : ∀ t, t < nT → cl t ≤ 12) (h : sp_Ot nT nM M0 M) : ∀ t, t ≤ nT → sp_Ot nT nM M0 (sp_sw R wl M kd cl t)
  | 0, _ => h
  | t + 1, ht => sp_ot_swT (by omega) (sp_ot_sw hcl h t (by omega)) _ (by have := hcl t (by omega); omega)
theorem sp_ot_suckN {nT nM : Nat} {M0 M : Nat → Nat → Int32} {t k f : Nat} {n : Int32} (ht : t < nT) (hk : k < 12 * nT) (hf : f < nM) (h : sp_Ot nT nM M0 M) : sp_Ot nT nM M0 (sp_suckN M t k f n) := by
  unfold sp_suckN
  have h3 : sp_Ot nT nM M0 (sl_u2 (sl_u2 (sl_u2 M 1 k (M 1 k - n)) 0 7 (M 0 7 + n)) 4 t (M 4 t + n)) := ((h.u2 (by unfold sp_in; omega)).u2 (by unfold sp_in; omega)).u2 (by unfold sp_in; omega)
  split
  · exact h3
  · split
    · exact (h3.u2 (by unfold sp_in; omega)).u2 (by unfold sp_in; omega)
    · exact h3.u2 (by unfold sp_in; omega)
theorem sp_ot_suck {nT nM : Nat} {M0 M : Nat → Nat → Int32} {mt mc : Nat → Nat} (hm : ∀ f, f < nM → mt f < nT ∧ mc f < 12) (h : sp_Ot nT nM M0 M) : ∀ f, f ≤ nM → sp_Ot nT nM M0 (sp_suck M mt mc f)
  | 0, _ => h
  | f + 1, hf => by
    have ⟨a, b⟩ := hm f (by omega)
    exact sp_ot_suckN a (by omega) (by omega) (sp_ot_suck hm h f (by omega))
theorem sp_ot_goOn {nT nM : Nat} {R M0 M : Nat → Nat → Int32} (h : sp_Ot nT nM M0 M) : sp_Ot nT nM M0 (sp_goOn R M) := by
  have w : ∀ a l ln, sp_Ot nT nM M0 (sp_wM M a l ln) := fun a l ln => ((h.u2 (by unfold sp_in; omega)).u2 (by unfold sp_in; omega)).u2 (by unfold sp_in; omega)
  unfold sp_goOn
  split
  · exact h
  · split
    · unfold sp_next
      split
      · exact w _ _ _
      · exact (w _ _ _).u2 (by unfold sp_in; omega)
    · exact h.u2 (by unfold sp_in; omega)
theorem sp_ot_tick {nT nM : Nat} {R wl M0 M : Nat → Nat → Int32} {kd cl mt mc : Nat → Nat} (hs : sp_Sh R nT nM cl mt mc) (h : sp_Ot nT nM M0 M) : sp_Ot nT nM M0 (sp_tick R wl M kd cl mt mc nT nM) := by
  obtain ⟨-, -, hc, -, -, hm⟩ := hs
  have h1 : sp_Ot nT nM M0 (sp_mid R wl M kd cl mt mc nT nM) := sp_ot_suck (fun f hf => by
    obtain ⟨-, a, -, b⟩ := hm f hf
    have := (hc _ a).2.2
    exact ⟨a, by omega⟩) (sp_ot_sw (fun t ht => (hc t ht).2.2) (sp_ot_goOn h) nT (Nat.le_refl _)) nM (Nat.le_refl _)
  unfold sp_tick sp_end
  split
  · exact (h1.u2 (by unfold sp_in; omega)).u2 (by unfold sp_in; omega)
  · exact h1.u2 (by unfold sp_in; omega)
/-- a tick keeps: tipped 0 or 1, the way none or one -/
theorem sp_goOn_02 {R M : Nat → Nat → Int32} (h : -1 ≤ (M 0 2).toInt) : -1 ≤ (sp_goOn R M 0 2).toInt := by
  unfold sp_goOn
  split
  · exact h
  · split
    · unfold sp_next
      split
      · exact h
      · exact (show -1 ≤ ((-1 : Int32)).toInt by decide)
    · exact h
theorem sp_suckN_ks {M : Nat → Nat → Int32} {t k f : Nat} {n : Int32} : sp_suckN M t k f n 0 2 = M 0 2 ∧ sp_suckN M t k f n 0 8 = M 0 8 ∧ sp_suckN M t k f n 9 = M 9 := by
  unfold sp_suckN
  split
  · exact ⟨rfl, rfl, rfl⟩
  · split
    · exact ⟨rfl, rfl, rfl⟩
    · exact ⟨rfl, rfl, rfl⟩
theorem sp_suck_02 {M : Nat → Nat → Int32} {mt mc : Nat → Nat} : ∀ f, sp_suck M mt mc f 0 2 = M 0 2
  | 0 => rfl
  | f + 1 => by
    rw [sp_suck, sp_suckN_ks.1, sp_suck_02 f]
theorem sp_tick_02 {R wl M : Nat → Nat → Int32} {kd cl mt mc : Nat → Nat} {nT nM : Nat} (h : -1 ≤ (M 0 2).toInt) : -1 ≤ (sp_tick R wl M kd cl mt mc nT nM 0 2).toInt := by
  have e : sp_mid R wl M kd cl mt mc nT nM 0 2 = sp_goOn R M 0 2 := by
    unfold sp_mid
    rw [sp_suck_02]
    exact (sp_sw_kp (R := R) (M := sp_goOn R M) (wl := wl) (kd := kd) (cl := cl) nT).2.2.2.2.2
  have e2 : sp_tick R wl M kd cl mt mc nT nM 0 2 = sp_mid R wl M kd cl mt mc nT nM 0 2 := by
    unfold sp_tick sp_end
    split <;> rfl
  rw [e2, e]
  exact sp_goOn_02 h
theorem sp_pourN_08 {M : Nat → Nat → Int32} {hi kd n : Int32} {t k a b : Nat} : sp_pourN M hi kd t k a b n 0 8 = M 0 8 := by
  unfold sp_pourN
  split
  · rfl
  · split <;> rfl
theorem sp_over_08 {R M : Nat → Nat → Int32} {dm th w : Int32} {t c : Nat} : sp_over R M dm th w t c 0 8 = M 0 8 := by
  unfold sp_over
  split <;> rw [sp_pourN_08] <;> rfl
theorem sp_swT_08 {R wl M : Nat → Nat → Int32} {kd t : Nat} : ∀ c, sp_swT R wl M kd t c 0 8 = M 0 8
  | 0 => rfl
  | c + 1 => by rw [sp_swT, sp_over_08, sp_swT_08 c]
theorem sp_sw_08 {R wl M : Nat → Nat → Int32} {kd cl : Nat → Nat} : ∀ t, sp_sw R wl M kd cl t 0 8 = M 0 8
  | 0 => rfl
  | t + 1 => by rw [sp_sw, sp_swT_08, sp_sw_08 t]
theorem sp_suck_08 {M : Nat → Nat → Int32} {mt mc : Nat → Nat} : ∀ f, sp_suck M mt mc f 0 8 = M 0 8
  | 0 => rfl
  | f + 1 => by
    rw [sp_suck, sp_suckN_ks.2.1, sp_suck_08 f]
theorem sp_goOn_08 {R M : Nat → Nat → Int32} : sp_goOn R M 0 8 = M 0 8 := by
  unfold sp_goOn
  split
  · rfl
  · split
    · unfold sp_next
      split <;> rfl
    · rfl
theorem sp_tick_08 {R wl M : Nat → Nat → Int32} {kd cl mt mc : Nat → Nat} {nT nM : Nat} (h : M 0 8 = 0 ∨ M 0 8 = 1) : sp_tick R wl M kd cl mt mc nT nM 0 8 = 0 ∨ sp_tick R wl M kd cl mt mc nT nM 0 8 = 1 := by
  have e : sp_mid R wl M kd cl mt mc nT nM 0 8 = M 0 8 := by
    unfold sp_mid
    rw [sp_suck_08, sp_sw_08, sp_goOn_08]
  unfold sp_tick sp_end
  split
  · exact .inr rfl
  · rw [← e] at h
    exact h
/-- what a tick has of the way -/
theorem sp_suck_9 {M : Nat → Nat → Int32} {mt mc : Nat → Nat} : ∀ f, sp_suck M mt mc f 9 = M 9
  | 0 => rfl
  | f + 1 => by
    rw [sp_suck, sp_suckN_ks.2.2, sp_suck_9 f]
theorem sp_LR_tick {R wl M X : Nat → Nat → Int32} {kd cl mt mc : Nat → Nat} {nT nM : Nat} (h : sp_LR (sp_goOn R M) X) : sp_LR (sp_tick R wl M kd cl mt mc nT nM) X := by
  have kp := sp_sw_kp (R := R) (M := sp_goOn R M) (wl := wl) (kd := kd) (cl := cl) nT
  have e : sp_mid R wl M kd cl mt mc nT nM 0 2 = sp_goOn R M 0 2 := by
    unfold sp_mid
    rw [sp_suck_02]
    exact kp.2.2.2.2.2
  have e9 : sp_mid R wl M kd cl mt mc nT nM 9 = sp_goOn R M 9 := by
    unfold sp_mid
    rw [sp_suck_9]
    exact kp.2.2.1
  have e2 : sp_tick R wl M kd cl mt mc nT nM 0 2 = sp_mid R wl M kd cl mt mc nT nM 0 2 := by
    unfold sp_tick sp_end
    split <;> rfl
  have e3 : sp_tick R wl M kd cl mt mc nT nM 9 = sp_mid R wl M kd cl mt mc nT nM 9 := by
    unfold sp_tick sp_end
    split <;> rfl
  unfold sp_LR at h ⊢
  rw [e2, e3, e, e9]
  exact h
theorem sp_acc_f {f g : Nat → Int32} {a : Int32} : ∀ n, (∀ i, f i = g i) → sp_acc f a n = sp_acc g a n
  | 0, _ => rfl
  | n + 1, h => by rw [sp_acc, sp_acc, sp_acc_f n h, h n]
theorem sp_mom_e {R M M' : Nat → Nat → Int32} {cl : Nat → Nat} (h : M' 1 = M 1) : ∀ n, sp_momT R M' cl n = sp_momT R M cl n
  | 0 => rfl
  | n + 1 => by
    rw [sp_momT, sp_momT, sp_mom_e h n]
    refine sp_acc_f _ (fun i => ?_)
    unfold sp_term
    rw [h]
theorem sp_pl_tick {R wl M : Nat → Nat → Int32} {kd cl mt mc : Nat → Nat} {nT nM : Nat} : sp_pl R (sp_tick R wl M kd cl mt mc nT nM) cl nT = sp_pl R (sp_mid R wl M kd cl mt mc nT nM) cl nT := by
  have e1 : sp_tick R wl M kd cl mt mc nT nM 1 = sp_mid R wl M kd cl mt mc nT nM 1 := by
    unfold sp_tick sp_end
    split <;> rfl
  have e0 : sp_tick R wl M kd cl mt mc nT nM 0 1 = sp_mid R wl M kd cl mt mc nT nM 0 1 := by
    unfold sp_tick sp_end
    split <;> rfl
  unfold sp_pl sp_pullM
  rw [sp_mom_e e1, e0]
/-- n ticks, and the worst pull in them -/
def sp_tn (R wl M : Nat → Nat → Int32) (kd cl mt mc : Nat → Nat) (nT nM : Nat) : Nat → Nat → Nat → Int32
  | 0 => M
  | k + 1 => sp_tick R wl (sp_tn R wl M kd cl mt mc nT nM k) kd cl mt mc nT nM
def sp_wo (R wl M : Nat → Nat → Int32) (kd cl mt mc : Nat → Nat) (nT nM : Nat) (w : Int32) : Nat → Int32
  | 0 => w
  | k + 1 => sp_max (sp_wo R wl M kd cl mt mc nT nM w k) (sp_abs (sp_pl R (sp_tn R wl M kd cl mt mc nT nM (k + 1)) cl nT))
theorem sp_tn_Iv {R wl M : Nat → Nat → Int32} {kd cl mt mc : Nat → Nat} {nT nM nW T : Nat} (hg : sp_Rg R kd cl mt mc nT nM nW) (h : sp_Iv R M nT nM nW cl T) : ∀ k, T + k < 1000000 → sp_Iv R (sp_tn R wl M kd cl mt mc nT nM k) nT nM nW cl (T + k)
  | 0, _ => h
  | k + 1, hk => (sp_tick_eq hg (sp_tn_Iv hg h k (by omega)) (by omega)).2.2.2
theorem sp_tn_ot {R wl M : Nat → Nat → Int32} {kd cl mt mc : Nat → Nat} {nT nM : Nat} (hs : sp_Sh R nT nM cl mt mc) : ∀ k, sp_Ot nT nM M (sp_tn R wl M kd cl mt mc nT nM k)
  | 0 => sp_Ot.rf
  | k + 1 => sp_ot_tick hs (sp_tn_ot hs k)
theorem sp_tn_0 {R wl M : Nat → Nat → Int32} {kd cl mt mc : Nat → Nat} {nT nM : Nat} (h : (M 0 8 = 0 ∨ M 0 8 = 1) ∧ -1 ≤ (M 0 2).toInt) : ∀ k, (sp_tn R wl M kd cl mt mc nT nM k 0 8 = 0 ∨ sp_tn R wl M kd cl mt mc nT nM k 0 8 = 1) ∧ -1 ≤ (sp_tn R wl M kd cl mt mc nT nM k 0 2).toInt
  | 0 => h
  | k + 1 => ⟨sp_tick_08 (sp_tn_0 h k).1, sp_tick_02 (sp_tn_0 h k).2⟩
theorem jZ_ot {M M' : Nat → Nat → Int32} {nT nM : Nat} (h5 : nT ≤ 5) (h6 : nM ≤ 6) (h : sp_Ot nT nM M M') (hz : jZ M nT nM) : jZ M' nT nM := by
  obtain ⟨z1, z2, z3⟩ := hz
  refine ⟨?_, ?_, ?_⟩
  · intro t ht ht5
    obtain ⟨y1, y2, y3⟩ := z1 t ht ht5
    rw [h 3 t (by unfold sp_in; omega), h 4 t (by unfold sp_in; omega)]
    refine ⟨fun c hc => ?_, y2, y3⟩
    rw [h 1 (12 * t + c) (by unfold sp_in; omega), h 2 (12 * t + c) (by unfold sp_in; omega)]
    exact y1 c hc
  · intro f hf hf6
    rw [h 5 f (by unfold sp_in; omega), h 6 f (by unfold sp_in; omega), h 7 f (by unfold sp_in; omega)]
    exact z2 f hf hf6
  · intro k j hk hk7 hn
    have : ¬ sp_in nT nM k j := by
      intro e
      apply hn
      unfold sp_in at e
      unfold sp_rg
      omega
    rw [h k j this]
    exact z3 k j hk hk7 hn
section SPT
variable {xs : Nat → Int32} {N : Nat} {σ : sl_S} {kd cl mt mc : Nat → Nat} {nT nM nW nR nF : Nat} {Q : Option sl_V → sl_S → Prop}
theorem c_passTicks {b n T : Nat} {M X R wl : Nat → Nat → Int32} (hb5 : ¬ 5 = b) (h : sp_TC σ R wl kd cl mt mc nT nM nW) (hg : sp_Rg R kd cl mt mc nT nM nW) (hI : sp_Iv R M nT nM nW cl T) (hn : n < 1000) (hT : T + n < 1000000) (hL : sp_LR M X) (hQ : ∀ X', sp_LR (sp_tn R wl M kd cl mt mc nT nM n) X' → X' 8 2 = sp_wo R wl M kd cl mt mc nT nM (X 8 2) n → Q none (sp_st σ b (sp_mx (jg (sp_tn R wl M kd cl mt mc nT nM n) nM) X'))) : sl_Go xs N 14 0 [some (.inr (.inr (1, b, 0))), some (.inl (nI n)), none] [] (sp_st σ b (sp_mx (jg M nM) X)) Q := by
  simp (disch := omega) only [g14_0, g14_1n, g14_1i, g14_1r, sz_i4, sz_w4, sz_r4, sz_p4, sz_i5, sz_w5, sz_r5, sz_p5, sz_i6, sz_w6, sz_r6, sz_p6, sz_i7, sz_w7, sz_r7, sz_p7, sz_i8, sz_w8, sz_r8, sz_p8, sz_i9, sz_w9, sz_r9, sz_p9, sz_i10, sz_w10, sz_r10, sz_p10, sz_i14, sz_w14, sz_r14, sz_p14, sz_i15, sz_w15, sz_r15, sz_p15, sz_i18, sz_w18, sz_r18, sz_p18, sz_i19, sz_w19, sz_r19, sz_p19, sz_w21, sz_r21, sz_p21, sz_i23, sz_w23, sz_r23, sz_p23, sz_i24, sz_w24, sz_r24, sz_p24, sz_i25, sz_w25, sz_r25, sz_p25, sz_i28, sz_w28, sz_r28, sz_p28, sz_i31, sz_w31, sz_r31, sz_p31, sz_i41, sz_w41, sz_r41, sz_p41, sz_i42, sz_w42, sz_r42, sz_p42, sz_i43, sz_w43, sz_r43, sz_p43, sz_i44, sz_w44, sz_r44, sz_p44, sz_i45, sz_w45, sz_r45, sz_p45, sz_i46, sz_w46, sz_r46, sz_p46, sz_i47, sz_w47, sz_r47, sz_p47, sz_i48, sz_w48, sz_r48, sz_p48, sz_i49, sz_w49, sz_r49, sz_p49, sz_i50, sz_w50, sz_r50, sz_p50, sz_w51, sz_r51, sz_p51, sz_i52, sz_w52, sz_r52, sz_p52, sz_i53, sz_w53, sz_r53, sz_p53, sz_i54, sz_w54, sz_r54, sz_p54, sz_i55, sz_w55, sz_r55, sz_p55, sz_i56, sz_w56, sz_r56, sz_p56, sz_i57, sz_w57, sz_r57, sz_p57, sz_i58, sz_w58, sz_r58, sz_p58, sz_i59, sz_w59, sz_r59, sz_p59, sz_i60, sz_w60, sz_r60, sz_p60, sz_i61, sz_w61, sz_r61, sz_p61, sz_w62, sz_r62, sz_p62, sz_i63, sz_w63, sz_r63, sz_p63, sz_i64, sz_w64, sz_r64, sz_p64, sz_i65, sz_w65, sz_r65, sz_p65, sz_i66, sz_w66, sz_r66, sz_p66, sz_i67, sz_w67, sz_r67, sz_p67, sz_i68, sz_w68, sz_r68, sz_p68, sz_i69, sz_w69, sz_r69, sz_p69, sz_i70, sz_w70, sz_r70, sz_p70, sz_w71, sz_r71, sz_p71, sz_i72, sz_w72, sz_r72, sz_p72, sz_i73, sz_w73, sz_r73, sz_p73, sz_i74, sz_w74, sz_r74, sz_p74, sz_i75, sz_w75, sz_r75, sz_p75, sz_q2, sz_g2, sz_q3, sz_g3, sz_q12, sz_g12, sz_q16, sz_g16, sz_q26, sz_g26, sz_q29, sz_g29, sz_i90, sz_r90, sz_i91, sz_r91, sz_i92, sz_r92, sz_i93, sz_r93, sz_i94, sz_r94, sz_i95, sz_r95, sz_i99, sz_r99, sz_c0, sz_c1, sz_c2, sz_c3, Option.toList, List.cons_append, List.nil_append, sp_h100, sp_h2, sp_h24, sp_h10, sp_h10L, not_false_eq_true, not_true, true_and, and_true, true_implies, false_implies, nI_toInt, nI_clamp, sp_st_ne, sp_st_eq, sp_st_up, nI_1, sp_12]
  refine sp_down (P := fun k => ∀ X', sp_LR (sp_tn R wl M kd cl mt mc nT nM k) X' → X' 8 2 = sp_wo R wl M kd cl mt mc nT nM (X 8 2) k → sl_Go xs N 14 2 [some (.inr (.inr (1, b, 0))), some (.inl (nI n)), some (.inl (nI k))] [] (sp_st σ b (sp_mx (jg (sp_tn R wl M kd cl mt mc nT nM k) nM) X')) Q) (n := n) ?_ ?_ 0 (Nat.zero_le _) X hL rfl
  · intro X' h1 h2
    simp (disch := omega) only [g14_2, g14_3, g14_4, g14_17, sz_i4, sz_w4, sz_r4, sz_p4, sz_i5, sz_w5, sz_r5, sz_p5, sz_i6, sz_w6, sz_r6, sz_p6, sz_i7, sz_w7, sz_r7, sz_p7, sz_i8, sz_w8, sz_r8, sz_p8, sz_i9, sz_w9, sz_r9, sz_p9, sz_i10, sz_w10, sz_r10, sz_p10, sz_i14, sz_w14, sz_r14, sz_p14, sz_i15, sz_w15, sz_r15, sz_p15, sz_i18, sz_w18, sz_r18, sz_p18, sz_i19, sz_w19, sz_r19, sz_p19, sz_w21, sz_r21, sz_p21, sz_i23, sz_w23, sz_r23, sz_p23, sz_i24, sz_w24, sz_r24, sz_p24, sz_i25, sz_w25, sz_r25, sz_p25, sz_i28, sz_w28, sz_r28, sz_p28, sz_i31, sz_w31, sz_r31, sz_p31, sz_i41, sz_w41, sz_r41, sz_p41, sz_i42, sz_w42, sz_r42, sz_p42, sz_i43, sz_w43, sz_r43, sz_p43, sz_i44, sz_w44, sz_r44, sz_p44, sz_i45, sz_w45, sz_r45, sz_p45, sz_i46, sz_w46, sz_r46, sz_p46, sz_i47, sz_w47, sz_r47, sz_p47, sz_i48, sz_w48, sz_r48, sz_p48, sz_i49, sz_w49, sz_r49, sz_p49, sz_i50, sz_w50, sz_r50, sz_p50, sz_w51, sz_r51, sz_p51, sz_i52, sz_w52, sz_r52, sz_p52, sz_i53, sz_w53, sz_r53, sz_p53, sz_i54, sz_w54, sz_r54, sz_p54, sz_i55, sz_w55, sz_r55, sz_p55, sz_i56, sz_w56, sz_r56, sz_p56, sz_i57, sz_w57, sz_r57, sz_p57, sz_i58, sz_w58, sz_r58, sz_p58, sz_i59, sz_w59, sz_r59, sz_p59, sz_i60, sz_w60, sz_r60, sz_p60, sz_i61, sz_w61, sz_r61, sz_p61, sz_w62, sz_r62, sz_p62, sz_i63, sz_w63, sz_r63, sz_p63, sz_i64, sz_w64, sz_r64, sz_p64, sz_i65, sz_w65, sz_r65, sz_p65, sz_i66, sz_w66, sz_r66, sz_p66, sz_i67, sz_w67, sz_r67, sz_p67, sz_i68, sz_w68, sz_r68, sz_p68, sz_i69, sz_w69, sz_r69, sz_p69, sz_i70, sz_w70, sz_r70, sz_p70, sz_w71, sz_r71, sz_p71, sz_i72, sz_w72, sz_r72, sz_p72, sz_i73, sz_w73, sz_r73, sz_p73, sz_i74, sz_w74, sz_r74, sz_p74, sz_i75, sz_w75, sz_r75, sz_p75, sz_q2, sz_g2, sz_q3, sz_g3, sz_q12, sz_g12, sz_q16, sz_g16, sz_q26, sz_g26, sz_q29, sz_g29, sz_i90, sz_r90, sz_i91, sz_r91, sz_i92, sz_r92, sz_i93, sz_r93, sz_i94, sz_r94, sz_i95, sz_r95, sz_i99, sz_r99, sz_c0, sz_c1, sz_c2, sz_c3, Option.toList, List.cons_append, List.nil_append, sp_h100, sp_h2, sp_h24, sp_h10, sp_h10L, not_false_eq_true, not_true, true_and, and_true, true_implies, false_implies, nI_toInt, nI_clamp, sp_st_ne, sp_st_eq, sp_st_up, nI_1, sp_12, nI_leI]
    exact ⟨fun _ => hQ X' h1 h2, fun h => absurd (Nat.le_refl n) h⟩
  · intro k hk ih X' h1 h2
    have hIk := sp_tn_Iv (wl := wl) hg hI k (by omega)
    obtain ⟨t1, t2, t3, t4⟩ := sp_tick_eq (wl := wl) hg (jg_Iv hIk) (by omega)
    rw [g14_2]
    simp (disch := omega) only [g14_3, g14_4, g14_7, g14_8, sz_i4, sz_w4, sz_r4, sz_p4, sz_i5, sz_w5, sz_r5, sz_p5, sz_i6, sz_w6, sz_r6, sz_p6, sz_i7, sz_w7, sz_r7, sz_p7, sz_i8, sz_w8, sz_r8, sz_p8, sz_i9, sz_w9, sz_r9, sz_p9, sz_i10, sz_w10, sz_r10, sz_p10, sz_i14, sz_w14, sz_r14, sz_p14, sz_i15, sz_w15, sz_r15, sz_p15, sz_i18, sz_w18, sz_r18, sz_p18, sz_i19, sz_w19, sz_r19, sz_p19, sz_w21, sz_r21, sz_p21, sz_i23, sz_w23, sz_r23, sz_p23, sz_i24, sz_w24, sz_r24, sz_p24, sz_i25, sz_w25, sz_r25, sz_p25, sz_i28, sz_w28, sz_r28, sz_p28, sz_i31, sz_w31, sz_r31, sz_p31, sz_i41, sz_w41, sz_r41, sz_p41, sz_i42, sz_w42, sz_r42, sz_p42, sz_i43, sz_w43, sz_r43, sz_p43, sz_i44, sz_w44, sz_r44, sz_p44, sz_i45, sz_w45, sz_r45, sz_p45, sz_i46, sz_w46, sz_r46, sz_p46, sz_i47, sz_w47, sz_r47, sz_p47, sz_i48, sz_w48, sz_r48, sz_p48, sz_i49, sz_w49, sz_r49, sz_p49, sz_i50, sz_w50, sz_r50, sz_p50, sz_w51, sz_r51, sz_p51, sz_i52, sz_w52, sz_r52, sz_p52, sz_i53, sz_w53, sz_r53, sz_p53, sz_i54, sz_w54, sz_r54, sz_p54, sz_i55, sz_w55, sz_r55, sz_p55, sz_i56, sz_w56, sz_r56, sz_p56, sz_i57, sz_w57, sz_r57, sz_p57, sz_i58, sz_w58, sz_r58, sz_p58, sz_i59, sz_w59, sz_r59, sz_p59, sz_i60, sz_w60, sz_r60, sz_p60, sz_i61, sz_w61, sz_r61, sz_p61, sz_w62, sz_r62, sz_p62, sz_i63, sz_w63, sz_r63, sz_p63, sz_i64, sz_w64, sz_r64, sz_p64, sz_i65, sz_w65, sz_r65, sz_p65, sz_i66, sz_w66, sz_r66, sz_p66, sz_i67, sz_w67, sz_r67, sz_p67, sz_i68, sz_w68, sz_r68, sz_p68, sz_i69, sz_w69, sz_r69, sz_p69, sz_i70, sz_w70, sz_r70, sz_p70, sz_w71, sz_r71, sz_p71, sz_i72, sz_w72, sz_r72, sz_p72, sz_i73, sz_w73, sz_r73, sz_p73, sz_i74, sz_w74, sz_r74, sz_p74, sz_i75, sz_w75, sz_r75, sz_p75, sz_q2, sz_g2, sz_q3, sz_g3, sz_q12, sz_g12, sz_q16, sz_g16, sz_q26, sz_g26, sz_q29, sz_g29, sz_i90, sz_r90, sz_i91, sz_r91, sz_i92, sz_r92, sz_i93, sz_r93, sz_i94, sz_r94, sz_i95, sz_r95, sz_i99, sz_r99, sz_c0, sz_c1, sz_c2, sz_c3, Option.toList, List.cons_append, List.nil_append, sp_h100, sp_h2, sp_h24, sp_h10, sp_h10L, not_false_eq_true, not_true, true_and, and_true, true_implies, false_implies, nI_toInt, nI_clamp, sp_st_ne, sp_st_eq, sp_st_up, nI_1, sp_12, nI_leI]
    refine ⟨fun e => absurd e (by omega), fun _ => ?_⟩
    refine ⟨by decide, c_passTick (M := jg (sp_tn R wl M kd cl mt mc nT nM k) nM) hb5 h hIk.2.2.1 h1 ?_⟩
    intro X2 l1 l2
    rw [t1, t2, jg_mid, jg_pl, h2] at l2
    rw [t3, jg_tick]
    simp (disch := omega) only [g14_11n, g14_11i, g14_11r, g14_14, sz_i4, sz_w4, sz_r4, sz_p4, sz_i5, sz_w5, sz_r5, sz_p5, sz_i6, sz_w6, sz_r6, sz_p6, sz_i7, sz_w7, sz_r7, sz_p7, sz_i8, sz_w8, sz_r8, sz_p8, sz_i9, sz_w9, sz_r9, sz_p9, sz_i10, sz_w10, sz_r10, sz_p10, sz_i14, sz_w14, sz_r14, sz_p14, sz_i15, sz_w15, sz_r15, sz_p15, sz_i18, sz_w18, sz_r18, sz_p18, sz_i19, sz_w19, sz_r19, sz_p19, sz_w21, sz_r21, sz_p21, sz_i23, sz_w23, sz_r23, sz_p23, sz_i24, sz_w24, sz_r24, sz_p24, sz_i25, sz_w25, sz_r25, sz_p25, sz_i28, sz_w28, sz_r28, sz_p28, sz_i31, sz_w31, sz_r31, sz_p31, sz_i41, sz_w41, sz_r41, sz_p41, sz_i42, sz_w42, sz_r42, sz_p42, sz_i43, sz_w43, sz_r43, sz_p43, sz_i44, sz_w44, sz_r44, sz_p44, sz_i45, sz_w45, sz_r45, sz_p45, sz_i46, sz_w46, sz_r46, sz_p46, sz_i47, sz_w47, sz_r47, sz_p47, sz_i48, sz_w48, sz_r48, sz_p48, sz_i49, sz_w49, sz_r49, sz_p49, sz_i50, sz_w50, sz_r50, sz_p50, sz_w51, sz_r51, sz_p51, sz_i52, sz_w52, sz_r52, sz_p52, sz_i53, sz_w53, sz_r53, sz_p53, sz_i54, sz_w54, sz_r54, sz_p54, sz_i55, sz_w55, sz_r55, sz_p55, sz_i56, sz_w56, sz_r56, sz_p56, sz_i57, sz_w57, sz_r57, sz_p57, sz_i58, sz_w58, sz_r58, sz_p58, sz_i59, sz_w59, sz_r59, sz_p59, sz_i60, sz_w60, sz_r60, sz_p60, sz_i61, sz_w61, sz_r61, sz_p61, sz_w62, sz_r62, sz_p62, sz_i63, sz_w63, sz_r63, sz_p63, sz_i64, sz_w64, sz_r64, sz_p64, sz_i65, sz_w65, sz_r65, sz_p65, sz_i66, sz_w66, sz_r66, sz_p66, sz_i67, sz_w67, sz_r67, sz_p67, sz_i68, sz_w68, sz_r68, sz_p68, sz_i69, sz_w69, sz_r69, sz_p69, sz_i70, sz_w70, sz_r70, sz_p70, sz_w71, sz_r71, sz_p71, sz_i72, sz_w72, sz_r72, sz_p72, sz_i73, sz_w73, sz_r73, sz_p73, sz_i74, sz_w74, sz_r74, sz_p74, sz_i75, sz_w75, sz_r75, sz_p75, sz_q2, sz_g2, sz_q3, sz_g3, sz_q12, sz_g12, sz_q16, sz_g16, sz_q26, sz_g26, sz_q29, sz_g29, sz_i90, sz_r90, sz_i91, sz_r91, sz_i92, sz_r92, sz_i93, sz_r93, sz_i94, sz_r94, sz_i95, sz_r95, sz_i99, sz_r99, sz_c0, sz_c1, sz_c2, sz_c3, Option.toList, List.cons_append, List.nil_append, sp_h100, sp_h2, sp_h24, sp_h10, sp_h10L, not_false_eq_true, not_true, true_and, and_true, true_implies, false_implies, nI_toInt, nI_clamp, sp_st_ne, sp_st_eq, sp_st_up, nI_1, sp_12, nI_leI]
    refine ih X2 ?_ ?_
    · rw [jg_goOn] at l1
      exact sp_LR_tick l1
    · rw [l2, sp_wo, sp_tn, sp_pl_tick]
theorem m_goTick2 {M : Nat → Nat → Int32} {T : Nat} (h : sp_TM σ kd cl mt mc nT nM) (hI : sp_Iv (σ 6) M nT nM nW cl T) (h6 : nW ≤ 6) (hQ : Q none (sp_st σ 4 (sp_tick (σ 6) (sp_wlM (σ 6)) M kd cl mt mc nT nM))) : sl_Go xs N 111 0 [some (.inr (.inr (40, 0, 0))), none, none, none] [] (sp_st σ 4 M) Q := by
  refine m_goTick h ?_ hQ
  rcases hI.2.2.1 with e | ⟨y, nl, n, a, b⟩
  · exact .inl e
  · exact .inr ⟨y, nl, n, by omega, b⟩
end SPT
