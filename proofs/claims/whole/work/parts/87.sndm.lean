theorem sl_find_mem {pc : Nat} {q : Nat × sl_E} : ∀ (l : List (Nat × Nat × sl_E)), sl_find pc l = some q → (pc, q) ∈ l
  | [], h => by cases h
  | e :: l, h => by
    unfold sl_find at h
    split at h
    · rename_i h1
      subst h1
      cases h
      exact List.mem_cons_self
    · exact List.mem_cons_of_mem _ (sl_find_mem l h)
theorem sl_find2_mem {pc : Nat} {q : Nat × sl_E} : ∀ (l : List (Nat × List (Nat × Nat × sl_E))), sl_find2 pc l = some q → ∃ c, c ∈ l ∧ (pc, q) ∈ c.2
  | [], h => by cases h
  | c :: l, h => by
    unfold sl_find2 at h
    split at h
    · exact ⟨c, List.mem_cons_self, sl_find_mem _ h⟩
    · obtain ⟨d, h1, h2⟩ := sl_find2_mem l h
      exact ⟨d, List.mem_cons_of_mem _ h1, h2⟩
theorem sl_chk_of {m pc nx : Nat} {info : sl_M} {e : sl_E} (hm : sl_ms[m]? = some info) (hc : sl_code m pc = some (nx, e)) : sl_chk info.1.cls info.2.1 info.2.2.2.1 info.2.2.2.2.1 info.2.2.2.2.2.1 pc nx e = true := by
  have h1 := sl_kall m info hm
  obtain ⟨c, h2, h3⟩ := sl_find2_mem _ hc
  unfold sl_mk at h1
  exact List.all_eq_true.mp (List.all_eq_true.mp h1 c h2) (pc, nx, e) h3
/-- the locals at a method's entry -/
theorem sl_prs_none {ad : sl_R → Nat} : ∀ (n i : Nat), sl_prs ad i (List.replicate n none) = []
  | 0, _ => rfl
  | n + 1, i => by
    rw [List.replicate_succ, sl_prs]
    exact sl_prs_none n (i + 1)
theorem sl_prs_mk {ad : sl_R → Nat} (n : Nat) : ∀ (as : List sl_V) (i : Nat), sl_prs ad i (sl_mkA as ++ List.replicate n none) = lv_args i (as.map (sl_ren ad))
  | [], i => by
    rw [sl_mkA, List.nil_append, sl_prs_none]
    rfl
  | .inl x :: as, i => by
    rw [sl_mkA, List.cons_append, sl_prs, sl_prs_mk n as (i + 1)]
    · rfl
    · intro _ h; cases h
  | .inr (.inl x) :: as, i => by
    rw [sl_mkA, List.cons_append, sl_prs, List.cons_append, sl_prs, sl_prs_mk n as (i + 1 + 1)]
    rfl
  | .inr (.inr x) :: as, i => by
    rw [sl_mkA, List.cons_append, sl_prs, sl_prs_mk n as (i + 1)]
    · rfl
    · intro _ h; cases h
theorem sl_mkA_len {ad : sl_R → Nat} : ∀ as : List sl_V, (lg_sl (as.map (sl_ren ad))).length = (sl_mkA as).length
  | [] => rfl
  | .inl x :: as => by
    show (lg_sl (Value.int x :: as.map (sl_ren ad))).length = (some _ :: sl_mkA as).length
    rw [List.length_cons, ← sl_mkA_len (ad := ad) as]
    simp [lg_sl, Value.category]
  | .inr (.inl x) :: as => by
    show (lg_sl (Value.long x :: as.map (sl_ren ad))).length = (some _ :: none :: sl_mkA as).length
    rw [List.length_cons, List.length_cons, ← sl_mkA_len (ad := ad) as]
    simp [lg_sl, Value.category]
  | .inr (.inr x) :: as => by
    show (lg_sl (Value.ref (ad x) :: as.map (sl_ren ad))).length = (some _ :: sl_mkA as).length
    rw [List.length_cons, ← sl_mkA_len (ad := ad) as]
    simp [lg_sl, Value.category]
theorem sl_mkA_mem {v : sl_V} : ∀ as : List sl_V, some v ∈ sl_mkA as → v ∈ as
  | [], h => by cases h
  | .inl x :: as, h => by
    rcases List.mem_cons.mp (show some v ∈ some (.inl x) :: sl_mkA as from h) with h1 | h1
    · cases h1; exact List.mem_cons_self
    · exact List.mem_cons_of_mem _ (sl_mkA_mem as h1)
  | .inr (.inl x) :: as, h => by
    rcases List.mem_cons.mp (show some v ∈ some (.inr (.inl x)) :: none :: sl_mkA as from h) with h1 | h1
    · cases h1; exact List.mem_cons_self
    · rcases List.mem_cons.mp h1 with h2 | h2
      · cases h2
      · exact List.mem_cons_of_mem _ (sl_mkA_mem as h2)
  | .inr (.inr x) :: as, h => by
    rcases List.mem_cons.mp (show some v ∈ some (.inr (.inr x)) :: sl_mkA as from h) with h1 | h1
    · cases h1; exact List.mem_cons_self
    · exact List.mem_cons_of_mem _ (sl_mkA_mem as h1)
theorem sl_mkL_ok {m nL : Nat} {as : List sl_V} (hl : (sl_mkA as).length ≤ sl_ml m) (hn : sl_ml m = nL) (hok : ∀ v, v ∈ as → sl_okv v) : sl_ok nL (sl_mkL m as) [] := by
  refine ⟨?_, ⟨fun v h => absurd h List.not_mem_nil, fun v h => ?_⟩⟩
  · unfold sl_mkL
    rw [List.length_append, List.length_replicate]
    omega
  · unfold sl_mkL at h
    rcases List.mem_append.mp h with h1 | h1
    · exact hok v (sl_mkA_mem as h1)
    · have := List.eq_of_mem_replicate h1
      cases this
/-- what a method finds: the cells, the tables, what nobody writes -/
def sl_B (D : va_G) (cA : Nat → ClassId) (ad : sl_R → Nat) (xs : Nat → Int32) (N : Nat) (σ : sl_S) (U : State) : Prop := va_P D vwCl (sl_ws ad cA σ) U.heap ∧ va_K D vwCl (sl_tys cA) U ∧ sl_Ro ad xs N U U.heap ∧ (∀ q, q ∈ sl_nest → va_Nw (.methodLinkNest q.1 q.2 yX9_within "SloshTank") U)
/-- what it leaves -/
def sl_Qc (D : va_G) (cA : Nat → ClassId) (ad : sl_R → Nat) (r : Option sl_V) (τ : sl_S) : Array Value → State → Outcome → State → Prop := fun _ st oc t => oc = .returned (r.map (sl_ren ad)) ∧ va_P D vwCl (sl_ws ad cA τ) t.heap ∧ va_F (sl_A ad) st t
theorem sl_Ro_moved {ad : sl_R → Nat} {xs : Nat → Int32} {N : Nat} {u U : State} {H H1 : Heap} (hvm : u.vm.Alike U.vm) (hq : ∀ a : Nat, a < H.size → ¬ sl_A ad a → H1[a]? = H[a]?) (h : sl_Ro ad xs N u H) : sl_Ro ad xs N U H1 :=
  ⟨fun r hr n f hf => ((h.1 r hr n f hf).moved hvm).kept hq, fun j hj => ((h.2 j hj).moved hvm).kept hq⟩
theorem sl_B_blind {D : va_G} {cA : Nat → ClassId} {ad : sl_R → Nat} {xs : Nat → Int32} {N : Nat} {σ : sl_S} (av : List Value) : FrameBlind (va_Pc av (sl_B D cA ad xs N σ)) := by
  intro a U g mk h
  obtain ⟨h1, h2, h3, h4, h5⟩ := h
  exact ⟨h1, h2, va_K.moved (u := U) (U := U.calling g mk a) (Vm.Alike.refl U.vm) h3, sl_Ro_moved (u := U) (U := U.calling g mk a) (Vm.Alike.refl U.vm) (fun _ _ _ => rfl) h4, fun q hq => va_Nw.same (U := U.calling g mk a) rfl rfl (h5 q hq)⟩
section SNM
variable {p : Program} {l : Launch} {e : Env} {R : Room} {s : State} {mi : MethodId} {args : Array Value} {below : List Frame} {meth : Method} {c : Code} {cells slots : Nat} {Q : State → Prop}
variable {D : va_G} {cA : Nat → ClassId} {ad : sl_R → Nat} {xs : Nat → Int32} {N : Nat} {own : String} {bytes : ByteArray} {nL : Nat}
/-- what goes on behind a call -/
theorem sl_afterCall {pc : Nat} {ls : Array Slot} {H : Heap} {locs : List Loc} {st0 rest : List Value} {r : Option sl_V} {τ : sl_S} {a : Array Value} (hr : va_Run p l e R s mi args below meth c H locs cells slots 0 0 (F0 mi pc ls st0) rest (sl_Qc D cA ad r τ a) (sl_A ad)) (hS : va_S (sl_A ad) s.heap H locs)
    (kk : ∀ (H1 : Heap) (locs1 : List Loc), va_P D vwCl (sl_ws ad cA τ) H1 → va_S (sl_A ad) s.heap H1 locs1 → W p l e R s mi args below meth c H1 locs1 cells slots Q (F0 mi (pc + 3) ls ((r.map (sl_ren ad)).toList ++ rest))) : W p l e R s mi args below meth c H locs cells slots Q (F0 mi pc ls st0) := by
  intro T hT X
  obtain ⟨v, st₀, t, T', Ls, h0, X', hL, e1, e2, ⟨hv, hP, hz, hk⟩, st⟩ := hr T hT X
  cases hv
  rw [h0] at hz hk
  obtain ⟨t2, a1, b1⟩ := kk T'.heap (locs ++ Ls) (by rw [e1]; exact hP)
    ⟨Nat.le_trans hS.1 (by rw [e1]; exact hz), fun q h1 h2 => by rw [e1, hk q (Nat.lt_of_lt_of_le h1 hS.1) h2]; exact hS.2.1 q h1 h2, fun q hq => by
      rcases List.mem_append.mp hq with h | h
      · exact hS.2.2 q h
      · exact hL q h⟩ T' rfl X'
  exact ⟨t2, st t2 a1, b1⟩
end SNM
theorem sl_goodw {w : Cond} (h : w ∈ sl_good) : goodWord w = true := (List.mem_filter.mp h).2
theorem sl_goodIn {ws : List Cond} (h : ∀ w, w ∈ ws → w ∈ sl_good) : GoodIn sl_good ws := fun w hw => ⟨h w hw, good_of_word (sl_goodw (h w hw))⟩
theorem sl_stA {k a b nx : Nat} {v : Int32} {L : sl_L} {st : List sl_V} {σ : sl_S} {q : (Nat × List sl_V × Nat × List sl_V) ⊕ Option sl_V} (h : sl_stepA k a b v nx L st σ = some (.inr q)) : False := by
  unfold sl_stepA sl_nx at h
  repeat' split at h
  all_goals cases h
theorem sl_stB {xs : Nat → Int32} {N k a b nx : Nat} {v : Int32} {L : sl_L} {st : List sl_V} {σ : sl_S} {q : (Nat × List sl_V × Nat × List sl_V) ⊕ Option sl_V} (h : sl_stepB xs N k a b v nx L st σ = some (.inr q)) : False := by
  unfold sl_stepB sl_nx at h
  repeat' split at h
  all_goals cases h
theorem sl_stC1 {k a b ml nx : Nat} {v : Int32} {ts : List Nat} {L : sl_L} {st : List sl_V} {σ : sl_S} {q : Nat × List sl_V × Nat × List sl_V} (h : sl_stepC k a b v ts ml nx L st σ = some (.inr (.inl q))) : k = 4 ∧ b ≤ st.length ∧ sl_cw (st.drop b) ≤ 8 ∧ sl_rc v (st.take b).reverse = true ∧ (sl_mkA (st.take b).reverse).length ≤ ml ∧ q = (a, (st.take b).reverse, nx, st.drop b) := by
  unfold sl_stepC at h
  split at h
  case h_5 =>
    split at h
    · rename_i hc
      cases h
      exact ⟨rfl, hc.1, hc.2.1, hc.2.2.1, hc.2.2.2, rfl⟩
    · cases h
  all_goals (try unfold sl_nx at h)
  all_goals (repeat' split at h)
  all_goals cases h
theorem sl_stC2 {k a b ml nx : Nat} {v : Int32} {ts : List Nat} {L : sl_L} {st : List sl_V} {σ : sl_S} {r : Option sl_V} (h : sl_stepC k a b v ts ml nx L st σ = some (.inr (.inr r))) : (k = 5 ∧ ∃ x, st = [.inl x] ∧ (v = 0 ∨ x = 0 ∨ x = 1) ∧ r = some (.inl x)) ∨ (k = 6 ∧ st = [] ∧ r = none) ∨ (k = 7 ∧ ∃ x, st = [.inr (.inl x)] ∧ r = some (.inr (.inl x))) := by
  unfold sl_stepC at h
  split at h
  case h_6 =>
    split at h
    · split at h
      · rename_i hc
        cases h
        exact Or.inl ⟨rfl, _, rfl, hc, rfl⟩
      · cases h
    · cases h
  case h_7 =>
    split at h
    · cases h
      exact Or.inr (Or.inl ⟨rfl, rfl, rfl⟩)
    · cases h
  case h_8 =>
    split at h
    · cases h
      exact Or.inr (Or.inr ⟨rfl, _, rfl, rfl⟩)
    · cases h
  all_goals (try unfold sl_nx at h)
  all_goals (repeat' split at h)
  all_goals cases h
theorem sl_run_val {xs : Nat → Int32} {N : Nat} : ∀ (n m pc : Nat) (L : sl_L) (st : List sl_V) (σ : sl_S) (u : Option sl_V × sl_S), sl_run xs N n m pc L st σ = some u → ∀ v, v ∈ u.1.toList → sl_okv v := by
  intro n
  induction n with
  | zero => intro m pc L st σ u h; cases h
  | succ n ih =>
    intro m pc L st σ u h
    rw [sl_run] at h
    cases hs : sl_step xs N m pc L st σ with
    | none => rw [hs] at h; cases h
    | some q =>
      rw [hs] at h
      rcases q with q | q | r
      · exact ih _ _ _ _ _ _ h
      · dsimp only at h
        cases hc : sl_run xs N n q.1 0 (sl_mkL q.1 q.2.1) [] σ with
        | none => rw [hc] at h; cases h
        | some w =>
          rw [hc] at h
          exact ih _ _ _ _ _ _ h
      · cases h
        unfold sl_step at hs
        split at hs
        · cases hs
        · unfold sl_stepE at hs
          split at hs
          · exact (sl_stA hs).elim
          · split at hs
            · exact (sl_stB hs).elim
            · rcases sl_stC2 hs with ⟨-, x, -, -, rfl⟩ | ⟨-, -, rfl⟩ | ⟨-, x, -, rfl⟩
              · intro v hv; cases List.mem_singleton.mp hv; trivial
              · intro v hv; cases hv
              · intro v hv; cases List.mem_singleton.mp hv; trivial
/-- soundness up to n steps -/
def sl_Snd (xs : Nat → Int32) (N : Nat) (l : Launch) (D : va_G) (cA : Nat → ClassId) (ad : sl_R → Nat) (n : Nat) : Prop :=
  ∀ (m pc : Nat) (L : sl_L) (st : List sl_V) (σ : sl_S) (u : Option sl_V × sl_S), sl_run xs N n m pc L st σ = some u → ∀ (info : sl_M), sl_ms[m]? = some info →
    ∀ (p : Program) (e : Env) (R : Room) (s : State) (mi : MethodId) (args : Array Value) (below : List Frame) (meth : Method) (c : Code) (cells slots : Nat) (Q : State → Prop),
      sl_C p s mi args c D cA ad xs N info.1.cls info.2.1 (sl_ml m) → info.2.2.2.2.1 ≤ R.frames → info.2.2.2.2.2.1 ≤ R.locals → cells ≤ R.cells → slots ≤ R.slots → sl_ok (sl_ml m) L st →
      (∀ (pc' : Nat) (H : Heap) (locs : List Loc) (ls : Array Slot), sl_fin9 info.2.2.2.1 info.2.1 pc' u.1 → va_P D vwCl (sl_ws ad cA u.2) H → va_S (sl_A ad) s.heap H locs → W p l e R s mi args below meth c H locs cells slots Q (F0 mi pc' ls (u.1.toList.map (sl_ren ad)))) →
      sl_N p l e R s mi args below meth c cells slots Q D cA ad (sl_ml m) pc L st σ
set_option maxHeartbeats 4000000 in
theorem sl_met {xs : Nat → Int32} {N : Nat} {l : Launch} {D : va_G} {cA : Nat → ClassId} {ad : sl_R → Nat} {n a : Nat} {as : List sl_V} {σ : sl_S} {w : Option sl_V × sl_S} {m2 : sl_M} (hinj : ∀ q r, q ∈ sl_refs → r ∈ sl_refs → ad q = ad r → q = r) (ih : sl_Snd xs N l D cA ad n) (ha : a < 160) (hm2 : sl_ms[a]? = some m2) (hml : sl_ml a = m2.2.2.1) (hrun : sl_run xs N n a 0 (sl_mkL a as) [] σ = some w) (has : ∀ v, v ∈ as → sl_okv v) (hlen : (sl_mkA as).length ≤ sl_ml a) :
    Met l m2.1 (Cond.code m2.1 m2.2.1 m2.2.2.1 m2.2.2.2.1 :: sl_good) { frames := m2.2.2.2.2.1, cells := 0, slots := 0, locals := m2.2.2.2.2.2.1 } (va_Pc (as.map (sl_ren ad)) (sl_B D cA ad xs N σ)) (sl_Qc D cA ad w.1 w.2) 0 0 (sl_A ad) := by
  obtain ⟨q, hq⟩ := sl_ms_of ha hm2
  unfold sl_msP at hq
  simp only [Bool.and_eq_true, decide_eq_true_eq] at hq
  refine Met.ofW (cc := m2.2.1) (maxL := m2.2.2.1) (ret := m2.2.2.2.1) hq.1 rfl ?_
  intro p e s m args below meth c s₁ B hmx hv
  obtain ⟨rfl, hP, hK, hRo, hN⟩ := hv
  have hts := atoms_spec (ws := Cond.code m2.1 m2.2.1 m2.2.2.1 m2.2.2.2.1 :: sl_good) B.pre
  have hlocks := B.notSynchronized
  have hr := B.returns
  have hl := lv_entry (as.map (sl_ren ad)) (n := m2.2.2.1) (by rw [sl_mkA_len, ← hml]; exact hlen)
  rw [lg_entry_eq]
  generalize (lg_sl (as.map (sl_ren ad)) ++ List.replicate (m2.2.2.1 - (lg_sl (as.map (sl_ren ad))).length) Slot.unset).toArray = ls at hl ⊢
  rw [← sl_prs_mk (sl_ml a - (sl_mkA as).length) as 0, ← hml] at hl
  refine ih a 0 (sl_mkL a as) [] σ w hrun m2 hm2 p e _ s m _ below meth c 0 0 _ ⟨B.exec, B.bytes, by rw [hml]; exact hmx, fun w hw => hts w (List.mem_cons_of_mem _ hw), findClass_of_methodNamed B.named, hK, hinj, hRo, hN⟩ (Nat.le_refl _) (Nat.le_refl _) (Nat.le_refl _) (Nat.le_refl _) (sl_mkL_ok hlen rfl has) ?_ s.heap [] ls hP va_S.rf hl
  intro pc' H locs ls2 hfin hP2 hS2
  have hqc : ∀ t : State, t.heap = H → sl_Qc D cA ad w.1 w.2 (as.map (sl_ren ad)).toArray s (.returned (w.1.map (sl_ren ad))) t := fun t ht => ⟨rfl, by rw [ht]; exact hP2, hS2.F ht⟩
  generalize hret : m2.2.2.2.1 = ret at hfin hr
  unfold sl_fin9 at hfin
  split at hfin
  · obtain ⟨h1, h2⟩ := hfin
    rw [h1] at hqc ⊢
    exact W.vret B.exec B.bytes hr (fun t ht _ => hqc t ht) hS2.2.2 h2
  · obtain ⟨x, h1, h2⟩ := hfin
    rw [h1] at hqc ⊢
    exact W.iret B.exec B.bytes hr (fun t ht _ => hqc t ht) hS2.2.2 h2
  · obtain ⟨x, h1, h01, h2⟩ := hfin
    rw [h1] at hqc ⊢
    exact W.zret B.exec B.bytes hr (sl_z1 h01) (fun t ht _ => hqc t ht) hS2.2.2 h2
  · obtain ⟨x, h1, h2⟩ := hfin
    rw [h1] at hqc ⊢
    exact W.lret B.exec B.bytes hr (fun t ht _ => hqc t ht) hS2.2.2 h2
  · exact hfin.elim
set_option maxHeartbeats 4000000 in
theorem sl_sound (xs : Nat → Int32) (N : Nat) (l : Launch) {D : va_G} {cA : Nat → ClassId} {ad : sl_R → Nat} : ∀ n : Nat, sl_Snd xs N l D cA ad n := by
  intro n
  induction n with
  | zero => intro m pc L st σ u h; cases h
  | succ n ih =>
    intro m pc L st σ u h info hm p e R s mi args below meth c cells slots Q hC hfr hlo hce hsl hok hfin
    rw [sl_run] at h
    cases hs : sl_step xs N m pc L st σ with
    | none => rw [hs] at h; cases h
    | some q =>
      rw [hs] at h
      unfold sl_step at hs
      cases hc : sl_code m pc with
      | none => rw [hc] at hs; cases hs
      | some z =>
        obtain ⟨nx, k, a, b, v⟩ := z
        rw [hc] at hs
        have hck := sl_chk_of hm hc
        unfold sl_chk at hck
        unfold sl_stepE at hs
        dsimp only at hs hck
        cases hd : decode info.2.1 pc with
        | error _ => rw [hd] at hck; cases hck
        | ok il =>
          obtain ⟨i, len⟩ := il
          rw [hd] at hck
          dsimp only at hck
          by_cases h1 : k < 100
          · rw [if_pos h1] at hs hck
            simp only [Bool.and_eq_true, decide_eq_true_eq] at hck
            rcases q with q | q
            · exact snd_A hC hd hck.1 hck.2 hok hs (fun hok' => ih _ _ _ _ _ _ h info hm p e R s mi args below meth c cells slots Q hC hfr hlo hce hsl hok' hfin)
            · exact (sl_stA hs).elim
          · rw [if_neg h1] at hs hck
            by_cases h2 : k < 200
            · rw [if_pos h2] at hs hck
              simp only [Bool.and_eq_true, decide_eq_true_eq] at hck
              rcases q with q | q
              · exact snd_B hC hd hck.1 hck.2.1 (fun hk => ⟨Nat.le_trans (hck.2.2 hk).1 hfr, Nat.le_trans (hck.2.2 hk).2 hlo⟩) ⟨hce, hsl⟩ hok hs (fun hok' => ih _ _ _ _ _ _ h info hm p e R s mi args below meth c cells slots Q hC hfr hlo hce hsl hok' hfin)
              · exact (sl_stB hs).elim
            · rw [if_neg h2] at hs hck
              rcases q with q | q | r
              · exact snd_C hC hd hck hok hs (fun hok' => ih _ _ _ _ _ _ h info hm p e R s mi args below meth c cells slots Q hC hfr hlo hce hsl hok' hfin)
              · -- a call
                obtain ⟨hk, hb, hcw, hrc, hml, rfl⟩ := sl_stC1 hs
                dsimp only at h
                cases hcl : sl_run xs N n a 0 (sl_mkL a (st.take b).reverse) [] σ with
                | none => rw [hcl] at h; cases h
                | some w =>
                  rw [hcl] at h
                  dsimp only at h
                  rw [hk] at hck
                  simp only [sl_cC, Bool.and_eq_true, decide_eq_true_eq] at hck
                  obtain ⟨ha, hlen, hnx, hck⟩ := hck
                  subst hlen
                  subst hnx
                  cases hm2 : sl_ms[a]? with
                  | none => rw [hm2] at hck; cases hck
                  | some m2 =>
                    rw [hm2] at hck
                    dsimp only at hck
                    simp only [Bool.and_eq_true, decide_eq_true_eq] at hck
                    obtain ⟨⟨hf2, hl2⟩, hmx, hck⟩ := hck
                    have has : ∀ v, v ∈ (st.take b).reverse → sl_okv v := fun v hv => hok.2.1 v (List.mem_of_mem_take (List.mem_reverse.mp hv))
                    have hokd : ∀ v, v ∈ st.drop b → sl_okv v := fun v hv => hok.2.1 v (List.mem_of_mem_drop hv)
                    have hMet := sl_met (l := l) (D := D) (cA := cA) hC.2.2.2.2.2.2.1 ih ha hm2 hmx hcl has hml
                    obtain ⟨qp, hqp⟩ := sl_ms_of ha hm2
                    have hcode := sl_mc_of ha hm2
                    unfold sl_msP at hqp
                    simp only [Bool.and_eq_true, decide_eq_true_eq] at hqp
                    obtain ⟨hq1, hq2, hq3, hq4, hq5, hq6⟩ := hqp
                    obtain ⟨hx, hb9, hmloc, hts, hown, hK, hinj, hro, hnest⟩ := id hC
                    intro H locs ls hP hS hl
                    have hB : ∀ U : State, U.heap = H → s.WarmedH U.vm → sl_B D cA ad xs N σ U := fun U hU hW => ⟨by rw [hU]; exact hP, va_K.moved hW.alike hK, sl_Ro_moved hW.alike (fun q h1 h2 => by rw [hU]; exact hS.2.1 q h1 h2) hro, fun q hq => va_Nw.warmM hW (hnest q hq)⟩
                    have hst : st.map (sl_ren ad) = ((st.take b).map (sl_ren ad)) ++ (st.drop b).map (sl_ren ad) := by rw [← List.map_append, List.take_append_drop]
                    have hroom : 2 * (F0 mi pc ls (st.map (sl_ren ad))).monitorRoom + (((st.drop b).map (sl_ren ad)).map fun v => v.category).sum ≤ 8 := lv_room (by rw [sl_cwv]; exact hcw)
                    have hcont : ∀ (H1 : Heap) (locs1 : List Loc), va_P D vwCl (sl_ws ad cA w.2) H1 → va_S (sl_A ad) s.heap H1 locs1 → W p l e R s mi args below meth c H1 locs1 cells slots Q (F0 mi (pc + 3) ls ((w.1.map (sl_ren ad)).toList ++ (st.drop b).map (sl_ren ad))) := by
                      intro H1 locs1 g1 g2
                      have g3 := sl_run_val _ _ _ _ _ _ _ hcl
                      have K9 := ih _ _ _ _ _ _ h info hm p e R s mi args below meth c cells slots Q hC hfr hlo hce hsl (sl_ok_st hok (fun v hv => by
                        rcases List.mem_append.mp hv with h9 | h9
                        · exact g3 v h9
                        · exact hokd v h9)) hfin H1 locs1 ls g1 g2 hl
                      rw [List.map_append] at K9
                      cases hw1 : w.1 with
                      | none => rw [hw1] at K9; exact K9
                      | some z => rw [hw1] at K9; exact K9
                    have hlen0 : ((st.take b).reverse).length = b := by
                      rw [List.length_reverse, List.length_take]
                      omega
                    have hdl := List.take_append_drop b st
                    generalize hast : (st.take b).reverse = as at *
                    have htk : st.take b = as.reverse := by rw [← hast, List.reverse_reverse]
                    rw [htk] at hst hdl
                    split at hck
                    · -- an object's
                      rename_i idx
                      simp only [Bool.and_eq_true, decide_eq_true_eq] at hck
                      obtain ⟨hns, hbn, hlk, ⟨hv10, hvn⟩, hcls⟩ := hck
                      have hlink := sl_lchk_ok hm2 hlk
                      rw [if_neg (by rw [hns]; decide)] at hq6
                      simp only [Bool.and_eq_true, decide_eq_true_eq] at hq6
                      have hv100 : ¬ (v = 100 ∨ v = 101) := by
                        rintro (e | e)
                        · rw [e] at hv10; exact absurd hv10 (by decide)
                        · rw [e] at hv10; exact absurd hv10 (by decide)
                      unfold sl_rc at hrc
                      rw [if_neg hv100] at hrc
                      split at hrc
                      · rename_i r as'
                        split at hrc
                        · rename_i ci sl ho
                          have hci : nI ci = v := by simpa using hrc
                          have hrr : r ∈ sl_refs := by
                            rcases has _ List.mem_cons_self with h9 | h9
                            · exact h9
                            · rw [(sl_ref2 h9).1] at ho; cases ho
                          have hck1 := sl_ref1 hrr
                          unfold sl_ck1 at hck1
                          rw [ho] at hck1
                          simp only [Bool.and_eq_true] at hck1
                          have hcc := hck1.1.2
                          cases hcv : vwCl[ci]? with
                          | none => rw [hcv] at hcc; cases hcc
                          | some cq =>
                            have hci10 : ci < 10 := by
                              have := (List.getElem?_eq_some_iff.mp hcv).1
                              exact this
                            have hcieq : v.toNatClampNeg = ci := by
                              rw [← hci]
                              exact nI_clamp (by omega)
                            rw [hcieq, hcv] at hcls
                            have hcn : cq.1 = m2.1.cls := of_decide_eq_true hcls
                            obtain ⟨q, e1, e2⟩ := sl_ws_at (ad := ad) (cA := cA) (σ := σ) hrr
                            rw [sl_cell_obj ho] at e2
                            have hrecv := va_recv hK hP hcv e2
                            rw [hcn] at hrecv
                            have hgin : GoodIn sl_good (wsV info.1.cls idx m2.1.cls m2.1 (Cond.code m2.1 m2.2.1 m2.2.2.1 m2.2.2.2.1 :: sl_good)) := sl_goodIn (fun w9 hw9 => by
                              unfold wsV at hw9
                              simp only [List.mem_append, List.mem_cons, List.mem_nil_iff, or_false] at hw9
                              rcases hw9 with (rfl | rfl | rfl | rfl) | (rfl | h9)
                              · exact hlink
                              · exact List.mem_of_getElem? hq6.1
                              · exact List.mem_of_getElem? hq6.2
                              · exact List.mem_of_getElem? hq5
                              · exact hcode
                              · exact h9)
                            have hst2 : st.map (sl_ren ad) = (as'.map (sl_ren ad)).reverse ++ .ref (ad r) :: (st.drop b).map (sl_ren ad) := by
                              rw [hst]
                              simp [sl_ren]
                            rw [hst2]
                            have hpn : (parseMethodDescriptor m2.1.desc).map (fun d => d.parameters.length) = some (as'.map (sl_ren ad)).length := by
                              rw [hq4, List.length_map]
                              rw [List.length_cons] at hlen0
                              exact congrArg some (by omega)
                            have hrm : m2.2.2.2.2.1 + 1 ≤ R.frames ∧ 8 + (m2.2.2.1 + 11) + m2.2.2.2.2.2.1 ≤ R.locals := by omega
                            have cw9 : CallW R s args info.1.cls m2.1.cls idx m2.1 m2.2.1 m2.2.2.1 m2.2.2.2.1 (Cond.code m2.1 m2.2.1 m2.2.2.1 m2.2.2.2.1 :: sl_good) { frames := m2.2.2.2.2.1, cells := 0, slots := 0, locals := m2.2.2.2.2.2.1 } 0 0 (as'.map (sl_ren ad)).length := cwV _ hts hgin rfl rfl rfl ⟨rfl, hq2, hq3, hpn⟩ hrm
                            have hpre : PreV s H m2.1.cls (ad r) (va_Pc (((.inr (.inr r)) :: as').map (sl_ren ad)) (sl_B D cA ad xs N σ)) (as'.map (sl_ren ad)) := ⟨sl_B_blind _, hrecv, fun U hU hW => ⟨rfl, hB U hU hW⟩⟩
                            rw [hst2] at hroom
                            exact sl_afterCall (va_runV (As := as'.map (sl_ren ad)) (rest := (st.drop b).map (sl_ren ad)) ⟨hx, hb9, hmloc, hown, hts⟩ hMet cw9 hpre rfl rfl hl.1 rfl hroom hd ⟨hce, hsl⟩) hS hcont
                        · cases hrc
                      · cases hrc
                    · -- a static one
                      rename_i idx
                      simp only [Bool.and_eq_true, decide_eq_true_eq] at hck
                      obtain ⟨hns, hbn, hlk⟩ := hck
                      rw [if_pos hns] at hq6
                      have hstt := List.mem_of_getElem? (of_decide_eq_true hq6)
                      have hst2 : st.map (sl_ren ad) = (as.map (sl_ren ad)).reverse ++ (st.drop b).map (sl_ren ad) := by
                        rw [hst]
                        simp
                      rw [hst2]
                      rw [hst2] at hroom
                      have hpay : GoodIn sl_good (Cond.code m2.1 m2.2.1 m2.2.2.1 m2.2.2.2.1 :: sl_good) := sl_goodIn (fun w9 hw9 => by
                        rcases List.mem_cons.mp hw9 with rfl | h9
                        · exact hcode
                        · exact h9)
                      have hnn : (as.map (sl_ren ad)).length = m2.2.2.2.2.2.2.2 := by rw [List.length_map, hlen0, hbn]
                      by_cases hv : v = 100
                      · rw [if_pos hv] at hlk
                        have hlink := sl_lchk_ok hm2 hlk
                        have hgin : GoodIn sl_good (va_wsS info.1.cls idx m2.1 (Cond.code m2.1 m2.2.1 m2.2.2.1 m2.2.2.2.1 :: sl_good)) := sl_goodIn (fun w9 hw9 => by
                          unfold va_wsS at hw9
                          simp only [List.mem_append, List.mem_cons, List.mem_nil_iff, or_false] at hw9
                          rcases hw9 with (rfl | rfl | rfl) | (rfl | h9)
                          · exact hlink
                          · exact hstt
                          · exact List.mem_of_getElem? hq5
                          · exact hcode
                          · exact h9)
                        refine sl_afterCall (va_runS (As := as.map (sl_ren ad)) (rest := (st.drop b).map (sl_ren ad)) ⟨hx, hb9, hmloc, hown, hts⟩ hMet (va_cwS (as.map (sl_ren ad)).length hts hgin rfl rfl rfl ⟨hq2, hq3, by rw [hq4, hnn]⟩ ⟨by show m2.2.2.2.2.1 + 1 ≤ R.frames; omega, by show 8 + (m2.2.2.1 + 11) + m2.2.2.2.2.2.1 ≤ R.locals; omega⟩) ⟨sl_B_blind _, fun U hU hW => ⟨rfl, hB U hU hW⟩⟩ rfl rfl hl.1 rfl hroom hd ⟨hce, hsl⟩) hS hcont
                      · rw [if_neg hv] at hlk
                        simp only [Bool.and_eq_true, decide_eq_true_eq] at hlk
                        obtain ⟨-, hnl, ha81⟩ := hlk
                        have hm81 : m2.1 = yX9_within := by
                          rw [ha81] at hm2
                          cases hm2
                          rfl
                        have hnw := hnest _ hnl
                        dsimp only at hnw
                        rw [← hm81] at hnw
                        refine sl_afterCall (va_runSN (As := as.map (sl_ren ad)) (rest := (st.drop b).map (sl_ren ad)) ⟨hx, hb9, hmloc, hown, hts⟩ hMet ⟨va_cnB (as.map (sl_ren ad)).length hts hpay rfl rfl rfl hnw (hts _ (List.mem_of_getElem? hq5)) ⟨hq2, hq3, by rw [hq4, hnn]⟩ ⟨by show m2.2.2.2.2.1 + 1 ≤ R.frames; omega, by show 8 + (m2.2.2.1 + 11) + m2.2.2.2.2.2.1 ≤ R.locals; omega⟩, hts _ hstt, trivial⟩ ⟨sl_B_blind _, fun U hU hW => ⟨rfl, hB U hU hW⟩⟩ rfl rfl hl.1 rfl hroom hd ⟨hce, hsl⟩) hS hcont
                    · cases hck
              · -- an answer
                cases h
                intro H locs ls hP hS hl
                rcases sl_stC2 hs with ⟨hk, x, rfl, hvx, rfl⟩ | ⟨hk, rfl, rfl⟩ | ⟨hk, x, rfl, rfl⟩
                · rw [hk] at hck
                  simp only [sl_cC, Bool.and_eq_true, decide_eq_true_eq] at hck
                  obtain ⟨rfl, rfl, ⟨hv, hret⟩ | ⟨hv, hret⟩⟩ := hck
                  · refine hfin pc H locs ls ?_ hP hS
                    rw [hret]
                    exact ⟨x, rfl, hd⟩
                  · refine hfin pc H locs ls ?_ hP hS
                    rw [hret]
                    refine ⟨x, rfl, ?_, hd⟩
                    rcases hvx with h9 | h9
                    · rw [hv] at h9; exact absurd h9 (by decide)
                    · exact h9
                · rw [hk] at hck
                  simp only [sl_cC, Bool.and_eq_true, decide_eq_true_eq] at hck
                  obtain ⟨rfl, rfl, hret⟩ := hck
                  refine hfin pc H locs ls ?_ hP hS
                  rw [hret]
                  exact ⟨rfl, hd⟩
                · rw [hk] at hck
                  simp only [sl_cC, Bool.and_eq_true, decide_eq_true_eq] at hck
                  obtain ⟨rfl, rfl, hret⟩ := hck
                  refine hfin pc H locs ls ?_ hP hS
                  rw [hret]
                  exact ⟨x, rfl, hd⟩
