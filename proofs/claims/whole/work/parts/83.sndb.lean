theorem sl_ref1 {r : sl_R} (h : r ∈ sl_refs) : sl_ck1 r = true := List.all_eq_true.mp sl_ck1_ok r h
theorem sl_ref2 {r : sl_R} (h : r ∈ sl_rors) : sl_obj r.1 r.2.1 r.2.2 = none ∧ sl_arr r.1 r.2.1 r.2.2 = none ∧ sl_rar r.1 r.2.1 r.2.2 = none := by
  have h1 := List.all_eq_true.mp sl_ck2_ok r h
  simp only [sl_ck2, Bool.and_eq_true, decide_eq_true_eq, Option.isNone_iff_eq_none] at h1
  exact ⟨h1.1.1, h1.1.2, h1.2⟩
theorem sl_isobj {r : sl_R} {ci : Nat} {sl : List sl_G} (h : r ∈ sl_refs) (ho : sl_obj r.1 r.2.1 r.2.2 = some (ci, sl)) : sl_arr r.1 r.2.1 r.2.2 = none ∧ sl_rar r.1 r.2.1 r.2.2 = none ∧ (∀ C T n, vwCl[ci]? = some (C, T, n) → sl.length = n) ∧ (∀ (b : Nat) (q : Nat × Nat × Nat), sl[b]? = some (.inl q) → sl_own q.1 q.2.1 q.2.2 = some (r, b)) ∧ (∀ (b : Nat) (q : sl_R), sl[b]? = some (.inr q) → q ∈ sl_refs) := by
  have h1 := sl_ref1 h
  unfold sl_ck1 at h1
  rw [ho] at h1
  simp only [Bool.and_eq_true, decide_eq_true_eq, Option.isNone_iff_eq_none, List.all_eq_true] at h1
  obtain ⟨⟨⟨h2, h3⟩, h4⟩, h5⟩ := h1
  refine ⟨h2, h3, fun C T n hv => ?_, fun b q hq => ?_, fun b q hq => ?_⟩
  · rw [hv] at h4
    exact of_decide_eq_true h4
  · have := h5 (.inl q, b) (List.mem_iff_getElem?.mpr ⟨b, by rw [List.getElem?_zipIdx, hq]; simp⟩)
    exact of_decide_eq_true this
  · have := h5 (.inr q, b) (List.mem_iff_getElem?.mpr ⟨b, by rw [List.getElem?_zipIdx, hq]; simp⟩)
    exact of_decide_eq_true this
theorem sl_isarr {r : sl_R} {ty n R K o : Nat} (h : r ∈ sl_refs) (ha : sl_arr r.1 r.2.1 r.2.2 = some (ty, n, R, K, o)) : sl_obj r.1 r.2.1 r.2.2 = none ∧ ty < 3 ∧ ∀ j, j < n → sl_own R K (o + j) = some (r, j) := by
  have h1 := sl_ref1 h
  unfold sl_ck1 at h1
  rw [ha] at h1
  cases ho : sl_obj r.1 r.2.1 r.2.2 with
  | some q =>
    rw [ho] at h1
    simp at h1
  | none =>
    rw [ho] at h1
    simp only [Bool.and_eq_true, decide_eq_true_eq, List.all_eq_true] at h1
    exact ⟨rfl, h1.1.2, fun j hj => h1.2 j (List.mem_range.mpr hj)⟩
theorem sl_israr {r : sl_R} {ty n : Nat} {g : Nat → sl_R} (h : r ∈ sl_refs) (ha : sl_rar r.1 r.2.1 r.2.2 = some (ty, n, g)) : sl_obj r.1 r.2.1 r.2.2 = none ∧ sl_arr r.1 r.2.1 r.2.2 = none ∧ 3 ≤ ty ∧ ty < 8 ∧ ∀ j, j < n → g j ∈ sl_refs := by
  have h1 := sl_ref1 h
  unfold sl_ck1 at h1
  rw [ha] at h1
  cases ho : sl_obj r.1 r.2.1 r.2.2 with
  | some q =>
    rw [ho] at h1
    simp at h1
  | none =>
    cases hb : sl_arr r.1 r.2.1 r.2.2 with
    | some q =>
      rw [ho, hb] at h1
      simp at h1
    | none =>
      rw [ho, hb] at h1
      simp only [Bool.and_eq_true, decide_eq_true_eq, List.all_eq_true] at h1
      exact ⟨rfl, rfl, h1.1.1, h1.1.2, fun j hj => h1.2 j (List.mem_range.mpr hj)⟩
theorem sl_cell_obj {ad : sl_R → Nat} {cA : Nat → ClassId} {σ : sl_S} {r : sl_R} {ci : Nat} {sl : List sl_G} (h : sl_obj r.1 r.2.1 r.2.2 = some (ci, sl)) : sl_cell ad cA σ r = .inr (ci, sl.map (fun g => sl_ren ad (sl_gi σ g))) := by
  unfold sl_cell
  rw [h]
theorem sl_cell_arr {ad : sl_R → Nat} {cA : Nat → ClassId} {σ : sl_S} {r : sl_R} {ty n R K o : Nat} (h0 : sl_obj r.1 r.2.1 r.2.2 = none) (h : sl_arr r.1 r.2.1 r.2.2 = some (ty, n, R, K, o)) : sl_cell ad cA σ r = .inl (cA ty, n, .inl (fun j => if j < n then σ R K (o + j) else 0)) := by
  unfold sl_cell
  rw [h0, h]
theorem sl_cell_rar {ad : sl_R → Nat} {cA : Nat → ClassId} {σ : sl_S} {r : sl_R} {ty n : Nat} {g : Nat → sl_R} (h0 : sl_obj r.1 r.2.1 r.2.2 = none) (h1 : sl_arr r.1 r.2.1 r.2.2 = none) (h : sl_rar r.1 r.2.1 r.2.2 = some (ty, n, g)) : sl_cell ad cA σ r = .inl (cA ty, n, .inr (.inr (.inr (.inr (fun j => if j < n then some (ad (g j)) else none))))) := by
  unfold sl_cell
  rw [h0, h1, h]
theorem sl_nd_of : ∀ (l : List sl_R), sl_ndp l = true → ∀ (i j : Nat) (r : sl_R), l[i]? = some r → l[j]? = some r → i = j
  | [], _, i, j, r, h, _ => by simp at h
  | a :: l, hl, i, j, r, h1, h2 => by
    simp only [sl_ndp, Bool.and_eq_true, List.all_eq_true, decide_eq_true_eq] at hl
    cases i with
    | zero =>
      cases j with
      | zero => rfl
      | succ j =>
        cases h1
        exact absurd rfl (hl.1 _ (List.mem_of_getElem? (show l[j]? = some a from h2)))
    | succ i =>
      cases j with
      | zero =>
        cases h2
        exact absurd rfl (hl.1 _ (List.mem_of_getElem? (show l[i]? = some a from h1)))
      | succ j => rw [sl_nd_of l hl.2 i j r h1 h2]
theorem sl_nd {i j : Nat} {r : sl_R} (h1 : sl_refs[i]? = some r) (h2 : sl_refs[j]? = some r) : i = j := sl_nd_of _ sl_ndp_ok i j r h1 h2
theorem sl_wsD {ad : sl_R → Nat} {cA : Nat → ClassId} {σ : sl_S} (hinj : ∀ q r, q ∈ sl_refs → r ∈ sl_refs → ad q = ad r → q = r) : va_D (sl_A ad) (sl_ws ad cA σ) := by
  have key : ∀ (i : Nat) (q : Nat × va_E), (sl_ws ad cA σ)[i]? = some q → ∃ r, sl_refs[i]? = some r ∧ q.1 = ad r := by
    intro i q h
    unfold sl_ws at h
    rw [List.getElem?_map] at h
    cases hr : sl_refs[i]? with
    | none => rw [hr] at h; cases h
    | some r => rw [hr] at h; cases h; exact ⟨r, rfl, rfl⟩
  refine ⟨fun i j q t h1 h2 e => ?_, fun k q h => ?_⟩
  · obtain ⟨r1, a1, b1⟩ := key i q h1
    obtain ⟨r2, a2, b2⟩ := key j t h2
    have : r1 = r2 := hinj _ _ (List.mem_of_getElem? a1) (List.mem_of_getElem? a2) (by rw [← b1, ← b2, e])
    subst this
    exact sl_nd a1 a2
  · obtain ⟨r1, a1, b1⟩ := key k q h
    exact ⟨r1, List.mem_of_getElem? a1, b1⟩
/-- a write into a cell leaves the others as they are -/
theorem sl_cell_other {ad : sl_R → Nat} {cA : Nat → ClassId} {σ τ : sl_S} {r : sl_R} (h : ∀ R K I, (∀ b, sl_own R K I ≠ some (r, b)) → τ R K I = σ R K I) {t : sl_R} (ht : t ∈ sl_refs) (hne : t ≠ r) : sl_cell ad cA τ t = sl_cell ad cA σ t := by
  cases ho : sl_obj t.1 t.2.1 t.2.2 with
  | some q =>
    obtain ⟨ci, sl⟩ := q
    rw [sl_cell_obj ho, sl_cell_obj ho]
    have h2 := (sl_isobj ht ho).2.2.2.1
    refine congrArg (fun z => Sum.inr (ci, z)) (List.map_congr_left fun g hg => ?_)
    rcases g with q | q
    · obtain ⟨b, hb⟩ := List.getElem?_of_mem hg
      have h3 := h2 b q hb
      refine congrArg (fun z => Value.int z) (h _ _ _ fun b' e => hne ?_)
      rw [h3] at e
      cases e
      rfl
    · rfl
  | none =>
    cases ha : sl_arr t.1 t.2.1 t.2.2 with
    | some q =>
      obtain ⟨ty, n, R, K, o⟩ := q
      rw [sl_cell_arr ho ha, sl_cell_arr ho ha]
      have h2 := (sl_isarr ht ha).2.2
      refine congrArg (fun z => Sum.inl (cA ty, n, Sum.inl z)) (funext fun j => ?_)
      by_cases hj : j < n
      · rw [if_pos hj, if_pos hj]
        refine h _ _ _ fun b' e => hne ?_
        rw [h2 j hj] at e
        cases e
        rfl
      · rw [if_neg hj, if_neg hj]
    | none =>
      cases hr : sl_rar t.1 t.2.1 t.2.2 with
      | some q =>
        obtain ⟨ty, n, g⟩ := q
        rw [sl_cell_rar ho ha hr, sl_cell_rar ho ha hr]
      | none =>
        unfold sl_cell
        rw [ho, ha, hr]
theorem sl_ws_set {ad : sl_R → Nat} {cA : Nat → ClassId} {σ τ : sl_S} {r : sl_R} {q : Nat} {E : va_E} (hq : sl_refs[q]? = some r) (h : ∀ R K I, (∀ b, sl_own R K I ≠ some (r, b)) → τ R K I = σ R K I) (hE : E = sl_cell ad cA τ r) : (sl_ws ad cA σ).set q (ad r, E) = sl_ws ad cA τ := by
  subst hE
  refine List.ext_getElem? fun j => ?_
  by_cases hj : q = j
  · subst hj
    rw [List.getElem?_set_self']
    unfold sl_ws
    rw [List.getElem?_map, List.getElem?_map, hq]
    rfl
  · rw [List.getElem?_set_ne hj]
    unfold sl_ws
    rw [List.getElem?_map, List.getElem?_map]
    cases ht : sl_refs[j]? with
    | none => rfl
    | some t =>
      have hne : t ≠ r := fun e => hj (sl_nd hq (by rw [ht, e]))
      show some (ad t, _) = some (ad t, _)
      rw [sl_cell_other h (List.mem_of_getElem? ht) hne]
theorem sl_up_ne {σ : sl_S} {R K I R' K' I' : Nat} {x : Int32} (h : ¬ (R' = R ∧ K' = K ∧ I' = I)) : sl_up σ R K I x R' K' I' = σ R' K' I' := by
  unfold sl_up sl_u2 sl_u1
  by_cases h1 : R' = R
  · subst h1
    rw [if_pos rfl]
    by_cases h2 : K' = K
    · subst h2
      rw [if_pos rfl, if_neg (fun e => h ⟨rfl, rfl, e⟩)]
    · rw [if_neg h2]
  · rw [if_neg h1]
theorem sl_up_eq {σ : sl_S} {R K I : Nat} {x : Int32} : sl_up σ R K I x R K I = x := by
  unfold sl_up sl_u2 sl_u1
  rw [if_pos rfl, if_pos rfl, if_pos rfl]
theorem sl_up_own {σ : sl_S} {r : sl_R} {b R K I : Nat} {x : Int32} (h : sl_own R K I = some (r, b)) : ∀ R' K' I', (∀ b, sl_own R' K' I' ≠ some (r, b)) → sl_up σ R K I x R' K' I' = σ R' K' I' := by
  intro R' K' I' hn
  refine sl_up_ne fun e => ?_
  obtain ⟨rfl, rfl, rfl⟩ := e
  exact hn b h
theorem sl_put_obj {ad : sl_R → Nat} {cA : Nat → ClassId} {σ : sl_S} {r : sl_R} {ci b q : Nat} {sl : List sl_G} {w : Nat × Nat × Nat} {x : Int32} (hr : r ∈ sl_refs) (hq : sl_refs[q]? = some r) (ho : sl_obj r.1 r.2.1 r.2.2 = some (ci, sl)) (hb : sl[b]? = some (.inl w)) : (sl_ws ad cA σ).set q (ad r, .inr (ci, (sl.map (fun g => sl_ren ad (sl_gi σ g))).set b (.int x))) = sl_ws ad cA (sl_up σ w.1 w.2.1 w.2.2 x) := by
  have h2 := (sl_isobj hr ho).2.2.2.1
  refine sl_ws_set hq (sl_up_own (h2 b w hb)) ?_
  rw [sl_cell_obj ho]
  refine congrArg (fun z => Sum.inr (ci, z)) (List.ext_getElem? fun j => ?_)
  by_cases hj : b = j
  · subst hj
    rw [List.getElem?_set_self', List.getElem?_map, List.getElem?_map, hb]
    show some (Value.int x) = some (Value.int (sl_up σ w.1 w.2.1 w.2.2 x w.1 w.2.1 w.2.2))
    rw [sl_up_eq]
  · rw [List.getElem?_set_ne hj, List.getElem?_map, List.getElem?_map]
    cases hg : sl[j]? with
    | none => rfl
    | some g =>
      rcases g with z | z
      · show some (Value.int _) = some (Value.int (sl_up σ w.1 w.2.1 w.2.2 x z.1 z.2.1 z.2.2))
        rw [sl_up_ne (fun e => ?_)]
        have h3 := h2 j z hg
        rw [e.1, e.2.1, e.2.2, h2 b w hb] at h3
        cases h3
        exact hj rfl
      · rfl
theorem sl_put_arr {ad : sl_R → Nat} {cA : Nat → ClassId} {σ : sl_S} {r : sl_R} {ty n R K o q k : Nat} {x : Int32} (hr : r ∈ sl_refs) (hq : sl_refs[q]? = some r) (ha : sl_arr r.1 r.2.1 r.2.2 = some (ty, n, R, K, o)) (hk : k < n) : (sl_ws ad cA σ).set q (ad r, .inl (cA ty, n, .inl (upd (fun j => if j < n then σ R K (o + j) else 0) k x))) = sl_ws ad cA (sl_up σ R K (o + k) x) := by
  have h2 := sl_isarr hr ha
  refine sl_ws_set hq (sl_up_own (h2.2.2 k hk)) ?_
  rw [sl_cell_arr h2.1 ha]
  refine congrArg (fun z => Sum.inl (cA ty, n, Sum.inl z)) (funext fun j => ?_)
  unfold upd
  by_cases hj : j = k
  · subst hj
    rw [if_pos rfl, if_pos hk, sl_up_eq]
  · rw [if_neg hj]
    dsimp only
    by_cases hn : j < n
    · rw [if_pos hn, if_pos hn, sl_up_ne (fun e => hj (by omega))]
    · rw [if_neg hn, if_neg hn]
