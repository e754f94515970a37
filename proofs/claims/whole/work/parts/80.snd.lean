/-! THE SMALL MACHINE IS SOUND: what it says comes true on the machine -/
def sl_ren (ad : sl_R → Nat) : sl_V → Value
  | .inl x => .int x
  | .inr (.inl x) => .long x
  | .inr (.inr r) => .ref (ad r)
def sl_rors : List sl_R := [(90, 0, 0), (91, 0, 0), (92, 0, 0), (93, 0, 0), (94, 0, 0), (95, 0, 0), (99, 0, 0)]
def sl_okv : sl_V → Prop
  | .inr (.inr r) => r ∈ sl_refs ∨ r ∈ sl_rors
  | _ => True
def sl_cell (ad : sl_R → Nat) (cA : Nat → ClassId) (σ : sl_S) (r : sl_R) : va_E := match sl_obj r.1 r.2.1 r.2.2 with
  | some (ci, sl) => .inr (ci, sl.map (fun g => sl_ren ad (sl_gi σ g)))
  | none => match sl_arr r.1 r.2.1 r.2.2 with
    | some (ty, n, R, K, o) => .inl (cA ty, n, .inl (fun j => if j < n then σ R K (o + j) else 0))
    | none => match sl_rar r.1 r.2.1 r.2.2 with
      | some (ty, n, g) => .inl (cA ty, n, .inr (.inr (.inr (.inr (fun j => if j < n then some (ad (g j)) else none)))))
      | none => .inr (0, [])
def sl_ws (ad : sl_R → Nat) (cA : Nat → ClassId) (σ : sl_S) : va_W := sl_refs.map (fun r => (ad r, sl_cell ad cA σ r))
def sl_A (ad : sl_R → Nat) : Nat → Prop := fun q => ∃ r, r ∈ sl_refs ∧ q = ad r
def sl_tys (cA : Nat → ClassId) : List (ClassId × FieldType) := [(cA 0, .int), (cA 1, .byte), (cA 2, .boolean), (cA 3, .array .int), (cA 4, .object "SloshTank$Tank"), (cA 5, .object "SloshTank$Way"), (cA 6, .object "SloshTank$Reading"), (cA 7, .object "SloshTank$Sheet")]
def sl_snm (j : Nat) : String := match j with
  | 0 => "ABOVE"
  | 1 => "DAMP"
  | 2 => "THROUGH"
  | 3 => "PUSH_TIMES"
  | 4 => "PUSH_PARTS"
  | _ => "LID"
def sl_good : List Cond := lw_tbl.filter goodWord
def sl_nest : List (String × Nat) := [("SloshTank$Kind", 9), ("SloshTank$Rig", 42), ("SloshTank$Tank", 18)]
def sl_Ro (ad : sl_R → Nat) (xs : Nat → Int32) (N : Nat) (U : State) (H : Heap) : Prop :=
  (∀ r, r ∈ sl_rors → ∀ (n : Nat) (f : Nat → Int32), sl_ro xs N r.1 = some (n, f) → va_T .int (ad r) n (fun j => .int (f j)) (sl_A ad) U H) ∧
  (∀ j, j < 6 → va_Z "SloshTank$Kind" (sl_snm j) "[I" (.ref (ad (90 + j, 0, 0))) (sl_A ad) U H)
theorem sl_ws_at {ad : sl_R → Nat} {cA : Nat → ClassId} {σ : sl_S} {r : sl_R} (h : r ∈ sl_refs) : ∃ q : Nat, sl_refs[q]? = some r ∧ (sl_ws ad cA σ)[q]? = some (ad r, sl_cell ad cA σ r) := by
  obtain ⟨q, hq⟩ := List.getElem?_of_mem h
  exact ⟨q, hq, by unfold sl_ws; rw [List.getElem?_map, hq]; rfl⟩
def sl_prs (ad : sl_R → Nat) : Nat → sl_L → List (Nat × Value)
  | _, [] => []
  | i, some v :: L => (i, sl_ren ad v) :: sl_prs ad (i + 1) L
  | i, none :: L => sl_prs ad (i + 1) L
theorem sl_prs_mem {ad : sl_R → Nat} {w : Nat × Value} : ∀ (L : sl_L) (i : Nat), w ∈ sl_prs ad i L ↔ ∃ k v, L[k]? = some (some v) ∧ w = (i + k, sl_ren ad v)
  | [], i => by simp [sl_prs]
  | some u :: L, i => by
    rw [sl_prs, List.mem_cons, sl_prs_mem L (i + 1)]
    constructor
    · rintro (rfl | ⟨k, v, h1, rfl⟩)
      · exact ⟨0, u, rfl, rfl⟩
      · exact ⟨k + 1, v, h1, by rw [Nat.add_assoc, Nat.add_comm 1 k]⟩
    · rintro ⟨k, v, h1, rfl⟩
      cases k with
      | zero => cases h1; exact Or.inl rfl
      | succ k => exact Or.inr ⟨k, v, h1, by rw [Nat.add_assoc, Nat.add_comm 1 k]⟩
  | none :: L, i => by
    rw [sl_prs, sl_prs_mem L (i + 1)]
    constructor
    · rintro ⟨k, v, h1, rfl⟩
      exact ⟨k + 1, v, h1, by rw [Nat.add_assoc, Nat.add_comm 1 k]⟩
    · rintro ⟨k, v, h1, rfl⟩
      cases k with
      | zero => cases h1
      | succ k => exact ⟨k, v, h1, by rw [Nat.add_assoc, Nat.add_comm 1 k]⟩
theorem sl_prs_in {ad : sl_R → Nat} {L : sl_L} {j : Nat} {w : Value} : (j, w) ∈ sl_prs ad 0 L ↔ ∃ v, L[j]? = some (some v) ∧ w = sl_ren ad v := by
  rw [sl_prs_mem]
  constructor
  · rintro ⟨k, v, h1, h2⟩
    cases h2
    exact ⟨v, by rw [Nat.zero_add]; exact h1, rfl⟩
  · rintro ⟨v, h1, rfl⟩
    exact ⟨j, v, h1, by rw [Nat.zero_add]⟩
theorem sl_lv_at {ad : sl_R → Nat} {ls : Array Slot} {nL k : Nat} {L : sl_L} {v : sl_V} (h : lv_has ls nL (sl_prs ad 0 L)) (hk : L[k]? = some (some v)) : ls[k]? = some (.val (sl_ren ad v)) := h.2.2 (k, _) (sl_prs_in.mpr ⟨v, hk, rfl⟩)
theorem sl_cat2 {ad : sl_R → Nat} {v : sl_V} (h : (sl_ren ad v).category = 2) : ∃ x, v = .inr (.inl x) := by
  rcases v with x | x | x
  · cases h
  · exact ⟨x, rfl⟩
  · cases h
theorem sl_nl_at {L : sl_L} {j : Nat} {x : Int64} (h : L[j]? = some (some (.inr (.inl x)))) : sl_nl L (j + 1) = false := by
  unfold sl_nl
  dsimp only
  rw [h]
theorem sl_lv_set1 {ad : sl_R → Nat} {ls : Array Slot} {nL i : Nat} {L : sl_L} {v : sl_V} (h : lv_has ls nL ((i, sl_ren ad v) :: (sl_prs ad 0 L).filter (fun q => !(q.1 == i) && !(q.1 + 1 == i && q.2.category == 2)))) (hn : sl_nl L i = true) : lv_has ls nL (sl_prs ad 0 (L.set i (some v))) := by
  refine ⟨h.1, h.2.1, fun q hq => ?_⟩
  obtain ⟨j, w⟩ := q
  obtain ⟨u, h1, rfl⟩ := sl_prs_in.mp hq
  by_cases hj : i = j
  · subst hj
    rw [List.getElem?_set_self'] at h1
    have hu : u = v := by
      cases hL : L[i]? with
      | none => rw [hL] at h1; cases h1
      | some z => rw [hL] at h1; cases h1; rfl
    subst hu
    exact h.2.2 _ List.mem_cons_self
  · rw [List.getElem?_set_ne hj] at h1
    refine h.2.2 _ (List.mem_cons_of_mem _ (List.mem_filter.mpr ⟨sl_prs_in.mpr ⟨u, h1, rfl⟩, ?_⟩))
    have e1 : (j == i) = false := by simpa using fun e => hj e.symm
    rw [e1]
    by_cases e2 : j + 1 = i
    · subst e2
      by_cases e3 : (sl_ren ad u).category = 2
      · obtain ⟨x, rfl⟩ := sl_cat2 e3
        rw [sl_nl_at h1] at hn
        cases hn
      · simp [e3]
    · simp [e2]
theorem sl_lv_set2 {ad : sl_R → Nat} {ls : Array Slot} {nL i : Nat} {L : sl_L} {v : sl_V} (h : lv_has ls nL ((i, sl_ren ad v) :: (sl_prs ad 0 L).filter (fun q => !(q.1 == i) && (!(q.1 == i + 1) && !(q.1 + 1 == i && q.2.category == 2))))) (hn : sl_nl L i = true) : lv_has ls nL (sl_prs ad 0 ((L.set i (some v)).set (i + 1) none)) := by
  refine ⟨h.1, h.2.1, fun q hq => ?_⟩
  obtain ⟨j, w⟩ := q
  obtain ⟨u, h1, rfl⟩ := sl_prs_in.mp hq
  by_cases hj2 : i + 1 = j
  · subst hj2
    rw [List.getElem?_set_self'] at h1
    cases hL : (L.set i (some v))[i + 1]? with
    | none => rw [hL] at h1; cases h1
    | some z => rw [hL] at h1; cases h1
  rw [List.getElem?_set_ne hj2] at h1
  by_cases hj : i = j
  · subst hj
    rw [List.getElem?_set_self'] at h1
    have hu : u = v := by
      cases hL : L[i]? with
      | none => rw [hL] at h1; cases h1
      | some z => rw [hL] at h1; cases h1; rfl
    subst hu
    exact h.2.2 _ List.mem_cons_self
  · rw [List.getElem?_set_ne hj] at h1
    refine h.2.2 _ (List.mem_cons_of_mem _ (List.mem_filter.mpr ⟨sl_prs_in.mpr ⟨u, h1, rfl⟩, ?_⟩))
    have e1 : (j == i) = false := by simpa using fun e => hj e.symm
    have e4 : (j == i + 1) = false := by simpa using fun e => hj2 e.symm
    rw [e1, e4]
    by_cases e2 : j + 1 = i
    · subst e2
      by_cases e3 : (sl_ren ad u).category = 2
      · obtain ⟨x, rfl⟩ := sl_cat2 e3
        rw [sl_nl_at h1] at hn
        cases hn
      · simp [e3]
    · simp [e2]
/-- what is so of stack and locals on the way -/
def sl_ok (nL : Nat) (L : sl_L) (st : List sl_V) : Prop := L.length = nL ∧ (∀ v, v ∈ st → sl_okv v) ∧ ∀ v, some v ∈ L → sl_okv v
theorem sl_ok_set {nL i : Nat} {L : sl_L} {st st' : List sl_V} {v : Option sl_V} (h : sl_ok nL L st) (hv : ∀ u, v = some u → sl_okv u) (hs : ∀ u, u ∈ st' → sl_okv u) : sl_ok nL (L.set i v) st' := by
  refine ⟨by rw [List.length_set]; exact h.1, hs, fun u hu => ?_⟩
  rcases List.mem_or_eq_of_mem_set hu with h1 | h1
  · exact h.2.2 u h1
  · exact hv u h1.symm
theorem sl_ok_st {nL : Nat} {L : sl_L} {st st' : List sl_V} (h : sl_ok nL L st) (hs : ∀ u, u ∈ st' → sl_okv u) : sl_ok nL L st' := ⟨h.1, hs, h.2.2⟩
theorem sl_okc {v : sl_V} {st : List sl_V} (h1 : sl_okv v) (h2 : ∀ u, u ∈ st → sl_okv u) : ∀ u, u ∈ v :: st → sl_okv u := by
  intro u hu
  rcases List.mem_cons.mp hu with rfl | h
  · exact h1
  · exact h2 u h
theorem sl_okt {v : sl_V} {st : List sl_V} (h : ∀ u, u ∈ v :: st → sl_okv u) : ∀ u, u ∈ st → sl_okv u := fun u hu => h u (List.mem_cons_of_mem _ hu)
