theorem ct_st {args : Array Value} {s : State} {A : Nat → Prop} (nm : String) (v : List Int32) (h1 : (Cond.arrayOf (.static "SloshTank$Kind" nm "[I") .int).before args s = true) (h2 : (Cond.eq (.length (.static "SloshTank$Kind" nm "[I")) (.int (Int32.ofNat 6))).before args s = true)
    (h3 : ∀ j : Nat, j < 6 → (Cond.eq (.elem (.static "SloshTank$Kind" nm "[I") (.int (Int32.ofNat j))) (.int (v.getD j 0))).before args s = true) (h4 : (Cond.laysStatic "SloshTank$Kind" nm "[I").before args s = true) (h5 : (Cond.initialized "SloshTank$Kind").before args s = true) (hA : ∀ a : Nat, a < s.heap.size → ¬ A a) :
    ∃ t : Nat, va_T .int t 6 (fun j => .int (v.getD j 0)) A s s.heap ∧ va_Z "SloshTank$Kind" nm "[I" (.ref t) A s s.heap := by
  obtain ⟨t, ht, hT⟩ := va_Tof (tm := .static "SloshTank$Kind" nm "[I") (ty := .int) (N := 6) (f := fun j => .int (v.getD j 0)) (A := A) (by decide) h1 (va_eqt h2) (fun j hj => va_eqt (h3 j hj)) hA
  exact ⟨t, hT, va_Zref h4 h5 ht hA⟩
def ct_sv (j : Nat) : List Int32 := match j with
  | 0 => [-1, 0, 0, 1, 2, 1]
  | 1 => [10, 15, 50, 35, 90, 15]
  | 2 => [100, 25, 100, 50, 100, 25]
  | 3 => [1, 1, 1, 1, 1, 2]
  | 4 => [1, 1, 2, 1, 2, 1]
  | _ => [1, 1, 1, 1, 0, 0]
set_option maxHeartbeats 20000000 in
set_option maxRecDepth 100000 in
theorem ct_stat {b : Nat} {s : State} {A : Nat → Prop} (hgv : (Jvm.Cond.and given_1 narrow_1).before #[Value.ref b] s = true) (hts : ∀ w ∈ lw_tbl, w.before #[Value.ref b] s = true) (hA : ∀ a : Nat, a < s.heap.size → ¬ A a) : ∃ f : Nat → Nat, ∀ j, j < 6 → va_T .int (f j) 6 (fun k => .int ((ct_sv j).getD k 0)) A s s.heap ∧ va_Z "SloshTank$Kind" (sl_snm j) "[I" (.ref (f j)) A s s.heap := by
  have hs := flat_of_before _ hgv
  obtain ⟨t0, h0⟩ := ct_st (A := A) "ABOVE" [-1, 0, 0, 1, 2, 1] (hs _ (List.mem_of_getElem? (i := 50) rfl)) (hs _ (List.mem_of_getElem? (i := 51) rfl)) (fun j hj => match j, hj with | 0, _ => hs _ (List.mem_of_getElem? (i := 52) rfl) | 1, _ => hs _ (List.mem_of_getElem? (i := 53) rfl) | 2, _ => hs _ (List.mem_of_getElem? (i := 54) rfl) | 3, _ => hs _ (List.mem_of_getElem? (i := 55) rfl) | 4, _ => hs _ (List.mem_of_getElem? (i := 56) rfl) | 5, _ => hs _ (List.mem_of_getElem? (i := 57) rfl) | k + 6, h => absurd h (by omega)) (hts _ (List.mem_of_getElem? (i := 803) rfl)) (hts _ (List.mem_of_getElem? (i := 62) rfl)) hA
  obtain ⟨t1, h1⟩ := ct_st (A := A) "DAMP" [10, 15, 50, 35, 90, 15] (hs _ (List.mem_of_getElem? (i := 23) rfl)) (hs _ (List.mem_of_getElem? (i := 24) rfl)) (fun j hj => match j, hj with | 0, _ => hs _ (List.mem_of_getElem? (i := 25) rfl) | 1, _ => hs _ (List.mem_of_getElem? (i := 26) rfl) | 2, _ => hs _ (List.mem_of_getElem? (i := 27) rfl) | 3, _ => hs _ (List.mem_of_getElem? (i := 28) rfl) | 4, _ => hs _ (List.mem_of_getElem? (i := 29) rfl) | 5, _ => hs _ (List.mem_of_getElem? (i := 30) rfl) | k + 6, h => absurd h (by omega)) (hts _ (List.mem_of_getElem? (i := 504) rfl)) (hts _ (List.mem_of_getElem? (i := 62) rfl)) hA
  obtain ⟨t2, h2⟩ := ct_st (A := A) "THROUGH" [100, 25, 100, 50, 100, 25] (hs _ (List.mem_of_getElem? (i := 32) rfl)) (hs _ (List.mem_of_getElem? (i := 33) rfl)) (fun j hj => match j, hj with | 0, _ => hs _ (List.mem_of_getElem? (i := 34) rfl) | 1, _ => hs _ (List.mem_of_getElem? (i := 35) rfl) | 2, _ => hs _ (List.mem_of_getElem? (i := 36) rfl) | 3, _ => hs _ (List.mem_of_getElem? (i := 37) rfl) | 4, _ => hs _ (List.mem_of_getElem? (i := 38) rfl) | 5, _ => hs _ (List.mem_of_getElem? (i := 39) rfl) | k + 6, h => absurd h (by omega)) (hts _ (List.mem_of_getElem? (i := 509) rfl)) (hts _ (List.mem_of_getElem? (i := 62) rfl)) hA
  obtain ⟨t3, h3⟩ := ct_st (A := A) "PUSH_TIMES" [1, 1, 1, 1, 1, 2] (hs _ (List.mem_of_getElem? (i := 5) rfl)) (hs _ (List.mem_of_getElem? (i := 6) rfl)) (fun j hj => match j, hj with | 0, _ => hs _ (List.mem_of_getElem? (i := 7) rfl) | 1, _ => hs _ (List.mem_of_getElem? (i := 8) rfl) | 2, _ => hs _ (List.mem_of_getElem? (i := 9) rfl) | 3, _ => hs _ (List.mem_of_getElem? (i := 10) rfl) | 4, _ => hs _ (List.mem_of_getElem? (i := 11) rfl) | 5, _ => hs _ (List.mem_of_getElem? (i := 12) rfl) | k + 6, h => absurd h (by omega)) (hts _ (List.mem_of_getElem? (i := 497) rfl)) (hts _ (List.mem_of_getElem? (i := 62) rfl)) hA
  obtain ⟨t4, h4⟩ := ct_st (A := A) "PUSH_PARTS" [1, 1, 2, 1, 2, 1] (hs _ (List.mem_of_getElem? (i := 14) rfl)) (hs _ (List.mem_of_getElem? (i := 15) rfl)) (fun j hj => match j, hj with | 0, _ => hs _ (List.mem_of_getElem? (i := 16) rfl) | 1, _ => hs _ (List.mem_of_getElem? (i := 17) rfl) | 2, _ => hs _ (List.mem_of_getElem? (i := 18) rfl) | 3, _ => hs _ (List.mem_of_getElem? (i := 19) rfl) | 4, _ => hs _ (List.mem_of_getElem? (i := 20) rfl) | 5, _ => hs _ (List.mem_of_getElem? (i := 21) rfl) | k + 6, h => absurd h (by omega)) (hts _ (List.mem_of_getElem? (i := 499) rfl)) (hts _ (List.mem_of_getElem? (i := 62) rfl)) hA
  obtain ⟨t5, h5⟩ := ct_st (A := A) "LID" [1, 1, 1, 1, 0, 0] (hs _ (List.mem_of_getElem? (i := 41) rfl)) (hs _ (List.mem_of_getElem? (i := 42) rfl)) (fun j hj => match j, hj with | 0, _ => hs _ (List.mem_of_getElem? (i := 43) rfl) | 1, _ => hs _ (List.mem_of_getElem? (i := 44) rfl) | 2, _ => hs _ (List.mem_of_getElem? (i := 45) rfl) | 3, _ => hs _ (List.mem_of_getElem? (i := 46) rfl) | 4, _ => hs _ (List.mem_of_getElem? (i := 47) rfl) | 5, _ => hs _ (List.mem_of_getElem? (i := 48) rfl) | k + 6, h => absurd h (by omega)) (hts _ (List.mem_of_getElem? (i := 524) rfl)) (hts _ (List.mem_of_getElem? (i := 62) rfl)) hA
  refine ⟨fun j => match j with | 0 => t0 | 1 => t1 | 2 => t2 | 3 => t3 | 4 => t4 | _ => t5, fun j hj => ?_⟩
  match j, hj with
  | 0, _ => exact h0
  | 1, _ => exact h1
  | 2, _ => exact h2
  | 3, _ => exact h3
  | 4, _ => exact h4
  | 5, _ => exact h5
  | k + 6, h => exact absurd h (by omega)
theorem ct_Ro {s : State} {ad : sl_R → Nat} {xs : Nat → Int32} {b L : Nat} {f : Nat → Nat} {A : Nat → Prop} (hX : va_X b L xs s s.heap) (hA : ∀ q, sl_A ad q → A q) (hbA : ¬ A b) (hro : ∀ k, 90 ≤ k → ad (k, 0, 0) = if k = 99 then b else f (k - 90)) (hf : ∀ j, j < 6 → va_T .int (f j) 6 (fun k => .int ((ct_sv j).getD k 0)) A s s.heap ∧ va_Z "SloshTank$Kind" (sl_snm j) "[I" (.ref (f j)) A s s.heap) : sl_Ro ad xs L s s.heap := by
  constructor
  · intro r hr n g hg
    simp only [sl_rors, List.mem_cons, List.mem_nil_iff, or_false] at hr
    rcases hr with rfl | rfl | rfl | rfl | rfl | rfl | rfl
    · have hg : some (6, fun k => (ct_sv 0).getD k 0) = some (n, g) := hg
      cases hg
      rw [hro 90 (by omega), if_neg (show ¬ (90 : Nat) = 99 by omega)]
      exact (hf 0 (by omega)).1.narrow hA
    · have hg : some (6, fun k => (ct_sv 1).getD k 0) = some (n, g) := hg
      cases hg
      rw [hro 91 (by omega), if_neg (show ¬ (91 : Nat) = 99 by omega)]
      exact (hf 1 (by omega)).1.narrow hA
    · have hg : some (6, fun k => (ct_sv 2).getD k 0) = some (n, g) := hg
      cases hg
      rw [hro 92 (by omega), if_neg (show ¬ (92 : Nat) = 99 by omega)]
      exact (hf 2 (by omega)).1.narrow hA
    · have hg : some (6, fun k => (ct_sv 3).getD k 0) = some (n, g) := hg
      cases hg
      rw [hro 93 (by omega), if_neg (show ¬ (93 : Nat) = 99 by omega)]
      exact (hf 3 (by omega)).1.narrow hA
    · have hg : some (6, fun k => (ct_sv 4).getD k 0) = some (n, g) := hg
      cases hg
      rw [hro 94 (by omega), if_neg (show ¬ (94 : Nat) = 99 by omega)]
      exact (hf 4 (by omega)).1.narrow hA
    · have hg : some (6, fun k => (ct_sv 5).getD k 0) = some (n, g) := hg
      cases hg
      rw [hro 95 (by omega), if_neg (show ¬ (95 : Nat) = 99 by omega)]
      exact (hf 5 (by omega)).1.narrow hA
    · have hg : some (L, xs) = some (n, g) := hg
      cases hg
      rw [hro 99 (by omega), if_pos (show (99 : Nat) = 99 from rfl)]
      obtain ⟨scr, h1, h2, h3, h4, h5⟩ := hX
      exact ⟨scr, h1, h2, h3, by omega, by rw [h4] <;> rfl, h5, fun z => hbA (hA b z)⟩
  · intro j hj
    rw [hro (90 + j) (by omega), if_neg (show ¬ 90 + j = 99 by omega), show 90 + j - 90 = j by omega]
    exact (hf j hj).2.narrow hA
theorem ct_ok : sl_ok (sl_ml 160) [some (.inr (.inr (99, 0, 0))), some (.inr (.inr (0, 0, 0))), some (.inr (.inr (40, 0, 0))), some (.inl (nI 0))] [] := by
  refine ⟨rfl, fun v h => absurd h List.not_mem_nil, fun v hv => ?_⟩
  simp only [List.mem_cons, List.mem_nil_iff, or_false, Option.some.injEq] at hv
  rcases hv with rfl | rfl | rfl | rfl
  · exact (show ((99, 0, 0) : sl_R) ∈ sl_refs ∨ ((99, 0, 0) : sl_R) ∈ sl_rors from Or.inr (by decide))
  · exact (show ((0, 0, 0) : sl_R) ∈ sl_refs ∨ ((0, 0, 0) : sl_R) ∈ sl_rors from Or.inl (by decide +kernel))
  · exact (show ((40, 0, 0) : sl_R) ∈ sl_refs ∨ ((40, 0, 0) : sl_R) ∈ sl_rors from Or.inl (by decide +kernel))
  · trivial
