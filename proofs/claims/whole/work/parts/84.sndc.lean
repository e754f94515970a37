def sl_pchk (a b : Nat) (v : Int32) : Bool := match vwCl[a]? with
  | some (_, T, _) => decide ((T b).2.2.2 = false) && ((decide ((T b).2.2.1 = "I") && decide (v = 0)) || (decide ((T b).2.2.1 = "Z") && decide (v = 1)))
  | none => false
def sl_cB (own : String) (i : Instr) (len k a b : Nat) (v : Int32) : Bool := match k with
  | 0 => match i with | .getfield idx => decide (len = 3) && sl_fchk own idx a b | _ => false
  | 1 => match i with | .putfield idx => decide (len = 3) && (sl_fchk own idx a b && sl_pchk a b v) | _ => false
  | 2 => match i with | .getstatic idx => decide (len = 3) && (decide (90 ≤ a ∧ a < 96) && decide (Cond.fieldLink own idx "SloshTank$Kind" (sl_snm (a - 90)) "[I" ∈ sl_good)) | _ => false
  | 3 => decide (i = .aaload) && decide (len = 1)
  | 4 => decide (i = .iaload) && decide (len = 1)
  | 5 => decide (i = .baload) && (decide (len = 1) && decide (b = 1 ∨ b = 2))
  | 6 => decide (i = .iastore) && decide (len = 1)
  | 7 => decide (i = .bastore) && decide (len = 1)
  | 8 => decide (i = .bastore) && decide (len = 1)
  | 9 => decide (i = .arraylength) && decide (len = 1)
  | 10 => match i with | .invokestatic idx => decide (len = 3) && decide (Cond.methodLink own idx arraycopyName ∈ sl_good) | _ => false
  | 11 => match i with | .invokestatic idx => decide (len = 3) && decide (Cond.methodLink own idx Lib.Math.abs.name ∈ sl_good) | _ => false
  | 12 => match i with | .invokestatic idx => decide (len = 3) && decide (Cond.methodLink own idx Lib.Math.max.name ∈ sl_good) | _ => false
  | 13 => match i with | .invokestatic idx => decide (len = 3) && decide (Cond.methodLink own idx Lib.Math.min.name ∈ sl_good) | _ => false
  | 14 => match i with | .invokestatic idx => decide (len = 3) && decide (Cond.methodLink own idx Lib.MathLoose.abs_long.x ∈ sl_good) | _ => false
  | _ => false
set_option maxRecDepth 100000 in
theorem sl_mtk : (Cond.static Lib.Math.abs.name ∈ sl_good ∧ Cond.static Lib.Math.max.name ∈ sl_good ∧ Cond.static Lib.Math.min.name ∈ sl_good ∧ Cond.static Lib.MathLoose.abs_long.x ∈ sl_good) ∧ Cond.initialized "java/lang/Math" ∈ sl_good := by decide +kernel
set_option maxRecDepth 100000 in
theorem sl_mtc1 : Cond.code Lib.Math.abs.name Lib.Math.abs.code 1 (some .int) ∈ sl_good := by decide +kernel
set_option maxRecDepth 100000 in
theorem sl_mtc2 : Cond.code Lib.Math.max.name Lib.Math.max.code 2 (some .int) ∈ sl_good := by decide +kernel
set_option maxRecDepth 100000 in
theorem sl_mtc3 : Cond.code Lib.Math.min.name Lib.Math.min.code 2 (some .int) ∈ sl_good := by decide +kernel
set_option maxRecDepth 100000 in
theorem sl_mtc4 : Cond.code Lib.MathLoose.abs_long.x Lib.MathLoose.abs_long.code 2 (some .long) ∈ sl_good := by decide +kernel
theorem sl_ro_lt {xs : Nat → Int32} {N f : Nat} (h : f < 80) : sl_ro xs N f = none := by
  unfold sl_ro
  split
  all_goals first | rfl | omega
theorem sl_ref3 {r : sl_R} (h : r ∈ sl_refs) : r.1 < 80 := of_decide_eq_true (List.all_eq_true.mp sl_ck3_ok r h)
theorem sl_wl {r : sl_R} {ty j : Nat} (h : j < sl_wlen r ty) : ∃ n R K o, sl_arr r.1 r.2.1 r.2.2 = some (ty, n, R, K, o) ∧ j < n ∧ sl_wlen r ty = n := by
  unfold sl_wlen at h ⊢
  split at h
  · rename_i k n q hq
    obtain ⟨R, K, o⟩ := q
    split at h
    · rename_i hk
      subst hk
      exact ⟨n, R, K, o, hq, h, by rw [if_pos rfl]⟩
    · omega
  · omega
theorem sl_wr_at {σ : sl_S} {r : sl_R} {ty n R K o j : Nat} {x : Int32} (h : sl_arr r.1 r.2.1 r.2.2 = some (ty, n, R, K, o)) : sl_wr σ r j x = sl_up σ R K (o + j) x := by
  unfold sl_wr
  rw [h]
theorem sl_rd_at {xs : Nat → Int32} {σ : sl_S} {r : sl_R} {ty n R K o j : Nat} (h : sl_arr r.1 r.2.1 r.2.2 = some (ty, n, R, K, o)) : sl_rd xs σ r j = σ R K (o + j) := by
  unfold sl_rd
  rw [h]
theorem sl_cwv {ad : sl_R → Nat} : ∀ st : List sl_V, ((st.map (sl_ren ad)).map fun v => v.category).sum = sl_cw st
  | [] => rfl
  | .inl x :: st => by
    exact congrArg (fun z => 1 + z) (sl_cwv st)
  | .inr (.inl x) :: st => by
    exact congrArg (fun z => 2 + z) (sl_cwv st)
  | .inr (.inr x) :: st => by
    exact congrArg (fun z => 1 + z) (sl_cwv st)
theorem sl_ix {j : Int32} {n : Nat} (h0 : 0 ≤ j.toInt) (h1 : j.toInt < n) : vp_in j n ∧ j.toNatClampNeg < n := by
  refine ⟨vp_in_iff.mpr ⟨h0, h1⟩, ?_⟩
  show j.toInt.toNat < n
  omega
theorem sl_tyk (cA : Nat → ClassId) {ty : Nat} (h : ty < 8) : ∃ ft, (sl_tys cA)[ty]? = some (cA ty, ft) ∧ (3 ≤ ty → ft.isReference = true) := by
  match ty, h with
  | 0, _ => exact ⟨_, rfl, fun h => absurd h (by decide)⟩
  | 1, _ => exact ⟨_, rfl, fun h => absurd h (by decide)⟩
  | 2, _ => exact ⟨_, rfl, fun h => absurd h (by decide)⟩
  | 3, _ => exact ⟨_, rfl, fun _ => rfl⟩
  | 4, _ => exact ⟨_, rfl, fun _ => rfl⟩
  | 5, _ => exact ⟨_, rfl, fun _ => rfl⟩
  | 6, _ => exact ⟨_, rfl, fun _ => rfl⟩
  | 7, _ => exact ⟨_, rfl, fun _ => rfl⟩
  | n + 8, h => omega
theorem sl_nar_b (x : Int32) : vp_nar .byte x = x.toInt8.toInt32 := vp_nar_byte x
theorem sl_z1 {x : Int32} (h : x = 0 ∨ x = 1) : narrow .boolean (.int x) = .int x := by
  rcases h with rfl | rfl <;> decide
theorem sl_z2 {x : Int32} (h : x = 0 ∨ x = 1) : fits .boolean (.int x) = true := by
  rcases h with rfl | rfl <;> decide
theorem sl_nar_z {x : Int32} (h : x = 0 ∨ x = 1) : vp_nar .boolean x = x := by
  rcases h with rfl | rfl <;> decide
theorem sl_cp_at {σ : sl_S} {q r : sl_R} {i j n : Nat} {t1 n1 R1 K1 o1 t2 n2 R2 K2 o2 : Nat} (h1 : sl_arr q.1 q.2.1 q.2.2 = some (t1, n1, R1, K1, o1)) (h2 : sl_arr r.1 r.2.1 r.2.2 = some (t2, n2, R2, K2, o2)) (a b c : Nat) : sl_cp σ q r i j n a b c = if a = R2 ∧ b = K2 ∧ o2 + j ≤ c ∧ c < o2 + j + n then σ R1 K1 (o1 + i + (c - (o2 + j))) else σ a b c := by
  unfold sl_cp
  rw [h1, h2]
  dsimp only
  by_cases ha : a = R2
  · rw [if_pos ha]
    by_cases hb : b = K2
    · rw [if_pos hb]
      by_cases hc : o2 + j ≤ c ∧ c < o2 + j + n
      · rw [if_pos hc, if_pos ⟨ha, hb, hc⟩]
      · rw [if_neg hc, if_neg (fun z => hc z.2.2), ha, hb]
    · rw [if_neg hb, if_neg (fun z => hb z.2.1), ha]
  · rw [if_neg ha, if_neg (fun z => ha z.1)]
theorem sl_copy_set {ad : sl_R → Nat} {cA : Nat → ClassId} {σ : sl_S} {q r : sl_R} {k i j n : Nat} {t1 n1 R1 K1 o1 t2 n2 R2 K2 o2 : Nat} (hr : r ∈ sl_refs) (hk : sl_refs[k]? = some r) (h1 : sl_arr q.1 q.2.1 q.2.2 = some (t1, n1, R1, K1, o1)) (h2 : sl_arr r.1 r.2.1 r.2.2 = some (t2, n2, R2, K2, o2)) (hi : i + n ≤ n1) (hj : j + n ≤ n2) : (sl_ws ad cA σ).set k (ad r, .inl (cA t2, n2, .inl (va_cpy (fun z => if z < n1 then σ R1 K1 (o1 + z) else 0) (fun z => if z < n2 then σ R2 K2 (o2 + z) else 0) i j n))) = sl_ws ad cA (sl_cp σ q r i j n) := by
  have g2 := sl_isarr hr h2
  refine sl_ws_set hk (fun R K I hn => ?_) ?_
  · rw [sl_cp_at h1 h2]
    refine if_neg fun e => ?_
    obtain ⟨rfl, rfl, e1, e2⟩ := e
    refine hn (I - o2) ?_
    have := g2.2.2 (I - o2) (by omega)
    rw [show o2 + (I - o2) = I by omega] at this
    exact this
  · rw [sl_cell_arr g2.1 h2]
    refine congrArg (fun z => Sum.inl (cA t2, n2, Sum.inl z)) (funext fun z => ?_)
    rw [sl_cp_at h1 h2]
    unfold va_cpy
    dsimp only
    by_cases hz : j ≤ z ∧ z < j + n
    · rw [if_pos hz, if_pos (by omega), if_pos (by omega), if_pos ⟨rfl, rfl, by omega, by omega⟩]
      congr 1
      omega
    · rw [if_neg hz]
      by_cases hz2 : z < n2
      · rw [if_pos hz2, if_pos hz2, if_neg (fun e => hz (by omega))]
      · rw [if_neg hz2, if_neg hz2]
section SNB
variable {p : Program} {l : Launch} {e : Env} {R : Room} {s : State} {mi : MethodId} {args : Array Value} {below : List Frame} {meth : Method} {c : Code} {cells slots : Nat} {Q : State → Prop}
variable {D : va_G} {cA : Nat → ClassId} {ad : sl_R → Nat} {xs : Nat → Int32} {N : Nat} {own : String} {bytes : ByteArray} {nL : Nat}
set_option maxHeartbeats 4000000 in
theorem snd_B {pc nx len k a b pc' : Nat} {v : Int32} {i : Instr} {L L' : sl_L} {st st' : List sl_V} {σ σ' : sl_S} (hC : sl_C p s mi args c D cA ad xs N own bytes nL) (hd : decode bytes pc = .ok (i, len)) (hnx : nx = pc + len) (hk : sl_cB own i len k a b v = true) (hR : 10 ≤ k → 1 ≤ R.frames ∧ 48 ≤ R.locals) (hcs : cells ≤ R.cells ∧ slots ≤ R.slots) (hok : sl_ok nL L st) (hst : sl_stepB xs N k a b v nx L st σ = some (.inl (pc', L', st', σ')))
    (K : sl_ok nL L' st' → sl_N p l e R s mi args below meth c cells slots Q D cA ad nL pc' L' st' σ') : sl_N p l e R s mi args below meth c cells slots Q D cA ad nL pc L st σ := by
  obtain ⟨hx, hb, hml, hts, hown, hK, hinj, hro, hnest⟩ := hC
  subst hnx
  intro H locs ls hP hS hl
  have hD : va_D (sl_A ad) (sl_ws ad cA σ) := sl_wsD hinj
  unfold sl_stepB at hst
  split at hst
  -- getfield
  · split at hst
    · rename_i r st0
      split at hst
      · rename_i ci sl ho
        split at hst
        · rename_i hci
          subst hci
          split at hst
          · rename_i g hg
            obtain ⟨rfl, rfl, rfl, rfl⟩ := sl_snx hst
            simp only [sl_cB] at hk
            split at hk
            · rename_i idx
              simp only [Bool.and_eq_true, decide_eq_true_eq] at hk
              obtain ⟨rfl, hk⟩ := hk
              obtain ⟨C, T, n, hv, hbn, hlink⟩ := sl_fchk_ok hk
              have hrr : r ∈ sl_refs := by
                rcases hok.2.1 _ List.mem_cons_self with h | h
                · exact h
                · rw [(sl_ref2 h).1] at ho; cases ho
              have hobj := sl_isobj hrr ho
              obtain ⟨q, hq1, hq2⟩ := sl_ws_at (ad := ad) (cA := cA) (σ := σ) hrr
              rw [sl_cell_obj ho] at hq2
              have hgok : sl_okv (sl_gi σ g) := by
                rcases g with w | w
                · trivial
                · exact Or.inl (hobj.2.2.2.2 b w hg)
              have K2 := K (sl_ok_st hok (sl_okc hgok (sl_okt hok.2.1))) H locs ls hP hS hl
              exact va_get hx hb hts (sl_cls hv).1 hown hK hP q hq2 hv b hbn (hts _ hlink) (fun _ h => h) (by rw [List.getElem?_map, hg]; rfl) hd K2
            · cases hk
          · cases hst
        · cases hst
      · cases hst
    · cases hst
  -- putfield
  · split at hst
    · rename_i x r st0
      split at hst
      · rename_i ci sl ho
        split at hst
        · rename_i hci
          obtain ⟨rfl, hvx⟩ := hci
          split at hst
          · rename_i w hg
            obtain ⟨rfl, rfl, rfl, rfl⟩ := sl_snx hst
            simp only [sl_cB] at hk
            split at hk
            · rename_i idx
              simp only [Bool.and_eq_true, decide_eq_true_eq] at hk
              obtain ⟨rfl, hk, hpk⟩ := hk
              obtain ⟨C, T, n, hv, hbn, hlink⟩ := sl_fchk_ok hk
              have hrr : r ∈ sl_refs := by
                rcases hok.2.1 _ (List.mem_cons_of_mem _ List.mem_cons_self) with h | h
                · exact h
                · rw [(sl_ref2 h).1] at ho; cases ho
              have hobj := sl_isobj hrr ho
              obtain ⟨q, hq1, hq2⟩ := sl_ws_at (ad := ad) (cA := cA) (σ := σ) hrr
              rw [sl_cell_obj ho] at hq2
              have K2 := K (sl_ok_st hok (sl_okt (sl_okt hok.2.1)))
              obtain ⟨hcl1, ⟨ty0, hcl2⟩, hcl3⟩ := sl_cls hv
              unfold sl_pchk at hpk
              rw [hv] at hpk
              simp only [Bool.and_eq_true, Bool.or_eq_true, decide_eq_true_eq] at hpk
              have hlen : b < (sl.map (fun g => sl_ren ad (sl_gi σ g))).length := by
                rw [List.length_map, hobj.2.2.1 C T n hv]
                exact hbn
              have fin : ∀ (H1 : Heap) (locs1 : List Loc), va_P D vwCl ((sl_ws ad cA σ).set q (ad r, .inr (ci, (sl.map (fun g => sl_ren ad (sl_gi σ g))).set b (.int x)))) H1 → va_S (sl_A ad) s.heap H1 locs1 → W p l e R s mi args below meth c H1 locs1 cells slots Q (F0 mi (pc + 3) ls (st0.map (sl_ren ad))) := by
                intro H1 locs1 hP1 hS1
                rw [sl_put_obj hrr hq1 ho hg] at hP1
                exact K2 H1 locs1 ls hP1 hS1 hl
              obtain ⟨hfin, hI | hZ⟩ := hpk
              · exact va_put (ty := .int) hx hb hts hcl1 ty0 hcl2 hcl3 hown hK hP hD hS q hq2 hv b hbn (hts _ hlink) (fun _ h => h) hfin (by rw [hI.1]; decide) rfl rfl hlen hd (fun H1 locs1 a1 _ a3 => fin H1 locs1 a1 a3)
              · have hx01 : x = 0 ∨ x = 1 := by
                  rcases hvx with h | h
                  · rw [hZ.2] at h; exact absurd h (by decide)
                  · exact h
                exact va_put (ty := .boolean) hx hb hts hcl1 ty0 hcl2 hcl3 hown hK hP hD hS q hq2 hv b hbn (hts _ hlink) (fun _ h => h) hfin (by rw [hZ.1]; decide) (sl_z1 hx01) (sl_z2 hx01) hlen hd (fun H1 locs1 a1 _ a3 => fin H1 locs1 a1 a3)
            · cases hk
          · cases hst
        · cases hst
      · cases hst
    · cases hst
  -- getstatic
  · obtain ⟨rfl, rfl, rfl, rfl⟩ := sl_snx hst
    simp only [sl_cB] at hk
    split at hk
    · rename_i idx
      simp only [Bool.and_eq_true, decide_eq_true_eq] at hk
      obtain ⟨rfl, ha, hlink⟩ := hk
      have hor : ((a, 0, 0) : sl_R) ∈ sl_rors := by
        rcases (show a = 90 ∨ a = 91 ∨ a = 92 ∨ a = 93 ∨ a = 94 ∨ a = 95 by omega) with h | h | h | h | h | h <;> (subst h; decide)
      have K2 := K (sl_ok_st hok (sl_okc (Or.inr hor) hok.2.1)) H locs ls hP hS hl
      have hz := hro.2 (a - 90) (by omega)
      rw [show 90 + (a - 90) = a by omega] at hz
      exact va_gets hx hb hz hS hown (hts _ hlink) (fun _ h => h) hd K2
    · cases hk
  -- aaload
  · split at hst
    · rename_i j r st0
      split at hst
      · rename_i hj
        obtain ⟨rfl, rfl, rfl, rfl⟩ := sl_snx hst
        simp only [sl_cB, Bool.and_eq_true, decide_eq_true_eq] at hk
        obtain ⟨rfl, rfl⟩ := hk
        obtain ⟨hj0, hj1⟩ := hj
        cases ha : sl_rar r.1 r.2.1 r.2.2 with
        | none =>
          have : sl_rlen r = 0 := by unfold sl_rlen; rw [ha]
          rw [this] at hj1
          omega
        | some z =>
          obtain ⟨ty, n, g⟩ := z
          have e1 : sl_rlen r = n := by unfold sl_rlen; rw [ha]
          have e2 : ∀ i, sl_rg r i = g i := fun i => by unfold sl_rg; rw [ha]
          rw [e1] at hj1
          have hrr : r ∈ sl_refs := by
            rcases hok.2.1 _ (List.mem_cons_of_mem _ List.mem_cons_self) with h | h
            · exact h
            · rw [(sl_ref2 h).2.2] at ha; cases ha
          have hr2 := sl_israr hrr ha
          obtain ⟨q, hq1, hq2⟩ := sl_ws_at (ad := ad) (cA := cA) (σ := σ) hrr
          rw [sl_cell_rar hr2.1 hr2.2.1 ha] at hq2
          obtain ⟨hin, hlt⟩ := sl_ix hj0 hj1
          obtain ⟨ft, hft, hrf⟩ := sl_tyk cA hr2.2.2.2.1
          have K2 := K (sl_ok_st hok (sl_okc (by rw [e2]; exact Or.inl (hr2.2.2.2.2 _ hlt)) (sl_okt (sl_okt hok.2.1)))) H locs ls hP hS hl
          refine W.aald (v := .ref (ad (g j.toNatClampNeg))) (ty := ft) hx hb (hP q _ hq2) ((hK.2 ty _ hft).1 n (fun i => va_rf (if i < n then some (ad (g i)) else none))) (hrf hr2.2.2.1) (fun q => by cases q) (by show ¬ (j < 0 ∨ (arrV _ _ _).slots.size ≤ _); rw [arrV_size]; exact hin) (by show (arrV _ _ _).slots[_]? = _; rw [arrV_read _ _ hlt]; show some (va_rf (if _ < n then _ else none)) = _; rw [if_pos hlt]; rfl) rfl rfl hd ?_
          rw [e2] at K2
          exact K2
      · cases hst
    · cases hst
  -- iaload
  · split at hst
    · rename_i j r st0
      split at hst
      · rename_i hj
        obtain ⟨rfl, rfl, rfl, rfl⟩ := sl_snx hst
        simp only [sl_cB, Bool.and_eq_true, decide_eq_true_eq] at hk
        obtain ⟨rfl, rfl⟩ := hk
        obtain ⟨hj0, hj1⟩ := hj
        have K2 := K (sl_ok_st hok (sl_okc trivial (sl_okt (sl_okt hok.2.1)))) H locs ls hP hS hl
        rcases hok.2.1 _ (List.mem_cons_of_mem _ List.mem_cons_self) with hrr | hrr
        · have e0 : sl_ilen N r = sl_wlen r 0 := by
            unfold sl_ilen sl_wlen
            rw [sl_ro_lt (sl_ref3 hrr)]
            split
            · rename_i h; rw [h]; rfl
            · rename_i z h1 h2
              rw [h2]
              obtain ⟨ty, n, z⟩ := z
              cases ty with
              | zero => exact (h1 _ _ rfl).elim
              | succ ty => rfl
            · rename_i h; rw [h]
          rw [e0] at hj1
          obtain ⟨n, R', K', o, ha, hlt, hn⟩ := sl_wl (r := r) (ty := 0) (j := j.toNatClampNeg) (by show j.toInt.toNat < _; omega)
          rw [hn] at hj1
          have hr2 := sl_isarr hrr ha
          obtain ⟨q, hq1, hq2⟩ := sl_ws_at (ad := ad) (cA := cA) (σ := σ) hrr
          rw [sl_cell_arr hr2.1 ha] at hq2
          refine va_iald hx hb hK hP q 0 hq2 rfl (sl_ix hj0 hj1).1 hd ?_
          rw [if_pos hlt]
          rw [sl_rd_at ha] at K2
          exact K2
        · have key : ∀ (n : Nat) (f : Nat → Int32), sl_ro xs N r.1 = some (n, f) → sl_ilen N r = n → sl_rd xs σ r j.toNatClampNeg = f j.toNatClampNeg → W p l e R s mi args below meth c H locs cells slots Q (F0 mi pc ls (.int j :: .ref (ad r) :: st0.map (sl_ren ad))) := by
            intro n f h1 h2 h3
            rw [h2] at hj1
            rw [h3] at K2
            obtain ⟨cell, c1, c2, c3, c4, c5, c6, c7⟩ := hro.1 r hrr n f h1
            obtain ⟨hin, hlt⟩ := sl_ix hj0 hj1
            exact W.iald (v := .int (f j.toNatClampNeg)) hx hb (by rw [hS.2.1 (ad r) (Array.getElem?_eq_some_iff.mp c1).1 c7]; exact c1) c2 c3 (fun h => hin (h.imp id (fun z => Nat.le_trans c4 z))) (c6 _ hlt) rfl rfl hd K2
          simp only [sl_rors, List.mem_cons, List.mem_nil_iff, or_false] at hrr
          rcases hrr with rfl | rfl | rfl | rfl | rfl | rfl | rfl
          all_goals exact key _ _ rfl rfl rfl
      · cases hst
    · cases hst
  -- baload
  · split at hst
    · rename_i j r st0
      split at hst
      · rename_i hj
        obtain ⟨rfl, rfl, rfl, rfl⟩ := sl_snx hst
        simp only [sl_cB, Bool.and_eq_true, decide_eq_true_eq] at hk
        obtain ⟨rfl, rfl, hb12⟩ := hk
        obtain ⟨hj0, hj1⟩ := hj
        have K2 := K (sl_ok_st hok (sl_okc trivial (sl_okt (sl_okt hok.2.1)))) H locs ls hP hS hl
        obtain ⟨n, R', K', o, ha, hlt, hn⟩ := sl_wl (r := r) (ty := b) (j := j.toNatClampNeg) (by show j.toInt.toNat < _; omega)
        rw [hn] at hj1
        have hrr : r ∈ sl_refs := by
          rcases hok.2.1 _ (List.mem_cons_of_mem _ List.mem_cons_self) with h | h
          · exact h
          · rw [(sl_ref2 h).2.1] at ha; cases ha
        have hr2 := sl_isarr hrr ha
        obtain ⟨q, hq1, hq2⟩ := sl_ws_at (ad := ad) (cA := cA) (σ := σ) hrr
        rw [sl_cell_arr hr2.1 ha] at hq2
        rw [sl_rd_at ha] at K2
        rcases hb12 with rfl | rfl
        · refine va_bald hx hb hK hP q 1 hq2 rfl (sl_ix hj0 hj1).1 hd ?_
          rw [if_pos hlt]
          exact K2
        · refine va_zald hx hb hK hP q 2 hq2 rfl (sl_ix hj0 hj1).1 hd ?_
          rw [if_pos hlt]
          exact K2
      · cases hst
    · cases hst
  -- iastore
  · split at hst
    · rename_i x j r st0
      split at hst
      · rename_i hj
        obtain ⟨rfl, rfl, rfl, rfl⟩ := sl_snx hst
        simp only [sl_cB, Bool.and_eq_true, decide_eq_true_eq] at hk
        obtain ⟨rfl, rfl⟩ := hk
        obtain ⟨hj0, hj1⟩ := hj
        have K2 := K (sl_ok_st hok (sl_okt (sl_okt (sl_okt hok.2.1))))
        obtain ⟨n, R', K', o, ha, hlt, hn⟩ := sl_wl (r := r) (ty := 0) (j := j.toNatClampNeg) (by show j.toInt.toNat < _; omega)
        rw [hn] at hj1
        have hrr : r ∈ sl_refs := by
          rcases hok.2.1 _ (List.mem_cons_of_mem _ (List.mem_cons_of_mem _ List.mem_cons_self)) with h | h
          · exact h
          · rw [(sl_ref2 h).2.1] at ha; cases ha
        have hr2 := sl_isarr hrr ha
        obtain ⟨q, hq1, hq2⟩ := sl_ws_at (ad := ad) (cA := cA) (σ := σ) hrr
        rw [sl_cell_arr hr2.1 ha] at hq2
        refine va_iast hx hb hK hP hD hS q 0 hq2 rfl (sl_ix hj0 hj1).1 hd (fun H1 locs1 a1 _ a3 => ?_)
        rw [sl_put_arr hrr hq1 ha hlt] at a1
        rw [sl_wr_at ha] at K2
        exact K2 H1 locs1 ls a1 a3 hl
      · cases hst
    · cases hst
  -- bastore
  · split at hst
    · rename_i x j r st0
      split at hst
      · rename_i hj
        obtain ⟨rfl, rfl, rfl, rfl⟩ := sl_snx hst
        simp only [sl_cB, Bool.and_eq_true, decide_eq_true_eq] at hk
        obtain ⟨rfl, rfl⟩ := hk
        obtain ⟨hj0, hj1⟩ := hj
        have K2 := K (sl_ok_st hok (sl_okt (sl_okt (sl_okt hok.2.1))))
        obtain ⟨n, R', K', o, ha, hlt, hn⟩ := sl_wl (r := r) (ty := 1) (j := j.toNatClampNeg) (by show j.toInt.toNat < _; omega)
        rw [hn] at hj1
        have hrr : r ∈ sl_refs := by
          rcases hok.2.1 _ (List.mem_cons_of_mem _ (List.mem_cons_of_mem _ List.mem_cons_self)) with h | h
          · exact h
          · rw [(sl_ref2 h).2.1] at ha; cases ha
        have hr2 := sl_isarr hrr ha
        obtain ⟨q, hq1, hq2⟩ := sl_ws_at (ad := ad) (cA := cA) (σ := σ) hrr
        rw [sl_cell_arr hr2.1 ha] at hq2
        refine va_bast hx hb hK hP hD hS q 1 hq2 rfl (sl_ix hj0 hj1).1 hd (fun H1 locs1 a1 _ a3 => ?_)
        rw [sl_nar_b, sl_put_arr hrr hq1 ha hlt] at a1
        rw [sl_wr_at ha] at K2
        exact K2 H1 locs1 ls a1 a3 hl
      · cases hst
    · cases hst
  -- zastore
  · split at hst
    · rename_i x j r st0
      split at hst
      · rename_i hj
        obtain ⟨rfl, rfl, rfl, rfl⟩ := sl_snx hst
        simp only [sl_cB, Bool.and_eq_true, decide_eq_true_eq] at hk
        obtain ⟨rfl, rfl⟩ := hk
        obtain ⟨⟨hj0, hj1⟩, hz⟩ := hj
        have K2 := K (sl_ok_st hok (sl_okt (sl_okt (sl_okt hok.2.1))))
        obtain ⟨n, R', K', o, ha, hlt, hn⟩ := sl_wl (r := r) (ty := 2) (j := j.toNatClampNeg) (by show j.toInt.toNat < _; omega)
        rw [hn] at hj1
        have hrr : r ∈ sl_refs := by
          rcases hok.2.1 _ (List.mem_cons_of_mem _ (List.mem_cons_of_mem _ List.mem_cons_self)) with h | h
          · exact h
          · rw [(sl_ref2 h).2.1] at ha; cases ha
        have hr2 := sl_isarr hrr ha
        obtain ⟨q, hq1, hq2⟩ := sl_ws_at (ad := ad) (cA := cA) (σ := σ) hrr
        rw [sl_cell_arr hr2.1 ha] at hq2
        refine va_zast hx hb hK hP hD hS q 2 hq2 rfl (sl_ix hj0 hj1).1 hd (fun H1 locs1 a1 _ a3 => ?_)
        rw [sl_nar_z hz, sl_put_arr hrr hq1 ha hlt] at a1
        rw [sl_wr_at ha] at K2
        exact K2 H1 locs1 ls a1 a3 hl
      · cases hst
    · cases hst
  -- arraylength
  · split at hst
    · rename_i r st0
      split at hst
      · cases hst
      · rename_i hj
        obtain ⟨rfl, rfl, rfl, rfl⟩ := sl_snx hst
        simp only [sl_cB, Bool.and_eq_true, decide_eq_true_eq] at hk
        obtain ⟨rfl, rfl⟩ := hk
        have K2 := K (sl_ok_st hok (sl_okc trivial (sl_okt hok.2.1))) H locs ls hP hS hl
        rcases hok.2.1 _ List.mem_cons_self with hrr | hrr
        · have e0 : sl_ilen N r = sl_wlen r 0 := by
            unfold sl_ilen sl_wlen
            rw [sl_ro_lt (sl_ref3 hrr)]
            split
            · rename_i h; rw [h]; rfl
            · rename_i z h1 h2
              rw [h2]
              obtain ⟨ty, n, z⟩ := z
              cases ty with
              | zero => exact (h1 _ _ rfl).elim
              | succ ty => rfl
            · rename_i h; rw [h]
          obtain ⟨n, R', K', o, ha, hlt, hn⟩ := sl_wl (r := r) (ty := 0) (j := 0) (by omega)
          have hr2 := sl_isarr hrr ha
          obtain ⟨q, hq1, hq2⟩ := sl_ws_at (ad := ad) (cA := cA) (σ := σ) hrr
          rw [sl_cell_arr hr2.1 ha] at hq2
          rw [e0, hn] at K2
          exact va_alen hx hb hK hP q 0 hq2 rfl rfl hd K2
        · have key : ∀ (n : Nat) (f : Nat → Int32), sl_ro xs N r.1 = some (n, f) → sl_ilen N r = n → W p l e R s mi args below meth c H locs cells slots Q (F0 mi pc ls (.ref (ad r) :: st0.map (sl_ren ad))) := by
            intro n f h1 h2
            rw [h2] at K2
            obtain ⟨cell, c1, c2, c3, c4, c5, c6, c7⟩ := hro.1 r hrr n f h1
            exact W.alen (n := Int32.ofNat n) hx hb (by rw [hS.2.1 (ad r) (Array.getElem?_eq_some_iff.mp c1).1 c7]; exact c1) c2 c5 rfl rfl hd K2
          simp only [sl_rors, List.mem_cons, List.mem_nil_iff, or_false] at hrr
          rcases hrr with rfl | rfl | rfl | rfl | rfl | rfl | rfl
          all_goals exact key _ _ rfl rfl
    · cases hst
  -- arraycopy
  · split at hst
    · rename_i n j r i0 q0 st0
      split at hst
      · rename_i hj
        obtain ⟨rfl, rfl, rfl, rfl⟩ := sl_snx hst
        obtain ⟨hn0, hi0, hj0, hiq, hjr, hcw⟩ := hj
        simp only [sl_cB] at hk
        split at hk
        · rename_i idx
          simp only [Bool.and_eq_true, decide_eq_true_eq] at hk
          obtain ⟨rfl, hlink⟩ := hk
          have K2 := K (sl_ok_st hok (sl_okt (sl_okt (sl_okt (sl_okt (sl_okt hok.2.1))))))
          have hr3 := hok.2.1 _ (List.mem_cons_of_mem _ (List.mem_cons_of_mem _ List.mem_cons_self))
          have hq3 := hok.2.1 _ (List.mem_cons_of_mem _ (List.mem_cons_of_mem _ (List.mem_cons_of_mem _ (List.mem_cons_of_mem _ List.mem_cons_self))))
          obtain ⟨hq5, hr5⟩ := hcw.2
          obtain ⟨n1, R1, K1, o1, ha1, hl1, e1⟩ := sl_wl hq5
          obtain ⟨n2, R2, K3, o2, ha2, hl2, e2⟩ := sl_wl hr5
          have hrr : r ∈ sl_refs := by
            rcases hr3 with h | h
            · exact h
            · rw [(sl_ref2 h).2.1] at ha2; cases ha2
          have hqq : q0 ∈ sl_refs := by
            rcases hq3 with h | h
            · exact h
            · rw [(sl_ref2 h).2.1] at ha1; cases ha1
          have gr := sl_isarr hrr ha2
          have gq := sl_isarr hqq ha1
          obtain ⟨kr, kr1, kr2⟩ := sl_ws_at (ad := ad) (cA := cA) (σ := σ) hrr
          obtain ⟨kq, kq1, kq2⟩ := sl_ws_at (ad := ad) (cA := cA) (σ := σ) hqq
          rw [sl_cell_arr gr.1 ha2] at kr2
          rw [sl_cell_arr gq.1 ha1] at kq2
          rw [e1] at hiq
          rw [e2] at hjr
          have nn : ∀ z : Int32, 0 ≤ z.toInt → ¬ z < 0 ∧ (z.toNatClampNeg : Int) = z.toInt := by
            intro z hz
            refine ⟨fun h => ?_, ?_⟩
            · have h2 := Int32.lt_iff_toInt_lt.mp h
              simp at h2
              omega
            · show ((z.toInt.toNat : Nat) : Int) = z.toInt
              omega
          have a1 := nn i0 hi0
          have a2 := nn j hj0
          have a3 := nn n hn0
          refine va_copyi hx hb (by rw [hml]; exact hl.1.symm) hown (hts _ hlink) (hts _ (by decide +kernel)) (hts _ (by decide +kernel)) (hts _ (by decide +kernel)) hK hP hD hS kq kr 0 0 kq2 kr2 rfl rfl rfl a1.1 a2.1 a3.1 (by omega) (by omega) (fun _ _ => rfl) (hR (by decide)).1 ?_ hd (fun H1 locs1 b1 _ b3 => ?_)
          · rw [sl_cwv]
            have h8 := hcw.1
            have h9 := (hR (by decide)).2
            have h10 : nativeFrameWords "java/lang/System" "arraycopy" 5 = 7 := by decide
            omega
          · rw [sl_copy_set hrr kr1 ha1 ha2 (by omega) (by omega)] at b1
            exact K2 H1 locs1 ls b1 b3 hl
        · cases hk
      · cases hst
    · cases hst
  · split at hst
    · rename_i x st0
      split at hst
      · rename_i hcw
        obtain ⟨rfl, rfl, rfl, rfl⟩ := sl_snx hst
        have K2 := K (sl_ok_st hok (sl_okc trivial (sl_okt hok.2.1))) H locs ls hP hS hl
        simp only [sl_cB] at hk
        split at hk
        · rename_i idx
          simp only [Bool.and_eq_true, decide_eq_true_eq] at hk
          obtain ⟨rfl, hlink⟩ := hk
          have h9 := (hR (by decide)).2
          exact va_mabs hx hb (by rw [hml]; exact hl.1.symm) hown (hts _ hlink) (hts _ sl_mtk.1.1) (hts _ sl_mtk.2) (hts _ sl_mtc1) (hR (by decide)).1 (by rw [sl_cwv]; omega) hcs.1 hcs.2 hd K2
        · cases hk
      · cases hst
    · cases hst
  · split at hst
    · rename_i y x st0
      split at hst
      · rename_i hcw
        obtain ⟨rfl, rfl, rfl, rfl⟩ := sl_snx hst
        have K2 := K (sl_ok_st hok (sl_okc trivial (sl_okt (sl_okt hok.2.1)))) H locs ls hP hS hl
        simp only [sl_cB] at hk
        split at hk
        · rename_i idx
          simp only [Bool.and_eq_true, decide_eq_true_eq] at hk
          obtain ⟨rfl, hlink⟩ := hk
          have h9 := (hR (by decide)).2
          exact va_mmax hx hb (by rw [hml]; exact hl.1.symm) hown (hts _ hlink) (hts _ sl_mtk.1.2.1) (hts _ sl_mtk.2) (hts _ sl_mtc2) (hR (by decide)).1 (by rw [sl_cwv]; omega) hcs.1 hcs.2 hd K2
        · cases hk
      · cases hst
    · cases hst
  · split at hst
    · rename_i y x st0
      split at hst
      · rename_i hcw
        obtain ⟨rfl, rfl, rfl, rfl⟩ := sl_snx hst
        have K2 := K (sl_ok_st hok (sl_okc trivial (sl_okt (sl_okt hok.2.1)))) H locs ls hP hS hl
        simp only [sl_cB] at hk
        split at hk
        · rename_i idx
          simp only [Bool.and_eq_true, decide_eq_true_eq] at hk
          obtain ⟨rfl, hlink⟩ := hk
          have h9 := (hR (by decide)).2
          exact va_mmin hx hb (by rw [hml]; exact hl.1.symm) hown (hts _ hlink) (hts _ sl_mtk.1.2.2.1) (hts _ sl_mtk.2) (hts _ sl_mtc3) (hR (by decide)).1 (by rw [sl_cwv]; omega) hcs.1 hcs.2 hd K2
        · cases hk
      · cases hst
    · cases hst
  · split at hst
    · rename_i x st0
      split at hst
      · rename_i hcw
        obtain ⟨rfl, rfl, rfl, rfl⟩ := sl_snx hst
        have K2 := K (sl_ok_st hok (sl_okc trivial (sl_okt hok.2.1))) H locs ls hP hS hl
        simp only [sl_cB] at hk
        split at hk
        · rename_i idx
          simp only [Bool.and_eq_true, decide_eq_true_eq] at hk
          obtain ⟨rfl, hlink⟩ := hk
          have h9 := (hR (by decide)).2
          exact va_mabs_long hx hb (by rw [hml]; exact hl.1.symm) hown (hts _ hlink) (hts _ sl_mtk.1.2.2.2) (hts _ sl_mtk.2) (hts _ sl_mtc4) (hR (by decide)).1 (by rw [sl_cwv]; omega) hcs.1 hcs.2 hd K2
        · cases hk
      · cases hst
    · cases hst
  · cases hst
end SNB
