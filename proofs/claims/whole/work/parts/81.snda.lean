/-- which instruction a word of the small machine stands for -/
def sl_cA (own : String) (i : Instr) (len k a b : Nat) (v : Int32) : Bool := match k with
  | 0 => (decide (i = .iconst v.toInt) && decide (len = 1)) || ((decide (i = .bipush v.toInt) && decide (len = 2)) && decide ((Int8.ofInt v.toInt).toInt32 = v)) || ((decide (i = .sipush v.toInt) && decide (len = 3)) && decide ((Int16.ofInt v.toInt).toInt32 = v)) || ((decide (i = .ldc a) && decide (len = 2)) && decide (Cond.constant own a v ∈ sl_good)) || ((decide (i = .ldc_w a) && decide (len = 3)) && decide (Cond.constant own a v ∈ sl_good))
  | 1 => (decide (i = .iload a) && decide (len = 2)) || (decide (i = .iload_n (Fin.ofNat 4 a)) && decide (len = 1) && decide (a < 4))
  | 2 => (decide (i = .lload a) && decide (len = 2)) || (decide (i = .lload_n (Fin.ofNat 4 a)) && decide (len = 1) && decide (a < 4))
  | 3 => (decide (i = .aload a) && decide (len = 2)) || (decide (i = .aload_n (Fin.ofNat 4 a)) && decide (len = 1) && decide (a < 4))
  | 4 => (decide (i = .istore a) && decide (len = 2)) || (decide (i = .istore_n (Fin.ofNat 4 a)) && decide (len = 1) && decide (a < 4))
  | 5 => (decide (i = .lstore a) && decide (len = 2)) || (decide (i = .lstore_n (Fin.ofNat 4 a)) && decide (len = 1) && decide (a < 4))
  | 6 => (decide (i = .astore a) && decide (len = 2)) || (decide (i = .astore_n (Fin.ofNat 4 a)) && decide (len = 1) && decide (a < 4))
  | 7 => decide (i = .iinc a v.toInt) && decide (len = 3)
  | 8 => decide (len = 1) && match b with
    | 8 => decide (i = .iadd)
    | 9 => decide (i = .isub)
    | 10 => decide (i = .imul)
    | 11 => decide (i = .iand)
    | 12 => decide (i = .ior)
    | 13 => decide (i = .ixor)
    | 14 => decide (i = .ishl)
    | 15 => decide (i = .ishr)
    | 16 => decide (i = .iushr)
    | _ => false
  | 17 => decide (i = .idiv) && decide (len = 1)
  | 18 => decide (i = .irem) && decide (len = 1)
  | 19 => decide (i = .ineg) && decide (len = 1)
  | 20 => decide (i = .i2l) && decide (len = 1)
  | 21 => decide (i = .l2i) && decide (len = 1)
  | 22 => decide (i = .i2b) && decide (len = 1)
  | 23 => decide (i = .i2s) && decide (len = 1)
  | 24 => decide (len = 1) && match b with
    | 0 => decide (i = .lmul)
    | 1 => decide (i = .lsub)
    | 2 => decide (i = .land)
    | 3 => decide (i = .lor)
    | _ => false
  | 25 => decide (i = .ldiv) && decide (len = 1)
  | 26 => decide (len = 1) && ((decide (i = .lshl) && decide (b = 0)) || (decide (i = .lshr) && decide (b = 1)))
  | 27 => decide (i = .lneg) && decide (len = 1)
  | 28 => decide (i = .lcmp) && decide (len = 1)
  | 29 => (decide (i = .lconst 0) && decide (len = 1) && decide (b = 0)) || (decide (i = .ldc2_w a) && decide (len = 3) && decide (Cond.constantLong own a (sl_lk b) ∈ sl_good))
  | _ => false
section SND
variable {p : Program} {l : Launch} {e : Env} {R : Room} {s : State} {mi : MethodId} {args : Array Value} {below : List Frame} {meth : Method} {c : Code} {cells slots : Nat} {Q : State → Prop}
variable {D : va_G} {cA : Nat → ClassId} {ad : sl_R → Nat} {xs : Nat → Int32} {N : Nat} {own : String} {bytes : ByteArray} {nL : Nat}
/-- what stands still while a method runs -/
def sl_C (p : Program) (s : State) (mi : MethodId) (args : Array Value) (c : Code) (D : va_G) (cA : Nat → ClassId) (ad : sl_R → Nat) (xs : Nat → Int32) (N : Nat) (own : String) (bytes : ByteArray) (nL : Nat) : Prop :=
  p.tables.exec = Jvm.exec ∧ c.code = bytes ∧ c.maxLocals = nL ∧ (∀ w, w ∈ sl_good → w.before args s = true) ∧ s.vm.findClass own = some mi.cls ∧ va_K D vwCl (sl_tys cA) s ∧ (∀ q r, q ∈ sl_refs → r ∈ sl_refs → ad q = ad r → q = r) ∧ sl_Ro ad xs N s s.heap ∧ (∀ q, q ∈ sl_nest → va_Nw (.methodLinkNest q.1 q.2 yX9_within "SloshTank") s)
/-- from here the machine goes on to Q -/
def sl_N (p : Program) (l : Launch) (e : Env) (R : Room) (s : State) (mi : MethodId) (args : Array Value) (below : List Frame) (meth : Method) (c : Code) (cells slots : Nat) (Q : State → Prop) (D : va_G) (cA : Nat → ClassId) (ad : sl_R → Nat) (nL : Nat) (pc : Nat) (L : sl_L) (st : List sl_V) (σ : sl_S) : Prop :=
  ∀ (H : Heap) (locs : List Loc) (ls : Array Slot), va_P D vwCl (sl_ws ad cA σ) H → va_S (sl_A ad) s.heap H locs → lv_has ls nL (sl_prs ad 0 L) → W p l e R s mi args below meth c H locs cells slots Q (F0 mi pc ls (st.map (sl_ren ad)))
theorem sl_snx {pc pc' : Nat} {L L' : sl_L} {st st' : List sl_V} {σ σ' : sl_S} (h : sl_nx pc L st σ = some (.inl (pc', L', st', σ'))) : pc = pc' ∧ L = L' ∧ st = st' ∧ σ = σ' := by
  cases h
  exact ⟨rfl, rfl, rfl, rfl⟩
theorem sl_fin {a : Nat} (h : a < 4) : ((Fin.ofNat 4 a : Fin 4) : Nat) = a := Nat.mod_eq_of_lt h
set_option maxHeartbeats 4000000 in
theorem snd_A {pc nx len k a b pc' : Nat} {v : Int32} {i : Instr} {L L' : sl_L} {st st' : List sl_V} {σ σ' : sl_S} (hC : sl_C p s mi args c D cA ad xs N own bytes nL) (hd : decode bytes pc = .ok (i, len)) (hnx : nx = pc + len) (hk : sl_cA own i len k a b v = true) (hok : sl_ok nL L st) (hst : sl_stepA k a b v nx L st σ = some (.inl (pc', L', st', σ')))
    (K : sl_ok nL L' st' → sl_N p l e R s mi args below meth c cells slots Q D cA ad nL pc' L' st' σ') : sl_N p l e R s mi args below meth c cells slots Q D cA ad nL pc L st σ := by
  obtain ⟨hx, hb, hml, hts, hown, hK, hinj, hro, hnest⟩ := hC
  subst hnx
  intro H locs ls hP hS hl
  unfold sl_stepA at hst
  split at hst
  -- const
  · obtain ⟨rfl, rfl, rfl, rfl⟩ := sl_snx hst
    have K2 := K (sl_ok_st hok (sl_okc trivial hok.2.1)) H locs ls hP hS hl
    simp only [sl_cA, Bool.or_eq_true, Bool.and_eq_true, decide_eq_true_eq] at hk
    rcases hk with (((⟨rfl, rfl⟩ | ⟨⟨rfl, rfl⟩, h3⟩) | ⟨⟨rfl, rfl⟩, h3⟩) | ⟨⟨rfl, rfl⟩, h3⟩) | ⟨⟨rfl, rfl⟩, h3⟩
    · exact lv_iconst hx hb hd (Int32.ofInt_toInt v) K2
    · exact lv_bipush hx hb hd h3 K2
    · exact lv_sipush hx hb hd h3 K2
    · exact lv_ldc hx hb hown (hts _ h3) hd K2
    · exact lv_ldcw hx hb hown (hts _ h3) hd K2
  -- iload
  · split at hst
    · rename_i x hL
      obtain ⟨rfl, rfl, rfl, rfl⟩ := sl_snx hst
      have K2 := K (sl_ok_st hok (sl_okc trivial hok.2.1)) H locs ls hP hS hl
      simp only [sl_cA, Bool.or_eq_true, Bool.and_eq_true, decide_eq_true_eq] at hk
      rcases hk with ⟨rfl, rfl⟩ | ⟨⟨rfl, rfl⟩, h3⟩
      · exact lv_iload hx hb hd (sl_lv_at hl hL) K2
      · exact lv_iload_n hx hb hd (sl_fin h3) (sl_lv_at hl hL) K2
    · cases hst
  -- lload
  · split at hst
    · rename_i x hL
      obtain ⟨rfl, rfl, rfl, rfl⟩ := sl_snx hst
      have K2 := K (sl_ok_st hok (sl_okc trivial hok.2.1)) H locs ls hP hS hl
      simp only [sl_cA, Bool.or_eq_true, Bool.and_eq_true, decide_eq_true_eq] at hk
      rcases hk with ⟨rfl, rfl⟩ | ⟨⟨rfl, rfl⟩, h3⟩
      · exact lv_lload hx hb hd (sl_lv_at hl hL) K2
      · exact lv_lload_n hx hb hd (sl_fin h3) (sl_lv_at hl hL) K2
    · cases hst
  -- aload
  · split at hst
    · rename_i x hL
      obtain ⟨rfl, rfl, rfl, rfl⟩ := sl_snx hst
      have K2 := K (sl_ok_st hok (sl_okc (hok.2.2 _ (List.mem_of_getElem? hL)) hok.2.1)) H locs ls hP hS hl
      simp only [sl_cA, Bool.or_eq_true, Bool.and_eq_true, decide_eq_true_eq] at hk
      rcases hk with ⟨rfl, rfl⟩ | ⟨⟨rfl, rfl⟩, h3⟩
      · exact lv_aload hx hb hd (sl_lv_at hl hL) K2
      · exact lv_aload_n hx hb hd (sl_fin h3) (sl_lv_at hl hL) K2
    · cases hst
  -- istore
  · split at hst
    · rename_i x st0
      split at hst
      · rename_i h1
        obtain ⟨rfl, rfl, rfl, rfl⟩ := sl_snx hst
        have hn : a < nL := by rw [← hok.1]; exact h1.1
        have K2 := K (sl_ok_set hok (fun u hu => by cases hu; trivial) (sl_okt hok.2.1)) H locs
        simp only [sl_cA, Bool.or_eq_true, Bool.and_eq_true, decide_eq_true_eq] at hk
        rcases hk with ⟨rfl, rfl⟩ | ⟨⟨rfl, rfl⟩, h3⟩
        · exact lv_istore hx hb hd hl hn rfl (fun ls' hl' => K2 ls' hP hS (sl_lv_set1 (v := .inl x) hl' h1.2))
        · exact lv_istore_n hx hb hd (sl_fin h3) hl hn rfl (fun ls' hl' => K2 ls' hP hS (sl_lv_set1 (v := .inl x) hl' h1.2))
      · cases hst
    · cases hst
  -- lstore
  · split at hst
    · rename_i x st0
      split at hst
      · rename_i h1
        obtain ⟨rfl, rfl, rfl, rfl⟩ := sl_snx hst
        have hn : a + 1 < nL := by rw [← hok.1]; exact h1.1
        have hok2 := sl_ok_set (i := a) (v := some (.inr (.inl x))) (st' := st0) hok (fun u hu => by cases hu; trivial) (sl_okt hok.2.1)
        have K2 := K (sl_ok_set (i := a + 1) (v := none) hok2 (fun u hu => by cases hu) (sl_okt hok.2.1)) H locs
        simp only [sl_cA, Bool.or_eq_true, Bool.and_eq_true, decide_eq_true_eq] at hk
        rcases hk with ⟨rfl, rfl⟩ | ⟨⟨rfl, rfl⟩, h3⟩
        · exact lv_lstore hx hb hd hl hn rfl (fun ls' hl' => K2 ls' hP hS (sl_lv_set2 (v := .inr (.inl x)) hl' h1.2))
        · exact lv_lstore_n hx hb hd (sl_fin h3) hl hn rfl (fun ls' hl' => K2 ls' hP hS (sl_lv_set2 (v := .inr (.inl x)) hl' h1.2))
      · cases hst
    · cases hst
  -- astore
  · split at hst
    · rename_i x st0
      split at hst
      · rename_i h1
        obtain ⟨rfl, rfl, rfl, rfl⟩ := sl_snx hst
        have hn : a < nL := by rw [← hok.1]; exact h1.1
        have K2 := K (sl_ok_set hok (fun u hu => by cases hu; exact hok.2.1 _ List.mem_cons_self) (sl_okt hok.2.1)) H locs
        simp only [sl_cA, Bool.or_eq_true, Bool.and_eq_true, decide_eq_true_eq] at hk
        rcases hk with ⟨rfl, rfl⟩ | ⟨⟨rfl, rfl⟩, h3⟩
        · exact lv_astore hx hb hd hl hn rfl (fun ls' hl' => K2 ls' hP hS (sl_lv_set1 (v := .inr (.inr x)) hl' h1.2))
        · exact lv_astore_n hx hb hd (sl_fin h3) hl hn rfl (fun ls' hl' => K2 ls' hP hS (sl_lv_set1 (v := .inr (.inr x)) hl' h1.2))
      · cases hst
    · cases hst
  -- iinc
  · split at hst
    · rename_i x hL
      split at hst
      · rename_i h1
        obtain ⟨rfl, rfl, rfl, rfl⟩ := sl_snx hst
        have hn : a < nL := by rw [← hok.1]; exact (List.getElem?_eq_some_iff.mp hL).1
        have K2 := K (sl_ok_set hok (fun u hu => by cases hu; trivial) hok.2.1) H locs
        simp only [sl_cA, Bool.or_eq_true, Bool.and_eq_true, decide_eq_true_eq] at hk
        obtain ⟨rfl, rfl⟩ := hk
        obtain ⟨kk, hkk⟩ := List.getElem?_of_mem (sl_prs_in (ad := ad).mpr ⟨_, hL, rfl⟩)
        exact lv_iinc hx hb hd hl hkk (by rw [Int32.ofInt_toInt]) hn rfl (fun ls' hl' => K2 ls' hP hS (sl_lv_set1 (v := .inl (x + v)) hl' h1))
      · cases hst
    · cases hst
  -- two ints
  · split at hst
    · rename_i y x st0
      obtain ⟨rfl, rfl, rfl, rfl⟩ := sl_snx hst
      have K2 := K (sl_ok_st hok (sl_okc trivial (sl_okt (sl_okt hok.2.1)))) H locs ls hP hS hl
      simp only [sl_cA, Bool.and_eq_true, decide_eq_true_eq] at hk
      obtain ⟨rfl, hk⟩ := hk
      split at hk
      all_goals (first | (obtain rfl := of_decide_eq_true hk) | cases hk)
      · exact lv_iadd hx hb hd K2
      · exact lv_isub hx hb hd K2
      · exact lv_imul hx hb hd K2
      · exact lv_iand hx hb hd K2
      · exact lv_ior hx hb hd K2
      · exact lv_ixor hx hb hd K2
      · exact lv_ishl hx hb hd K2
      · exact lv_ishr hx hb hd K2
      · exact lv_iushr hx hb hd rfl K2
    · cases hst
  · split at hst
    · rename_i y x st0
      split at hst
      · cases hst
      · rename_i h1
        obtain ⟨rfl, rfl, rfl, rfl⟩ := sl_snx hst
        have K2 := K (sl_ok_st hok (sl_okc trivial (sl_okt (sl_okt hok.2.1)))) H locs ls hP hS hl
        simp only [sl_cA, Bool.and_eq_true, decide_eq_true_eq] at hk
        obtain ⟨rfl, rfl⟩ := hk
        exact lv_idiv hx hb hd h1 K2
    · cases hst
  · split at hst
    · rename_i y x st0
      split at hst
      · cases hst
      · rename_i h1
        obtain ⟨rfl, rfl, rfl, rfl⟩ := sl_snx hst
        have K2 := K (sl_ok_st hok (sl_okc trivial (sl_okt (sl_okt hok.2.1)))) H locs ls hP hS hl
        simp only [sl_cA, Bool.and_eq_true, decide_eq_true_eq] at hk
        obtain ⟨rfl, rfl⟩ := hk
        exact lv_irem hx hb hd h1 K2
    · cases hst
  · split at hst
    · rename_i x st0
      obtain ⟨rfl, rfl, rfl, rfl⟩ := sl_snx hst
      have K2 := K (sl_ok_st hok (sl_okc trivial (sl_okt hok.2.1))) H locs ls hP hS hl
      simp only [sl_cA, Bool.and_eq_true, decide_eq_true_eq] at hk
      obtain ⟨rfl, rfl⟩ := hk
      exact lv_ineg hx hb hd K2
    · cases hst
  · split at hst
    · rename_i x st0
      obtain ⟨rfl, rfl, rfl, rfl⟩ := sl_snx hst
      have K2 := K (sl_ok_st hok (sl_okc trivial (sl_okt hok.2.1))) H locs ls hP hS hl
      simp only [sl_cA, Bool.and_eq_true, decide_eq_true_eq] at hk
      obtain ⟨rfl, rfl⟩ := hk
      exact lv_i2l hx hb hd rfl K2
    · cases hst
  · split at hst
    · rename_i x st0
      obtain ⟨rfl, rfl, rfl, rfl⟩ := sl_snx hst
      have K2 := K (sl_ok_st hok (sl_okc trivial (sl_okt hok.2.1))) H locs ls hP hS hl
      simp only [sl_cA, Bool.and_eq_true, decide_eq_true_eq] at hk
      obtain ⟨rfl, rfl⟩ := hk
      exact lv_l2i hx hb hd rfl K2
    · cases hst
  · split at hst
    · rename_i x st0
      obtain ⟨rfl, rfl, rfl, rfl⟩ := sl_snx hst
      have K2 := K (sl_ok_st hok (sl_okc trivial (sl_okt hok.2.1))) H locs ls hP hS hl
      simp only [sl_cA, Bool.and_eq_true, decide_eq_true_eq] at hk
      obtain ⟨rfl, rfl⟩ := hk
      exact lv_i2b hx hb hd rfl K2
    · cases hst
  · split at hst
    · rename_i x st0
      obtain ⟨rfl, rfl, rfl, rfl⟩ := sl_snx hst
      have K2 := K (sl_ok_st hok (sl_okc trivial (sl_okt hok.2.1))) H locs ls hP hS hl
      simp only [sl_cA, Bool.and_eq_true, decide_eq_true_eq] at hk
      obtain ⟨rfl, rfl⟩ := hk
      exact lv_i2s hx hb hd rfl K2
    · cases hst
  · split at hst
    · rename_i y x st0
      obtain ⟨rfl, rfl, rfl, rfl⟩ := sl_snx hst
      have K2 := K (sl_ok_st hok (sl_okc trivial (sl_okt (sl_okt hok.2.1)))) H locs ls hP hS hl
      simp only [sl_cA, Bool.and_eq_true, decide_eq_true_eq] at hk
      obtain ⟨rfl, hk⟩ := hk
      split at hk
      all_goals (first | (obtain rfl := of_decide_eq_true hk) | cases hk)
      · exact lv_lmul hx hb hd K2
      · exact lv_lsub hx hb hd K2
      · exact lv_land hx hb hd K2
      · exact lv_lor hx hb hd K2
    · cases hst
  · split at hst
    · rename_i y x st0
      split at hst
      · cases hst
      · rename_i h1
        obtain ⟨rfl, rfl, rfl, rfl⟩ := sl_snx hst
        have K2 := K (sl_ok_st hok (sl_okc trivial (sl_okt (sl_okt hok.2.1)))) H locs ls hP hS hl
        simp only [sl_cA, Bool.and_eq_true, decide_eq_true_eq] at hk
        obtain ⟨rfl, rfl⟩ := hk
        exact lv_ldiv hx hb hd h1 K2
    · cases hst
  · split at hst
    · rename_i y x st0
      obtain ⟨rfl, rfl, rfl, rfl⟩ := sl_snx hst
      have K2 := K (sl_ok_st hok (sl_okc trivial (sl_okt (sl_okt hok.2.1)))) H locs ls hP hS hl
      simp only [sl_cA, Bool.and_eq_true, Bool.or_eq_true, decide_eq_true_eq] at hk
      obtain ⟨rfl, ⟨rfl, rfl⟩ | ⟨rfl, rfl⟩⟩ := hk
      · exact lv_lshl hx hb hd rfl K2
      · exact lv_lshr hx hb hd rfl K2
    · cases hst
  · split at hst
    · rename_i x st0
      obtain ⟨rfl, rfl, rfl, rfl⟩ := sl_snx hst
      have K2 := K (sl_ok_st hok (sl_okc trivial (sl_okt hok.2.1))) H locs ls hP hS hl
      simp only [sl_cA, Bool.and_eq_true, decide_eq_true_eq] at hk
      obtain ⟨rfl, rfl⟩ := hk
      exact lv_lneg hx hb hd K2
    · cases hst
  · split at hst
    · rename_i y x st0
      obtain ⟨rfl, rfl, rfl, rfl⟩ := sl_snx hst
      have K2 := K (sl_ok_st hok (sl_okc trivial (sl_okt (sl_okt hok.2.1)))) H locs ls hP hS hl
      simp only [sl_cA, Bool.and_eq_true, decide_eq_true_eq] at hk
      obtain ⟨rfl, rfl⟩ := hk
      exact W.lcmp hx hb hd K2
    · cases hst
  · obtain ⟨rfl, rfl, rfl, rfl⟩ := sl_snx hst
    have K2 := K (sl_ok_st hok (sl_okc trivial hok.2.1)) H locs ls hP hS hl
    simp only [sl_cA, Bool.or_eq_true, Bool.and_eq_true, decide_eq_true_eq] at hk
    rcases hk with ⟨⟨rfl, rfl⟩, rfl⟩ | ⟨⟨rfl, rfl⟩, h3⟩
    · exact lv_lconst hx hb hd rfl K2
    · exact lv_ldc2 hx hb hown (hts _ h3) hd K2
  · cases hst
end SND
