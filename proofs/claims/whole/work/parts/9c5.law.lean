set_option maxHeartbeats 20000000 in
set_option maxRecDepth 100000 in
theorem whole_start {p : Program} {e : Env} {s : State} {m : MethodId} {below : List Frame} {meth : Method} {c : Code} (l : Launch) (hflags : l.flags = flags0) {b L : Nat} {xs : Nat → Int32} (hL : L ≤ 384) (C0 : lw_At p s m meth c b L xs) : W p l e room_1 s m #[Value.ref b] below meth c s.heap [] 0 0 (lw_Z below #[Value.ref b] s) (entryFrame m ([Value.ref b] : List Value).toArray 4) := by
  obtain ⟨hx, hb, hr, hml, hown, hts0, hX, hbl, hlocks, hgv⟩ := id C0
  have hts : ∀ w ∈ lw_tbl, w.before #[Value.ref b] s = true := hts0
  obtain ⟨D, hKc⟩ := ct_known hts
  refine ct_walk l C0 hKc (A := fun q : Nat => s.heap.size ≤ q) (fun _ h => h) ?_
  intro q1 q1_2 q1_2_2 q2_2_2 q3_2_2 q4_2_2 q5_2_2 q7_2_2 q9_2_2 q11_2_2 q13_2_2 q15_2_2 q1_16_2_2 q2_16_2_2 q17_2_2 q1_18_2_2 q2_18_2_2 q19_2_2 q1_20_2_2 q2_20_2_2 q21_2_2 q1_22_2_2 q2_22_2_2 q23_2_2 q1_24_2_2 q2_24_2_2 q25_2_2 q1_26_2_2 q2_26_2_2 q3_2 q1_4_2 q2_4_2 q3_4_2 q4_4_2 q5_4_2 q6_4_2 q7_4_2 q5_2 q1_6_2 q2_6_2 q3_6_2 q4_6_2 q5_6_2 q6_6_2 q7_6_2 q7_2 q1_8_2 q2_8_2 q3_8_2 q4_8_2 q5_8_2 q6_8_2 q7_8_2 q9_2 q1_10_2 q11_2 q1_12_2 q2_12_2 q3_12_2 q13_2 q14_2 q15_2 q1_16_2 q17_2 q1_18_2 q19_2 q1_20_2 q21_2 q1_22_2 q23_2 q1_24_2 q25_2 q1_26_2 q27_2 q1_28_2 q29_2 q1_30_2 q31_2 q1_32_2 q33_2 q1_34_2 q35_2 q1_36_2 q37_2 q1_38_2 q3 q1_4 q2_4 q3_4 q4_4 q5_4 q6_4 q7_4 q8_4 q9_4 q10_4 q11_4 q12_4 q13_4 q14_4 q15_4 q16_4 q17_4 q18_4 q19_4 q20_4 q21_4 q22_4 q23_4 q24_4 q25_4 q26_4 q27_4 q28_4 q29_4 q30_4 q31_4 q32_4 q33_4 q34_4 q35_4 r1_4_2 r2_4_2 r1_6_2 r2_6_2 r1_8_2 r2_8_2 c1_2_2 c2_2_2 c4_2_2 c1_4_2 c1_10_2 c13_2 c14_2 c11_4 H locs ls hK hP hD hS hl
  by_cases hL0 : L = 0
  · subst hL0
    refine lv_iload_n hx hb dL_law_18 rfl (lv_at hl 0 rfl) ?_
    refine lv_aload_n hx hb dL_law_19 rfl (lv_at hl 3 rfl) ?_
    refine va_slen hx hb hX hbl (Nat.not_le.mpr hbl) hS dL_law_20 ?_
    refine lv_bipush (v := 6) hx hb dL_law_21 (by decide) ?_
    refine lv_isub hx hb dL_law_23 ?_
    refine lv_icmp_gt (tgt := 1412) hx hb dL_law_24 (by decide) (fun _ => ?_) (fun h => absurd (by decide) h)
    refine lv_iconst (v := 1) hx hb dL_law_1412 (by decide) ?_
    refine va_forget (fun q hq => hS.2.2 q hq) ?_
    refine W.widen (k := 600000) (n := 7302250) (Nat.le_of_ble_eq_true rfl) (Nat.le_of_ble_eq_true rfl) ?_
    exact lw_ret hx hb hr hlocks dL_law_1413
  · obtain ⟨f, hf⟩ := ct_stat (A := fun q : Nat => s.heap.size ≤ q) hgv hts0 (fun a h => Nat.not_le.mpr h)
    obtain ⟨ad, hro, e0, e40, hPs, hinj, hAd⟩ := ct_world (fun k => if k = 99 then b else f (k - 90)) q1 q1_2 q1_2_2 q2_2_2 q3_2_2 q4_2_2 q5_2_2 q7_2_2 q9_2_2 q11_2_2 q13_2_2 q15_2_2 q1_16_2_2 q2_16_2_2 q17_2_2 q1_18_2_2 q2_18_2_2 q19_2_2 q1_20_2_2 q2_20_2_2 q21_2_2 q1_22_2_2 q2_22_2_2 q23_2_2 q1_24_2_2 q2_24_2_2 q25_2_2 q1_26_2_2 q2_26_2_2 q3_2 q1_4_2 q2_4_2 q3_4_2 q4_4_2 q5_4_2 q6_4_2 q7_4_2 q5_2 q1_6_2 q2_6_2 q3_6_2 q4_6_2 q5_6_2 q6_6_2 q7_6_2 q7_2 q1_8_2 q2_8_2 q3_8_2 q4_8_2 q5_8_2 q6_8_2 q7_8_2 q9_2 q1_10_2 q11_2 q1_12_2 q2_12_2 q3_12_2 q13_2 q14_2 q15_2 q1_16_2 q17_2 q1_18_2 q19_2 q1_20_2 q21_2 q1_22_2 q23_2 q1_24_2 q25_2 q1_26_2 q27_2 q1_28_2 q29_2 q1_30_2 q31_2 q1_32_2 q33_2 q1_34_2 q35_2 q1_36_2 q37_2 q1_38_2 q3 q1_4 q2_4 q3_4 q4_4 q5_4 q6_4 q7_4 q8_4 q9_4 q10_4 q11_4 q12_4 q13_4 q14_4 q15_4 q16_4 q17_4 q18_4 q19_4 q20_4 q21_4 q22_4 q23_4 q24_4 q25_4 q26_4 q27_4 q28_4 q29_4 q30_4 q31_4 q32_4 q33_4 q34_4 q35_4 r1_4_2 r2_4_2 r1_6_2 r2_6_2 r1_8_2 r2_8_2 c1_2_2 c2_2_2 c4_2_2 c1_4_2 c1_10_2 c13_2 c14_2 c11_4 hP hD
    have hsub : ∀ q, sl_A ad q → s.heap.size ≤ q := fun q hq => by
      obtain ⟨r, hr1, rfl⟩ := hq
      exact hAd r hr1
    have hRo : sl_Ro ad xs L s s.heap := ct_Ro (A := fun q : Nat => s.heap.size ≤ q) hX hsub (Nat.not_le.mpr hbl) hro hf
    have hKs : va_K D vwCl (sl_tys (ct_cA c2_2_2 c1_10_2 c11_4 c1_4_2 c1_2_2 c4_2_2 c13_2 c14_2)) s := hK.sub [1, 4, 7, 3, 0, 2, 5, 6] rfl
    have hnest : ∀ q, q ∈ sl_nest → va_Nw (.methodLinkNest q.1 q.2 yX9_within "SloshTank") s := by
      intro q hq
      simp only [sl_nest, List.mem_cons, List.mem_nil_iff, or_false] at hq
      rcases hq with rfl | rfl | rfl
      · exact va_Nw.of rfl (hts0 (.methodLinkNest "SloshTank$Kind" 9 yX9_within "SloshTank") (List.mem_of_getElem? (i := 403) rfl))
      · exact va_Nw.of rfl (hts0 (.methodLinkNest "SloshTank$Rig" 42 yX9_within "SloshTank") (List.mem_of_getElem? (i := 406) rfl))
      · exact va_Nw.of rfl (hts0 (.methodLinkNest "SloshTank$Tank" 18 yX9_within "SloshTank") (List.mem_of_getElem? (i := 419) rfl))
    have hC : sl_C p s m #[Value.ref b] c D (ct_cA c2_2_2 c1_10_2 c11_4 c1_4_2 c1_2_2 c4_2_2 c13_2 c14_2) ad xs L yL_law.cls cL_law (sl_ml 160) := ⟨hx, hb, hml, fun w h => hts0 w (List.mem_filter.mp h).1, hown, hKs, hinj, hRo, hnest⟩
    obtain ⟨n, u, hrun, hu⟩ := lw_loop (xs := xs) (N := L) (by omega) hL0 (L + 1) 0 ct_s0 (by omega) (Nat.zero_le L) ct_jA
    have hS2 : va_S (sl_A ad) s.heap H [] := ⟨hS.1, fun q h1 _ => hS.2.1 q h1 (Nat.not_le.mpr h1), fun q h => absurd h List.not_mem_nil⟩
    have e99 : ad (99, 0, 0) = b := (hro 99 (by omega)).trans (if_pos rfl)
    have hl2 : lv_has ls 4 [(0, .ref (ad (99, 0, 0))), (1, .ref (ad (0, 0, 0))), (2, .ref (ad (40, 0, 0))), (3, .int 0)] := by
      rw [e99, e0, e40]
      exact lv_sub hl [3, 2, 1, 0] rfl
    refine va_forget (fun q hq => hS.2.2 q hq) ?_
    refine sl_sound xs L l n 160 18 _ [] ct_s0 u hrun (yL_law, cL_law, 4, some .boolean, 8, 300, false, 1) rfl p e room_1 s m #[Value.ref b] below meth c 151 2736 _ hC (Nat.le_of_ble_eq_true rfl) (Nat.le_of_ble_eq_true rfl) (Nat.le_of_ble_eq_true rfl) (Nat.le_of_ble_eq_true rfl) ct_ok ?_ H [] ls hPs hS2 hl2
    intro pc' H' locs' ls' hf9 hP9 hS9
    have hu : u.1 = some (.inl 1) := hu
    rw [hu] at hf9 ⊢
    obtain ⟨x, h1, -, hdg⟩ := hf9
    refine va_forget (fun q hq => hsub _ (hS9.2.2 q hq)) ?_
    refine W.widen (k := 600000) (n := 7302250) (Nat.le_of_ble_eq_true rfl) (Nat.le_of_ble_eq_true rfl) ?_
    exact lw_ret hx hb hr hlocks hdg
set_option maxHeartbeats 4000000 in
theorem lw_walk (l : Launch) (hflags : l.flags = flags0) (b : Addr) (xs : List Int32) : MetFree l x (headSpec (Jvm.Cond.code x code maxLocals ret :: tables_1) room_1) (lw_P b xs) (fun _ _ _ _ _ => True) lw_Q := by
  refine MetFree.of_bodyS (code := code) (maxLocals := maxLocals) (ret := ret) (by decide) ?_ ?_
  · intro args s m h hn
    obtain ⟨meth, c, h1, h2, h3, h4, h5, h6, -, -⟩ := Cond.code_spec hn (atoms_spec (ws := Jvm.Cond.code x code maxLocals ret :: tables_1) h _ List.mem_cons_self)
    exact ⟨meth, c, h1, h2, h3, h4, h5, h6⟩
  · intro p e s m args below meth c s₁ B hml0 hP _
    obtain ⟨rfl, hx, hbd, hgv⟩ := hP
    obtain ⟨scr, harrAt, hlist, hof, hsmall⟩ := hx
    obtain ⟨hcb, hkn, -, -⟩ := State.arrayAt?_spec harrAt
    have hown : s.vm.findClass R_law = some m.cls := findClass_of_methodNamed B.named
    have hts0 : ∀ c ∈ (Jvm.Cond.code x code maxLocals ret :: tables_1), c.before #[Value.ref b] s = true := atoms_spec (ws := Jvm.Cond.code x code maxLocals ret :: tables_1) B.pre
    have hts : ∀ w ∈ lw_tbl, w.before #[Value.ref b] s = true := k2_hts_sels lw_privs (fun w hw => hts0 w (List.mem_cons_of_mem _ hw)) lw_privs_ok
    have hml : c.maxLocals = 4 := B.maxLocals_eq (hts0 _ List.mem_cons_self)
    have X₀ : Stand p l e room_1 s m #[Value.ref b] below meth c s₁ [] 0 0 := Stand.of_body B
    have hh0 : s₁.heap = s.heap := by rw [B.state]; rfl
    have hsz : scr.slots.size = xs.length := by rw [← Array.length_toList, hlist, List.length_map]
    have hval : ∀ j : Nat, j < xs.length → scr.slots[j]? = some (.int (xs.getD j 0)) := fun j hj => by
      rw [← Array.getElem?_toList, hlist]
      simp [hj]
    have hbl : b < s.heap.size := (Array.getElem?_eq_some_iff.mp hcb).1
    have hX : va_X b xs.length (fun j => xs.getD j 0) s s.heap := ⟨scr, hcb, hof, hkn, hsz, hval⟩
    have K : W p l e room_1 s m #[Value.ref b] below meth c s₁.heap [] 0 0 (lw_Z below #[Value.ref b] s) (entryFrame m ([Value.ref b] : List Value).toArray 4) := by
      rw [hh0]
      exact whole_start l hflags hbd ⟨B.exec, B.bytes, B.returns, hml, hown, hts, hX, hbl, B.notSynchronized, hgv⟩
    obtain ⟨t, a1, o, b1, b2, b3⟩ := K s₁ rfl X₀
    exact ⟨t, o, a1, b1, b2, b3⟩
theorem lw_pre_spec {args : Array Value} {s : State} (h : (Jvm.Cond.and given_1 narrow_1).before args s = true) (hr : rest_1_c.before args s = true) : ∃ (b : Addr) (xs : List Int32), lw_P b xs args s := by
  have hs := flat_of_before _ h
  have hq := flat_of_before _ hr
  have hc : (Cond.count 1).before args s = true := hs _ (by decide +kernel)
  have harr : (Cond.arrayOf (.arg 0) .int).before args s = true := hs _ (by decide +kernel)
  have hle : (Cond.le (.length (.arg 0)) (.int 384)).before args s = true := hs _ (by decide +kernel)
  have hlen : (Cond.isInt (.length (.arg 0))).before args s = true := hq _ (by decide +kernel)
  have hall : (Cond.all (.arg 0) (.isInt (.elem (.arg 0) (.index 0)))).before args s = true := hq _ (by decide +kernel)
  obtain ⟨b, xs, hb, hx⟩ := State.ints_of_pre rfl harr hlen hall
  have hsm : xs.length < 2 ^ 31 := hx.choose_spec.2.2.2
  have hev : (Term.length (.arg 0)).eval args s none [] s = some (.int xs.length.toInt32) := hx.length_eval hb
  have hv := Cond.le_ints hev (show (Term.int 384).eval args s none [] s = some (.int 384) from rfl)
  have hd : xs.length.toInt32 ≤ 384 := by
    simpa [Cond.before, Cond.holds, hv] using hle
  have hN : xs.length ≤ 384 := (Int32.ofNat_le_ofNat hsm (by decide)).mp (show Int32.ofNat xs.length ≤ Int32.ofNat 384 from hd)
  exact ⟨b, xs, Cond.one_arg hc (show args[0]? = some (.ref b) from hb), hx, hN, h⟩
theorem lw_comes (l : Launch) (hflags : l.flags = flags0) : Comes l x (Jvm.Cond.code x code maxLocals ret :: tables_1) room_1 (fun tb e args s => Calls_1 tb e args s ∧ rest_1 tb e args s ∧ Pre_1 tb e args s)
    (fun _ _ args s o t => lw_Q args s o t) := by
  intro p e ha hc hk s m args below hf hfit hheap happ hpre
  obtain ⟨b, xs, hP⟩ := lw_pre_spec hpre.2.2 hpre.2.1
  obtain ⟨k, o, h1, h2, h3, hQ⟩ := lw_walk l hflags b xs p e ha hc hk s m args below hf ((Spec.applies_iff_loose hf).mp happ).1 hP trivial
  exact ⟨k, o, h1, h2, h3, hQ⟩
theorem lw_frame {s t : State} {o : Outcome} {args : Array Value} (h : Framed s o t [] 600000 7302250) :
    Framed s o t (fieldLocs frame_1_writes args s ++ arrayLocs frame_1_arrays args s ++ staticLocs frame_1_statics s) 600000 7302250 := h
theorem lw_limb (L : Cond) (hL : ∀ (args : Array Value) (s t : State), L.after args s (.returned (some (.int 1))) t = true) :
    ArmFor flags0 classFile x code maxLocals ret World_1 tables_1 room_1 Calls_1 rest_1 Pre_1
      (fun tb e a s o t => postC L tb e a s o t ∧ Framed s o t (fieldLocs frame_1_writes a s ++ arrayLocs frame_1_arrays a s ++ staticLocs frame_1_statics s) 600000 7302250) := by
  intro l hflags _ _ p e ha hc hk s m args below hf hfit hheap happ hpre
  obtain ⟨k, o, h1, h2, h3, rfl, hF⟩ := lw_comes l hflags p e ha hc hk s m args below hf hfit hheap happ hpre
  exact ⟨k, _, h1, h2, h3, hL args s _, lw_frame hF⟩
theorem i_vc : Claimed_1_1 ∧ Claimed_1_2 := ⟨lw_limb limb_1_1 (fun args s t => by simp [limb_1_1, Cond.after, Cond.holds, Cond.value]), lw_limb limb_1_2 (fun args s t => Cond.after_iff.mpr (by
  first | (rw [show limb_1_2 = Cond.eq .result (.int 1) from rfl, Cond.eq_ints (x := 1) (y := 1) rfl rfl]; simp; done) | (simp [limb_1_2, Cond.value, Term.eval]; done)))⟩
