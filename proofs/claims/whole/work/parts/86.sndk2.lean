def sl_chk (own : String) (bytes : ByteArray) (ret : Option FieldType) (fr lo : Nat) (pc nx : Nat) (e : sl_E) : Bool := match decode bytes pc with
  | .ok (i, len) => if e.1 < 100 then decide (nx = pc + len) && sl_cA own i len e.1 e.2.1 e.2.2.1 e.2.2.2
    else if e.1 < 200 then decide (nx = pc + len) && (sl_cB own i len (e.1 - 100) e.2.1 e.2.2.1 e.2.2.2 && decide (10 ≤ e.1 - 100 → 1 ≤ fr ∧ 48 ≤ lo))
    else sl_cC own i len pc nx (e.1 - 200) e.2.1 e.2.2.1 e.2.2.2 (sl_sw e.2.2.1) ret fr lo
  | .error _ => false
def sl_mk (m : sl_M) (tb : List (Nat × List (Nat × Nat × sl_E))) : Bool := tb.all (fun ch => ch.2.all (fun e => sl_chk m.1.cls m.2.1 m.2.2.2.1 m.2.2.2.2.1 m.2.2.2.2.2.1 e.1 e.2.1 e.2.2))
def sl_mk1 (m : sl_M) (l : List (Nat × Nat × sl_E)) : Bool := l.all (fun e => sl_chk m.1.cls m.2.1 m.2.2.2.1 m.2.2.2.2.1 m.2.2.2.2.2.1 e.1 e.2.1 e.2.2)
theorem sl_mk_nil (m : sl_M) : sl_mk m [] = true := rfl
theorem sl_mk_cons {m : sl_M} {h : Nat} {c : List (Nat × Nat × sl_E)} {l : List (Nat × List (Nat × Nat × sl_E))} (h1 : sl_mk1 m c = true) (h2 : sl_mk m l = true) : sl_mk m ((h, c) :: l) = true := by
  unfold sl_mk at h2 ⊢
  rw [List.all_cons, Bool.and_eq_true]
  exact ⟨h1, h2⟩
set_option maxRecDepth 100000 in
theorem sl_k0_0 : sl_mk1 (yX0_search, cX0_search, 5, (some .int), 2, 72, false, 1) sl_t0_0 = true := by decide +kernel
set_option maxRecDepth 100000 in
theorem sl_k0_1 : sl_mk1 (yX0_search, cX0_search, 5, (some .int), 2, 72, false, 1) sl_t0_1 = true := by decide +kernel
theorem sl_k0 : sl_mk (yX0_search, cX0_search, 5, (some .int), 2, 72, false, 1) (sl_tb 0) = true := (sl_mk_cons sl_k0_0 (sl_mk_cons sl_k0_1 (sl_mk_nil _)))
set_option maxRecDepth 100000 in
theorem sl_k1_0 : sl_mk1 (yX0_farFromEven, cX0_farFromEven, 5, (some .int), 1, 48, false, 1) sl_t1_0 = true := by decide +kernel
set_option maxRecDepth 100000 in
theorem sl_k1_1 : sl_mk1 (yX0_farFromEven, cX0_farFromEven, 5, (some .int), 1, 48, false, 1) sl_t1_1 = true := by decide +kernel
theorem sl_k1 : sl_mk (yX0_farFromEven, cX0_farFromEven, 5, (some .int), 1, 48, false, 1) (sl_tb 1) = true := (sl_mk_cons sl_k1_0 (sl_mk_cons sl_k1_1 (sl_mk_nil _)))
set_option maxRecDepth 100000 in
theorem sl_k2_0 : sl_mk1 (yX0_nextOrder, cX0_nextOrder, 6, (some .boolean), 1, 23, false, 1) sl_t2_0 = true := by decide +kernel
set_option maxRecDepth 100000 in
theorem sl_k2_1 : sl_mk1 (yX0_nextOrder, cX0_nextOrder, 6, (some .boolean), 1, 23, false, 1) sl_t2_1 = true := by decide +kernel
set_option maxRecDepth 100000 in
theorem sl_k2_2 : sl_mk1 (yX0_nextOrder, cX0_nextOrder, 6, (some .boolean), 1, 23, false, 1) sl_t2_2 = true := by decide +kernel
theorem sl_k2 : sl_mk (yX0_nextOrder, cX0_nextOrder, 6, (some .boolean), 1, 23, false, 1) (sl_tb 2) = true := (sl_mk_cons sl_k2_0 (sl_mk_cons sl_k2_1 (sl_mk_cons sl_k2_2 (sl_mk_nil _))))
set_option maxRecDepth 100000 in
theorem sl_k3_0 : sl_mk1 (yX0_swap, cX0_swap, 4, none, 0, 0, false, 2) sl_t3_0 = true := by decide +kernel
theorem sl_k3 : sl_mk (yX0_swap, cX0_swap, 4, none, 0, 0, false, 2) (sl_tb 3) = true := (sl_mk_cons sl_k3_0 (sl_mk_nil _))
set_option maxRecDepth 100000 in
theorem sl_k4_0 : sl_mk1 (yX1_exists, cX1_exists, 1, (some .boolean), 1, 22, true, 1) sl_t4_0 = true := by decide +kernel
theorem sl_k4 : sl_mk (yX1_exists, cX1_exists, 1, (some .boolean), 1, 22, true, 1) (sl_tb 4) = true := (sl_mk_cons sl_k4_0 (sl_mk_nil _))
set_option maxRecDepth 100000 in
theorem sl_k5_0 : sl_mk1 (yX1_damp, cX1_damp, 1, (some .int), 0, 0, true, 1) sl_t5_0 = true := by decide +kernel
theorem sl_k5 : sl_mk (yX1_damp, cX1_damp, 1, (some .int), 0, 0, true, 1) (sl_tb 5) = true := (sl_mk_cons sl_k5_0 (sl_mk_nil _))
set_option maxRecDepth 100000 in
theorem sl_k6_0 : sl_mk1 (yX1_through, cX1_through, 1, (some .int), 0, 0, true, 1) sl_t6_0 = true := by decide +kernel
theorem sl_k6 : sl_mk (yX1_through, cX1_through, 1, (some .int), 0, 0, true, 1) (sl_tb 6) = true := (sl_mk_cons sl_k6_0 (sl_mk_nil _))
set_option maxRecDepth 100000 in
theorem sl_k7_0 : sl_mk1 (yX1_push, cX1_push, 3, (some .int), 0, 0, true, 2) sl_t7_0 = true := by decide +kernel
theorem sl_k7 : sl_mk (yX1_push, cX1_push, 3, (some .int), 0, 0, true, 2) (sl_tb 7) = true := (sl_mk_cons sl_k7_0 (sl_mk_nil _))
set_option maxRecDepth 100000 in
theorem sl_k8_0 : sl_mk1 (yX1_hasLid, cX1_hasLid, 1, (some .boolean), 0, 0, true, 1) sl_t8_0 = true := by decide +kernel
theorem sl_k8 : sl_mk (yX1_hasLid, cX1_hasLid, 1, (some .boolean), 0, 0, true, 1) (sl_tb 8) = true := (sl_mk_cons sl_k8_0 (sl_mk_nil _))
set_option maxRecDepth 100000 in
theorem sl_k9_0 : sl_mk1 (yX1_isOne, cX1_isOne, 4, (some .boolean), 2, 42, true, 2) sl_t9_0 = true := by decide +kernel
theorem sl_k9 : sl_mk (yX1_isOne, cX1_isOne, 4, (some .boolean), 2, 42, true, 2) (sl_tb 9) = true := (sl_mk_cons sl_k9_0 (sl_mk_nil _))
set_option maxRecDepth 100000 in
theorem sl_k10_0 : sl_mk1 (yX2_become, cX2_become, 3, none, 1, 48, false, 1) sl_t10_0 = true := by decide +kernel
set_option maxRecDepth 100000 in
theorem sl_k10_1 : sl_mk1 (yX2_become, cX2_become, 3, none, 1, 48, false, 1) sl_t10_1 = true := by decide +kernel
set_option maxRecDepth 100000 in
theorem sl_k10_2 : sl_mk1 (yX2_become, cX2_become, 3, none, 1, 48, false, 1) sl_t10_2 = true := by decide +kernel
set_option maxRecDepth 100000 in
theorem sl_k10_3 : sl_mk1 (yX2_become, cX2_become, 3, none, 1, 48, false, 1) sl_t10_3 = true := by decide +kernel
theorem sl_k10 : sl_mk (yX2_become, cX2_become, 3, none, 1, 48, false, 1) (sl_tb 10) = true := (sl_mk_cons sl_k10_0 (sl_mk_cons sl_k10_1 (sl_mk_cons sl_k10_2 (sl_mk_cons sl_k10_3 (sl_mk_nil _)))))
set_option maxRecDepth 100000 in
theorem sl_k11_0 : sl_mk1 (yX2_amount, cX2_amount, 4, (some .int), 0, 0, false, 1) sl_t11_0 = true := by decide +kernel
theorem sl_k11 : sl_mk (yX2_amount, cX2_amount, 4, (some .int), 0, 0, false, 1) (sl_tb 11) = true := (sl_mk_cons sl_k11_0 (sl_mk_nil _))
set_option maxRecDepth 100000 in
theorem sl_k12_0 : sl_mk1 (yX2_settle, cX2_settle, 5, none, 0, 0, false, 2) sl_t12_0 = true := by decide +kernel
set_option maxRecDepth 100000 in
theorem sl_k12_1 : sl_mk1 (yX2_settle, cX2_settle, 5, none, 0, 0, false, 2) sl_t12_1 = true := by decide +kernel
theorem sl_k12 : sl_mk (yX2_settle, cX2_settle, 5, none, 0, 0, false, 2) (sl_tb 12) = true := (sl_mk_cons sl_k12_0 (sl_mk_cons sl_k12_1 (sl_mk_nil _)))
set_option maxRecDepth 100000 in
theorem sl_k13_0 : sl_mk1 (yX2_setOut, cX2_setOut, 2, none, 0, 0, false, 1) sl_t13_0 = true := by decide +kernel
theorem sl_k13 : sl_mk (yX2_setOut, cX2_setOut, 2, none, 0, 0, false, 1) (sl_tb 13) = true := (sl_mk_cons sl_k13_0 (sl_mk_nil _))
set_option maxRecDepth 100000 in
theorem sl_k14_0 : sl_mk1 (yX2_passTicks, cX2_passTicks, 3, none, 4, 127, false, 1) sl_t14_0 = true := by decide +kernel
theorem sl_k14 : sl_mk (yX2_passTicks, cX2_passTicks, 3, none, 4, 127, false, 1) (sl_tb 14) = true := (sl_mk_cons sl_k14_0 (sl_mk_nil _))
set_option maxRecDepth 100000 in
theorem sl_k15_0 : sl_mk1 (yX2_passTick, cX2_passTick, 2, none, 3, 106, false, 0) sl_t15_0 = true := by decide +kernel
set_option maxRecDepth 100000 in
theorem sl_k15_1 : sl_mk1 (yX2_passTick, cX2_passTick, 2, none, 3, 106, false, 0) sl_t15_1 = true := by decide +kernel
theorem sl_k15 : sl_mk (yX2_passTick, cX2_passTick, 2, none, 3, 106, false, 0) (sl_tb 15) = true := (sl_mk_cons sl_k15_0 (sl_mk_cons sl_k15_1 (sl_mk_nil _)))
set_option maxRecDepth 100000 in
theorem sl_k16_0 : sl_mk1 (yX2_steer, cX2_steer, 2, none, 2, 43, false, 0) sl_t16_0 = true := by decide +kernel
set_option maxRecDepth 100000 in
theorem sl_k16_1 : sl_mk1 (yX2_steer, cX2_steer, 2, none, 2, 43, false, 0) sl_t16_1 = true := by decide +kernel
theorem sl_k16 : sl_mk (yX2_steer, cX2_steer, 2, none, 2, 43, false, 0) (sl_tb 16) = true := (sl_mk_cons sl_k16_0 (sl_mk_cons sl_k16_1 (sl_mk_nil _)))
set_option maxRecDepth 100000 in
theorem sl_k17_0 : sl_mk1 (yX2_swing, cX2_swing, 9, none, 2, 78, false, 1) sl_t17_0 = true := by decide +kernel
set_option maxRecDepth 100000 in
theorem sl_k17_1 : sl_mk1 (yX2_swing, cX2_swing, 9, none, 2, 78, false, 1) sl_t17_1 = true := by decide +kernel
set_option maxRecDepth 100000 in
theorem sl_k17_2 : sl_mk1 (yX2_swing, cX2_swing, 9, none, 2, 78, false, 1) sl_t17_2 = true := by decide +kernel
set_option maxRecDepth 100000 in
theorem sl_k17_3 : sl_mk1 (yX2_swing, cX2_swing, 9, none, 2, 78, false, 1) sl_t17_3 = true := by decide +kernel
theorem sl_k17 : sl_mk (yX2_swing, cX2_swing, 9, none, 2, 78, false, 1) (sl_tb 17) = true := (sl_mk_cons sl_k17_0 (sl_mk_cons sl_k17_1 (sl_mk_cons sl_k17_2 (sl_mk_cons sl_k17_3 (sl_mk_nil _)))))
set_option maxRecDepth 100000 in
theorem sl_k18_0 : sl_mk1 (yX2_pour, cX2_pour, 11, none, 1, 48, false, 2) sl_t18_0 = true := by decide +kernel
set_option maxRecDepth 100000 in
theorem sl_k18_1 : sl_mk1 (yX2_pour, cX2_pour, 11, none, 1, 48, false, 2) sl_t18_1 = true := by decide +kernel
set_option maxRecDepth 100000 in
theorem sl_k18_2 : sl_mk1 (yX2_pour, cX2_pour, 11, none, 1, 48, false, 2) sl_t18_2 = true := by decide +kernel
set_option maxRecDepth 100000 in
theorem sl_k18_3 : sl_mk1 (yX2_pour, cX2_pour, 11, none, 1, 48, false, 2) sl_t18_3 = true := by decide +kernel
theorem sl_k18 : sl_mk (yX2_pour, cX2_pour, 11, none, 1, 48, false, 2) (sl_tb 18) = true := (sl_mk_cons sl_k18_0 (sl_mk_cons sl_k18_1 (sl_mk_cons sl_k18_2 (sl_mk_cons sl_k18_3 (sl_mk_nil _)))))
set_option maxRecDepth 100000 in
theorem sl_k19_0 : sl_mk1 (yX2_suck, cX2_suck, 6, none, 1, 48, false, 1) sl_t19_0 = true := by decide +kernel
set_option maxRecDepth 100000 in
theorem sl_k19_1 : sl_mk1 (yX2_suck, cX2_suck, 6, none, 1, 48, false, 1) sl_t19_1 = true := by decide +kernel
set_option maxRecDepth 100000 in
theorem sl_k19_2 : sl_mk1 (yX2_suck, cX2_suck, 6, none, 1, 48, false, 1) sl_t19_2 = true := by decide +kernel
theorem sl_k19 : sl_mk (yX2_suck, cX2_suck, 6, none, 1, 48, false, 1) (sl_tb 19) = true := (sl_mk_cons sl_k19_0 (sl_mk_cons sl_k19_1 (sl_mk_cons sl_k19_2 (sl_mk_nil _))))
set_option maxRecDepth 100000 in
theorem sl_k20_0 : sl_mk1 (yX2_moment, cX2_moment, 5, (some .int), 0, 0, false, 0) sl_t20_0 = true := by decide +kernel
set_option maxRecDepth 100000 in
theorem sl_k20_1 : sl_mk1 (yX2_moment, cX2_moment, 5, (some .int), 0, 0, false, 0) sl_t20_1 = true := by decide +kernel
theorem sl_k20 : sl_mk (yX2_moment, cX2_moment, 5, (some .int), 0, 0, false, 0) (sl_tb 20) = true := (sl_mk_cons sl_k20_0 (sl_mk_cons sl_k20_1 (sl_mk_nil _)))
set_option maxRecDepth 100000 in
theorem sl_k21_0 : sl_mk1 (yX2_pull, cX2_pull, 1, (some .int), 1, 24, false, 0) sl_t21_0 = true := by decide +kernel
theorem sl_k21 : sl_mk (yX2_pull, cX2_pull, 1, (some .int), 1, 24, false, 0) (sl_tb 21) = true := (sl_mk_cons sl_k21_0 (sl_mk_nil _))
set_option maxRecDepth 100000 in
theorem sl_k22_0 : sl_mk1 (yX3_take, cX3_take, 5, none, 1, 48, false, 4) sl_t22_0 = true := by decide +kernel
theorem sl_k22 : sl_mk (yX3_take, cX3_take, 5, none, 1, 48, false, 4) (sl_tb 22) = true := (sl_mk_cons sl_k22_0 (sl_mk_nil _))
set_option maxRecDepth 100000 in
theorem sl_k23_0 : sl_mk1 (yX4_hasTank, cX4_hasTank, 2, (some .boolean), 1, 22, false, 1) sl_t23_0 = true := by decide +kernel
theorem sl_k23 : sl_mk (yX4_hasTank, cX4_hasTank, 2, (some .boolean), 1, 22, false, 1) (sl_tb 23) = true := (sl_mk_cons sl_k23_0 (sl_mk_nil _))
set_option maxRecDepth 100000 in
theorem sl_k24_0 : sl_mk1 (yX4_hasMouth, cX4_hasMouth, 2, (some .boolean), 1, 22, false, 1) sl_t24_0 = true := by decide +kernel
theorem sl_k24 : sl_mk (yX4_hasMouth, cX4_hasMouth, 2, (some .boolean), 1, 22, false, 1) (sl_tb 24) = true := (sl_mk_cons sl_k24_0 (sl_mk_nil _))
set_option maxRecDepth 100000 in
theorem sl_k25_0 : sl_mk1 (yX4_hasWay, cX4_hasWay, 2, (some .boolean), 1, 22, false, 1) sl_t25_0 = true := by decide +kernel
theorem sl_k25 : sl_mk (yX4_hasWay, cX4_hasWay, 2, (some .boolean), 1, 22, false, 1) (sl_tb 25) = true := (sl_mk_cons sl_k25_0 (sl_mk_nil _))
set_option maxRecDepth 100000 in
theorem sl_k26_0 : sl_mk1 (yX4_addTank, cX4_addTank, 6, (some .int), 2, 42, false, 4) sl_t26_0 = true := by decide +kernel
set_option maxRecDepth 100000 in
theorem sl_k26_1 : sl_mk1 (yX4_addTank, cX4_addTank, 6, (some .int), 2, 42, false, 4) sl_t26_1 = true := by decide +kernel
theorem sl_k26 : sl_mk (yX4_addTank, cX4_addTank, 6, (some .int), 2, 42, false, 4) (sl_tb 26) = true := (sl_mk_cons sl_k26_0 (sl_mk_cons sl_k26_1 (sl_mk_nil _)))
set_option maxRecDepth 100000 in
theorem sl_k27_0 : sl_mk1 (yX4_addMouth, cX4_addMouth, 3, (some .int), 0, 0, false, 2) sl_t27_0 = true := by decide +kernel
theorem sl_k27 : sl_mk (yX4_addMouth, cX4_addMouth, 3, (some .int), 0, 0, false, 2) (sl_tb 27) = true := (sl_mk_cons sl_k27_0 (sl_mk_nil _))
set_option maxRecDepth 100000 in
theorem sl_k28_0 : sl_mk1 (yX5_isMissing, cX5_isMissing, 1, (some .boolean), 0, 0, false, 0) sl_t28_0 = true := by decide +kernel
theorem sl_k28 : sl_mk (yX5_isMissing, cX5_isMissing, 1, (some .boolean), 0, 0, false, 0) (sl_tb 28) = true := (sl_mk_cons sl_k28_0 (sl_mk_nil _))
set_option maxRecDepth 100000 in
theorem sl_k29_0 : sl_mk1 (yX5_lay, cX5_lay, 3, none, 1, 23, false, 2) sl_t29_0 = true := by decide +kernel
theorem sl_k29 : sl_mk (yX5_lay, cX5_lay, 3, none, 1, 23, false, 2) (sl_tb 29) = true := (sl_mk_cons sl_k29_0 (sl_mk_nil _))
set_option maxRecDepth 100000 in
theorem sl_k30_0 : sl_mk1 (yX5_holds, cX5_holds, 3, (some .boolean), 0, 0, false, 2) sl_t30_0 = true := by decide +kernel
theorem sl_k30 : sl_mk (yX5_holds, cX5_holds, 3, (some .boolean), 0, 0, false, 2) (sl_tb 30) = true := (sl_mk_cons sl_k30_0 (sl_mk_nil _))
set_option maxRecDepth 100000 in
theorem sl_k31_0 : sl_mk1 (yX5_put, cX5_put, 3, none, 0, 0, false, 2) sl_t31_0 = true := by decide +kernel
theorem sl_k31 : sl_mk (yX5_put, cX5_put, 3, none, 0, 0, false, 2) (sl_tb 31) = true := (sl_mk_cons sl_k31_0 (sl_mk_nil _))
set_option maxRecDepth 100000 in
theorem sl_k32_0 : sl_mk1 (yX6_room, cX6_room, 1, (some .int), 0, 0, false, 0) sl_t32_0 = true := by decide +kernel
theorem sl_k32 : sl_mk (yX6_room, cX6_room, 1, (some .int), 0, 0, false, 0) (sl_tb 32) = true := (sl_mk_cons sl_k32_0 (sl_mk_nil _))
set_option maxRecDepth 100000 in
theorem sl_k33_0 : sl_mk1 (yX6_hasColumn, cX6_hasColumn, 2, (some .boolean), 1, 22, false, 1) sl_t33_0 = true := by decide +kernel
theorem sl_k33 : sl_mk (yX6_hasColumn, cX6_hasColumn, 2, (some .boolean), 1, 22, false, 1) (sl_tb 33) = true := (sl_mk_cons sl_k33_0 (sl_mk_nil _))
set_option maxRecDepth 100000 in
theorem sl_k34_0 : sl_mk1 (yX6_hasBorder, cX6_hasBorder, 2, (some .boolean), 1, 22, false, 1) sl_t34_0 = true := by decide +kernel
theorem sl_k34 : sl_mk (yX6_hasBorder, cX6_hasBorder, 2, (some .boolean), 1, 22, false, 1) (sl_tb 34) = true := (sl_mk_cons sl_k34_0 (sl_mk_nil _))
set_option maxRecDepth 100000 in
theorem sl_k35_0 : sl_mk1 (yX6_fillStep, cX6_fillStep, 2, (some .int), 1, 48, false, 1) sl_t35_0 = true := by decide +kernel
theorem sl_k35 : sl_mk (yX6_fillStep, cX6_fillStep, 2, (some .int), 1, 48, false, 1) (sl_tb 35) = true := (sl_mk_cons sl_k35_0 (sl_mk_nil _))
set_option maxRecDepth 100000 in
theorem sl_k36_0 : sl_mk1 (yX7_append, cX7_append, 5, (some .int), 0, 0, false, 2) sl_t36_0 = true := by decide +kernel
set_option maxRecDepth 100000 in
theorem sl_k36_1 : sl_mk1 (yX7_append, cX7_append, 5, (some .int), 0, 0, false, 2) sl_t36_1 = true := by decide +kernel
theorem sl_k36 : sl_mk (yX7_append, cX7_append, 5, (some .int), 0, 0, false, 2) (sl_tb 36) = true := (sl_mk_cons sl_k36_0 (sl_mk_cons sl_k36_1 (sl_mk_nil _)))
set_option maxRecDepth 100000 in
theorem sl_k37_0 : sl_mk1 (yX7_readWay, cX7_readWay, 3, (some .int), 4, 97, false, 1) sl_t37_0 = true := by decide +kernel
set_option maxRecDepth 100000 in
theorem sl_k37_1 : sl_mk1 (yX7_readWay, cX7_readWay, 3, (some .int), 4, 97, false, 1) sl_t37_1 = true := by decide +kernel
theorem sl_k37 : sl_mk (yX7_readWay, cX7_readWay, 3, (some .int), 4, 97, false, 1) (sl_tb 37) = true := (sl_mk_cons sl_k37_0 (sl_mk_cons sl_k37_1 (sl_mk_nil _)))
set_option maxRecDepth 100000 in
theorem sl_k38_0 : sl_mk1 (yX7_isAhead, cX7_isAhead, 1, (some .boolean), 0, 0, false, 0) sl_t38_0 = true := by decide +kernel
theorem sl_k38 : sl_mk (yX7_isAhead, cX7_isAhead, 1, (some .boolean), 0, 0, false, 0) (sl_tb 38) = true := (sl_mk_cons sl_k38_0 (sl_mk_nil _))
set_option maxRecDepth 100000 in
theorem sl_k39_0 : sl_mk1 (yX7_readGroup, cX7_readGroup, 5, none, 3, 73, false, 1) sl_t39_0 = true := by decide +kernel
set_option maxRecDepth 100000 in
theorem sl_k39_1 : sl_mk1 (yX7_readGroup, cX7_readGroup, 5, none, 3, 73, false, 1) sl_t39_1 = true := by decide +kernel
set_option maxRecDepth 100000 in
theorem sl_k39_2 : sl_mk1 (yX7_readGroup, cX7_readGroup, 5, none, 3, 73, false, 1) sl_t39_2 = true := by decide +kernel
theorem sl_k39 : sl_mk (yX7_readGroup, cX7_readGroup, 5, none, 3, 73, false, 1) (sl_tb 39) = true := (sl_mk_cons sl_k39_0 (sl_mk_cons sl_k39_1 (sl_mk_cons sl_k39_2 (sl_mk_nil _))))
set_option maxRecDepth 100000 in
theorem sl_k40_0 : sl_mk1 (yX7_repeat, cX7_repeat, 6, none, 2, 42, true, 4) sl_t40_0 = true := by decide +kernel
theorem sl_k40 : sl_mk (yX7_repeat, cX7_repeat, 6, none, 2, 42, true, 4) (sl_tb 40) = true := (sl_mk_cons sl_k40_0 (sl_mk_nil _))
set_option maxRecDepth 100000 in
theorem sl_k41_0 : sl_mk1 (yX7_readLeg, cX7_readLeg, 6, none, 2, 48, false, 2) sl_t41_0 = true := by decide +kernel
set_option maxRecDepth 100000 in
theorem sl_k41_1 : sl_mk1 (yX7_readLeg, cX7_readLeg, 6, none, 2, 48, false, 2) sl_t41_1 = true := by decide +kernel
set_option maxRecDepth 100000 in
theorem sl_k41_2 : sl_mk1 (yX7_readLeg, cX7_readLeg, 6, none, 2, 48, false, 2) sl_t41_2 = true := by decide +kernel
theorem sl_k41 : sl_mk (yX7_readLeg, cX7_readLeg, 6, none, 2, 48, false, 2) (sl_tb 41) = true := (sl_mk_cons sl_k41_0 (sl_mk_cons sl_k41_1 (sl_mk_cons sl_k41_2 (sl_mk_nil _))))
set_option maxRecDepth 100000 in
theorem sl_k42_0 : sl_mk1 (yX7_readNumber, cX7_readNumber, 3, (some .int), 1, 20, false, 0) sl_t42_0 = true := by decide +kernel
set_option maxRecDepth 100000 in
theorem sl_k42_1 : sl_mk1 (yX7_readNumber, cX7_readNumber, 3, (some .int), 1, 20, false, 0) sl_t42_1 = true := by decide +kernel
theorem sl_k42 : sl_mk (yX7_readNumber, cX7_readNumber, 3, (some .int), 1, 20, false, 0) (sl_tb 42) = true := (sl_mk_cons sl_k42_0 (sl_mk_cons sl_k42_1 (sl_mk_nil _)))
set_option maxRecDepth 100000 in
theorem sl_k43_0 : sl_mk1 (yX7_expect, cX7_expect, 2, none, 1, 20, false, 1) sl_t43_0 = true := by decide +kernel
theorem sl_k43 : sl_mk (yX7_expect, cX7_expect, 2, none, 1, 20, false, 1) (sl_tb 43) = true := (sl_mk_cons sl_k43_0 (sl_mk_nil _))
set_option maxRecDepth 100000 in
theorem sl_k44_0 : sl_mk1 (yX7_isDigit, cX7_isDigit, 1, (some .boolean), 0, 0, true, 1) sl_t44_0 = true := by decide +kernel
theorem sl_k44 : sl_mk (yX7_isDigit, cX7_isDigit, 1, (some .boolean), 0, 0, true, 1) (sl_tb 44) = true := (sl_mk_cons sl_k44_0 (sl_mk_nil _))
set_option maxRecDepth 100000 in
theorem sl_k45_0 : sl_mk1 (yX8_isWhole, cX8_isWhole, 1, (some .boolean), 0, 0, false, 0) sl_t45_0 = true := by decide +kernel
theorem sl_k45 : sl_mk (yX8_isWhole, cX8_isWhole, 1, (some .boolean), 0, 0, false, 0) (sl_tb 45) = true := (sl_mk_cons sl_k45_0 (sl_mk_nil _))
set_option maxRecDepth 100000 in
theorem sl_k46_0 : sl_mk1 (yX8_add, cX8_add, 3, none, 1, 20, false, 2) sl_t46_0 = true := by decide +kernel
theorem sl_k46 : sl_mk (yX8_add, cX8_add, 3, none, 1, 20, false, 2) (sl_tb 46) = true := (sl_mk_cons sl_k46_0 (sl_mk_nil _))
set_option maxRecDepth 100000 in
theorem sl_k47_0 : sl_mk1 (yX9_tank, cX9_tank, 5, (some .int), 3, 67, false, 4) sl_t47_0 = true := by decide +kernel
theorem sl_k47 : sl_mk (yX9_tank, cX9_tank, 5, (some .int), 3, 67, false, 4) (sl_tb 47) = true := (sl_mk_cons sl_k47_0 (sl_mk_nil _))
set_option maxRecDepth 100000 in
theorem sl_k48_0 : sl_mk1 (yX9_wall, cX9_wall, 7, (some .int), 2, 43, false, 3) sl_t48_0 = true := by decide +kernel
set_option maxRecDepth 100000 in
theorem sl_k48_1 : sl_mk1 (yX9_wall, cX9_wall, 7, (some .int), 2, 43, false, 3) sl_t48_1 = true := by decide +kernel
theorem sl_k48 : sl_mk (yX9_wall, cX9_wall, 7, (some .int), 2, 43, false, 3) (sl_tb 48) = true := (sl_mk_cons sl_k48_0 (sl_mk_cons sl_k48_1 (sl_mk_nil _)))
set_option maxRecDepth 100000 in
theorem sl_k49_0 : sl_mk1 (yX9_fill, cX9_fill, 4, (some .int), 2, 43, false, 2) sl_t49_0 = true := by decide +kernel
set_option maxRecDepth 100000 in
theorem sl_k49_1 : sl_mk1 (yX9_fill, cX9_fill, 4, (some .int), 2, 43, false, 2) sl_t49_1 = true := by decide +kernel
theorem sl_k49 : sl_mk (yX9_fill, cX9_fill, 4, (some .int), 2, 43, false, 2) (sl_tb 49) = true := (sl_mk_cons sl_k49_0 (sl_mk_cons sl_k49_1 (sl_mk_nil _)))
set_option maxRecDepth 100000 in
theorem sl_k50_0 : sl_mk1 (yX9_feed, cX9_feed, 3, (some .int), 2, 43, false, 2) sl_t50_0 = true := by decide +kernel
theorem sl_k50 : sl_mk (yX9_feed, cX9_feed, 3, (some .int), 2, 43, false, 2) (sl_tb 50) = true := (sl_mk_cons sl_k50_0 (sl_mk_nil _))
set_option maxRecDepth 100000 in
theorem sl_k51_0 : sl_mk1 (yX9_draw, cX9_draw, 4, (some .int), 2, 43, false, 2) sl_t51_0 = true := by decide +kernel
theorem sl_k51 : sl_mk (yX9_draw, cX9_draw, 4, (some .int), 2, 43, false, 2) (sl_tb 51) = true := (sl_mk_cons sl_k51_0 (sl_mk_nil _))
set_option maxRecDepth 100000 in
theorem sl_k52_0 : sl_mk1 (yX9_lean, cX9_lean, 3, (some .int), 1, 22, false, 1) sl_t52_0 = true := by decide +kernel
theorem sl_k52 : sl_mk (yX9_lean, cX9_lean, 3, (some .int), 1, 22, false, 1) (sl_tb 52) = true := (sl_mk_cons sl_k52_0 (sl_mk_nil _))
set_option maxRecDepth 100000 in
theorem sl_k53_0 : sl_mk1 (yX9_carrier, cX9_carrier, 4, (some .int), 1, 22, false, 2) sl_t53_0 = true := by decide +kernel
set_option maxRecDepth 100000 in
theorem sl_k53_1 : sl_mk1 (yX9_carrier, cX9_carrier, 4, (some .int), 1, 22, false, 2) sl_t53_1 = true := by decide +kernel
theorem sl_k53 : sl_mk (yX9_carrier, cX9_carrier, 4, (some .int), 1, 22, false, 2) (sl_tb 53) = true := (sl_mk_cons sl_k53_0 (sl_mk_cons sl_k53_1 (sl_mk_nil _)))
set_option maxRecDepth 100000 in
theorem sl_k54_0 : sl_mk1 (yX9_run, cX9_run, 2, (some .int), 5, 149, false, 1) sl_t54_0 = true := by decide +kernel
theorem sl_k54 : sl_mk (yX9_run, cX9_run, 2, (some .int), 5, 149, false, 1) (sl_tb 54) = true := (sl_mk_cons sl_k54_0 (sl_mk_nil _))
set_option maxRecDepth 100000 in
theorem sl_k55_0 : sl_mk1 (yX9_tell, cX9_tell, 4, (some .int), 1, 24, false, 2) sl_t55_0 = true := by decide +kernel
theorem sl_k55 : sl_mk (yX9_tell, cX9_tell, 4, (some .int), 1, 24, false, 2) (sl_tb 55) = true := (sl_mk_cons sl_k55_0 (sl_mk_nil _))
set_option maxRecDepth 100000 in
theorem sl_k56_0 : sl_mk1 (yX9_way, cX9_way, 2, (some .int), 5, 119, false, 0) sl_t56_0 = true := by decide +kernel
set_option maxRecDepth 100000 in
theorem sl_k56_1 : sl_mk1 (yX9_way, cX9_way, 2, (some .int), 5, 119, false, 0) sl_t56_1 = true := by decide +kernel
theorem sl_k56 : sl_mk (yX9_way, cX9_way, 2, (some .int), 5, 119, false, 0) (sl_tb 56) = true := (sl_mk_cons sl_k56_0 (sl_mk_cons sl_k56_1 (sl_mk_nil _)))
set_option maxRecDepth 100000 in
theorem sl_k57_0 : sl_mk1 (yX9_wayTold, cX9_wayTold, 5, (some .int), 2, 43, false, 3) sl_t57_0 = true := by decide +kernel
set_option maxRecDepth 100000 in
theorem sl_k57_1 : sl_mk1 (yX9_wayTold, cX9_wayTold, 5, (some .int), 2, 43, false, 3) sl_t57_1 = true := by decide +kernel
theorem sl_k57 : sl_mk (yX9_wayTold, cX9_wayTold, 5, (some .int), 2, 43, false, 3) (sl_tb 57) = true := (sl_mk_cons sl_k57_0 (sl_mk_cons sl_k57_1 (sl_mk_nil _)))
set_option maxRecDepth 100000 in
theorem sl_k58_0 : sl_mk1 (yX9_go, cX9_go, 2, (some .int), 2, 43, false, 1) sl_t58_0 = true := by decide +kernel
theorem sl_k58 : sl_mk (yX9_go, cX9_go, 2, (some .int), 2, 43, false, 1) (sl_tb 58) = true := (sl_mk_cons sl_k58_0 (sl_mk_nil _))
set_option maxRecDepth 100000 in
theorem sl_k59_0 : sl_mk1 (yX9_level, cX9_level, 3, (some .int), 2, 43, false, 2) sl_t59_0 = true := by decide +kernel
theorem sl_k59 : sl_mk (yX9_level, cX9_level, 3, (some .int), 2, 43, false, 2) (sl_tb 59) = true := (sl_mk_cons sl_k59_0 (sl_mk_nil _))
set_option maxRecDepth 100000 in
theorem sl_k60_0 : sl_mk1 (yX9_flow, cX9_flow, 3, (some .int), 2, 43, false, 2) sl_t60_0 = true := by decide +kernel
theorem sl_k60 : sl_mk (yX9_flow, cX9_flow, 3, (some .int), 2, 43, false, 2) (sl_tb 60) = true := (sl_mk_cons sl_k60_0 (sl_mk_nil _))
set_option maxRecDepth 100000 in
theorem sl_k61_0 : sl_mk1 (yX9_tankTold, cX9_tankTold, 3, (some .int), 2, 43, false, 2) sl_t61_0 = true := by decide +kernel
set_option maxRecDepth 100000 in
theorem sl_k61_1 : sl_mk1 (yX9_tankTold, cX9_tankTold, 3, (some .int), 2, 43, false, 2) sl_t61_1 = true := by decide +kernel
theorem sl_k61 : sl_mk (yX9_tankTold, cX9_tankTold, 3, (some .int), 2, 43, false, 2) (sl_tb 61) = true := (sl_mk_cons sl_k61_0 (sl_mk_cons sl_k61_1 (sl_mk_nil _)))
set_option maxRecDepth 100000 in
theorem sl_k62_0 : sl_mk1 (yX9_kindTold, cX9_kindTold, 4, (some .int), 2, 42, false, 3) sl_t62_0 = true := by decide +kernel
set_option maxRecDepth 100000 in
theorem sl_k62_1 : sl_mk1 (yX9_kindTold, cX9_kindTold, 4, (some .int), 2, 42, false, 3) sl_t62_1 = true := by decide +kernel
theorem sl_k62 : sl_mk (yX9_kindTold, cX9_kindTold, 4, (some .int), 2, 42, false, 3) (sl_tb 62) = true := (sl_mk_cons sl_k62_0 (sl_mk_cons sl_k62_1 (sl_mk_nil _)))
set_option maxRecDepth 100000 in
theorem sl_k63_0 : sl_mk1 (yX9_feedTold, cX9_feedTold, 3, (some .int), 2, 43, false, 2) sl_t63_0 = true := by decide +kernel
set_option maxRecDepth 100000 in
theorem sl_k63_1 : sl_mk1 (yX9_feedTold, cX9_feedTold, 3, (some .int), 2, 43, false, 2) sl_t63_1 = true := by decide +kernel
theorem sl_k63 : sl_mk (yX9_feedTold, cX9_feedTold, 3, (some .int), 2, 43, false, 2) (sl_tb 63) = true := (sl_mk_cons sl_k63_0 (sl_mk_cons sl_k63_1 (sl_mk_nil _)))
set_option maxRecDepth 100000 in
theorem sl_k64_0 : sl_mk1 (yX9_pulls, cX9_pulls, 2, (some .int), 2, 44, false, 1) sl_t64_0 = true := by decide +kernel
theorem sl_k64 : sl_mk (yX9_pulls, cX9_pulls, 2, (some .int), 2, 44, false, 1) (sl_tb 64) = true := (sl_mk_cons sl_k64_0 (sl_mk_nil _))
set_option maxRecDepth 100000 in
theorem sl_k65_0 : sl_mk1 (yX9_count, cX9_count, 2, (some .int), 0, 0, false, 1) sl_t65_0 = true := by decide +kernel
set_option maxRecDepth 100000 in
theorem sl_k65_1 : sl_mk1 (yX9_count, cX9_count, 2, (some .int), 0, 0, false, 1) sl_t65_1 = true := by decide +kernel
theorem sl_k65 : sl_mk (yX9_count, cX9_count, 2, (some .int), 0, 0, false, 1) (sl_tb 65) = true := (sl_mk_cons sl_k65_0 (sl_mk_cons sl_k65_1 (sl_mk_nil _)))
set_option maxRecDepth 100000 in
theorem sl_k66_0 : sl_mk1 (yX9_beside, cX9_beside, 4, (some .int), 5, 149, false, 3) sl_t66_0 = true := by decide +kernel
set_option maxRecDepth 100000 in
theorem sl_k66_1 : sl_mk1 (yX9_beside, cX9_beside, 4, (some .int), 5, 149, false, 3) sl_t66_1 = true := by decide +kernel
set_option maxRecDepth 100000 in
theorem sl_k66_2 : sl_mk1 (yX9_beside, cX9_beside, 4, (some .int), 5, 149, false, 3) sl_t66_2 = true := by decide +kernel
theorem sl_k66 : sl_mk (yX9_beside, cX9_beside, 4, (some .int), 5, 149, false, 3) (sl_tb 66) = true := (sl_mk_cons sl_k66_0 (sl_mk_cons sl_k66_1 (sl_mk_cons sl_k66_2 (sl_mk_nil _))))
set_option maxRecDepth 100000 in
theorem sl_k67_0 : sl_mk1 (yX9_worstFill, cX9_worstFill, 10, (some .int), 5, 149, false, 3) sl_t67_0 = true := by decide +kernel
set_option maxRecDepth 100000 in
theorem sl_k67_1 : sl_mk1 (yX9_worstFill, cX9_worstFill, 10, (some .int), 5, 149, false, 3) sl_t67_1 = true := by decide +kernel
set_option maxRecDepth 100000 in
theorem sl_k67_2 : sl_mk1 (yX9_worstFill, cX9_worstFill, 10, (some .int), 5, 149, false, 3) sl_t67_2 = true := by decide +kernel
theorem sl_k67 : sl_mk (yX9_worstFill, cX9_worstFill, 10, (some .int), 5, 149, false, 3) (sl_tb 67) = true := (sl_mk_cons sl_k67_0 (sl_mk_cons sl_k67_1 (sl_mk_cons sl_k67_2 (sl_mk_nil _))))
set_option maxRecDepth 100000 in
theorem sl_k68_0 : sl_mk1 (yX9_walls, cX9_walls, 6, (some .int), 6, 177, false, 4) sl_t68_0 = true := by decide +kernel
set_option maxRecDepth 100000 in
theorem sl_k68_1 : sl_mk1 (yX9_walls, cX9_walls, 6, (some .int), 6, 177, false, 4) sl_t68_1 = true := by decide +kernel
theorem sl_k68 : sl_mk (yX9_walls, cX9_walls, 6, (some .int), 6, 177, false, 4) (sl_tb 68) = true := (sl_mk_cons sl_k68_0 (sl_mk_cons sl_k68_1 (sl_mk_nil _)))
set_option maxRecDepth 100000 in
theorem sl_k69_0 : sl_mk1 (yX9_wallsPull, cX9_wallsPull, 1, (some .int), 0, 0, false, 0) sl_t69_0 = true := by decide +kernel
theorem sl_k69 : sl_mk (yX9_wallsPull, cX9_wallsPull, 1, (some .int), 0, 0, false, 0) (sl_tb 69) = true := (sl_mk_cons sl_k69_0 (sl_mk_nil _))
set_option maxRecDepth 100000 in
theorem sl_k70_0 : sl_mk1 (yX9_drawOrder, cX9_drawOrder, 3, (some .int), 3, 96, false, 1) sl_t70_0 = true := by decide +kernel
set_option maxRecDepth 100000 in
theorem sl_k70_1 : sl_mk1 (yX9_drawOrder, cX9_drawOrder, 3, (some .int), 3, 96, false, 1) sl_t70_1 = true := by decide +kernel
theorem sl_k70 : sl_mk (yX9_drawOrder, cX9_drawOrder, 3, (some .int), 3, 96, false, 1) (sl_tb 70) = true := (sl_mk_cons sl_k70_0 (sl_mk_cons sl_k70_1 (sl_mk_nil _)))
set_option maxRecDepth 100000 in
theorem sl_k71_0 : sl_mk1 (yX9_record, cX9_record, 6, (some .int), 3, 72, false, 4) sl_t71_0 = true := by decide +kernel
set_option maxRecDepth 100000 in
theorem sl_k71_1 : sl_mk1 (yX9_record, cX9_record, 6, (some .int), 3, 72, false, 4) sl_t71_1 = true := by decide +kernel
set_option maxRecDepth 100000 in
theorem sl_k71_2 : sl_mk1 (yX9_record, cX9_record, 6, (some .int), 3, 72, false, 4) sl_t71_2 = true := by decide +kernel
theorem sl_k71 : sl_mk (yX9_record, cX9_record, 6, (some .int), 3, 72, false, 4) (sl_tb 71) = true := (sl_mk_cons sl_k71_0 (sl_mk_cons sl_k71_1 (sl_mk_cons sl_k71_2 (sl_mk_nil _))))
set_option maxRecDepth 100000 in
theorem sl_k72_0 : sl_mk1 (yX9_bar, cX9_bar, 4, (some .int), 1, 22, false, 2) sl_t72_0 = true := by decide +kernel
set_option maxRecDepth 100000 in
theorem sl_k72_1 : sl_mk1 (yX9_bar, cX9_bar, 4, (some .int), 1, 22, false, 2) sl_t72_1 = true := by decide +kernel
theorem sl_k72 : sl_mk (yX9_bar, cX9_bar, 4, (some .int), 1, 22, false, 2) (sl_tb 72) = true := (sl_mk_cons sl_k72_0 (sl_mk_cons sl_k72_1 (sl_mk_nil _)))
set_option maxRecDepth 100000 in
theorem sl_k73_0 : sl_mk1 (yX9_fits, cX9_fits, 12, (some .int), 6, 178, false, 4) sl_t73_0 = true := by decide +kernel
set_option maxRecDepth 100000 in
theorem sl_k73_1 : sl_mk1 (yX9_fits, cX9_fits, 12, (some .int), 6, 178, false, 4) sl_t73_1 = true := by decide +kernel
set_option maxRecDepth 100000 in
theorem sl_k73_2 : sl_mk1 (yX9_fits, cX9_fits, 12, (some .int), 6, 178, false, 4) sl_t73_2 = true := by decide +kernel
theorem sl_k73 : sl_mk (yX9_fits, cX9_fits, 12, (some .int), 6, 178, false, 4) (sl_tb 73) = true := (sl_mk_cons sl_k73_0 (sl_mk_cons sl_k73_1 (sl_mk_cons sl_k73_2 (sl_mk_nil _))))
set_option maxRecDepth 100000 in
theorem sl_k74_0 : sl_mk1 (yX9_image, cX9_image, 1, (some .int), 2, 70, false, 0) sl_t74_0 = true := by decide +kernel
theorem sl_k74 : sl_mk (yX9_image, cX9_image, 1, (some .int), 2, 70, false, 0) (sl_tb 74) = true := (sl_mk_cons sl_k74_0 (sl_mk_nil _))
set_option maxRecDepth 100000 in
theorem sl_k75_0 : sl_mk1 (yX9_back, cX9_back, 1, (some .int), 2, 70, false, 0) sl_t75_0 = true := by decide +kernel
theorem sl_k75 : sl_mk (yX9_back, cX9_back, 1, (some .int), 2, 70, false, 0) (sl_tb 75) = true := (sl_mk_cons sl_k75_0 (sl_mk_nil _))
set_option maxRecDepth 100000 in
theorem sl_k76_0 : sl_mk1 (yX9_sheet, cX9_sheet, 4, (some .int), 2, 45, false, 3) sl_t76_0 = true := by decide +kernel
set_option maxRecDepth 100000 in
theorem sl_k76_1 : sl_mk1 (yX9_sheet, cX9_sheet, 4, (some .int), 2, 45, false, 3) sl_t76_1 = true := by decide +kernel
theorem sl_k76 : sl_mk (yX9_sheet, cX9_sheet, 4, (some .int), 2, 45, false, 3) (sl_tb 76) = true := (sl_mk_cons sl_k76_0 (sl_mk_cons sl_k76_1 (sl_mk_nil _)))
set_option maxRecDepth 100000 in
theorem sl_k77_0 : sl_mk1 (yX9_cell, cX9_cell, 4, (some .int), 2, 42, false, 3) sl_t77_0 = true := by decide +kernel
set_option maxRecDepth 100000 in
theorem sl_k77_1 : sl_mk1 (yX9_cell, cX9_cell, 4, (some .int), 2, 42, false, 3) sl_t77_1 = true := by decide +kernel
theorem sl_k77 : sl_mk (yX9_cell, cX9_cell, 4, (some .int), 2, 42, false, 3) (sl_tb 77) = true := (sl_mk_cons sl_k77_0 (sl_mk_cons sl_k77_1 (sl_mk_nil _)))
set_option maxRecDepth 100000 in
theorem sl_k78_0 : sl_mk1 (yX9_copy, cX9_copy, 8, (some .int), 2, 48, false, 5) sl_t78_0 = true := by decide +kernel
set_option maxRecDepth 100000 in
theorem sl_k78_1 : sl_mk1 (yX9_copy, cX9_copy, 8, (some .int), 2, 48, false, 5) sl_t78_1 = true := by decide +kernel
theorem sl_k78 : sl_mk (yX9_copy, cX9_copy, 8, (some .int), 2, 48, false, 5) (sl_tb 78) = true := (sl_mk_cons sl_k78_0 (sl_mk_cons sl_k78_1 (sl_mk_nil _)))
set_option maxRecDepth 100000 in
theorem sl_k79_0 : sl_mk1 (yX9_tanks, cX9_tanks, 10, (some .int), 3, 67, false, 4) sl_t79_0 = true := by decide +kernel
set_option maxRecDepth 100000 in
theorem sl_k79_1 : sl_mk1 (yX9_tanks, cX9_tanks, 10, (some .int), 3, 67, false, 4) sl_t79_1 = true := by decide +kernel
set_option maxRecDepth 100000 in
theorem sl_k79_2 : sl_mk1 (yX9_tanks, cX9_tanks, 10, (some .int), 3, 67, false, 4) sl_t79_2 = true := by decide +kernel
theorem sl_k79 : sl_mk (yX9_tanks, cX9_tanks, 10, (some .int), 3, 67, false, 4) (sl_tb 79) = true := (sl_mk_cons sl_k79_0 (sl_mk_cons sl_k79_1 (sl_mk_cons sl_k79_2 (sl_mk_nil _))))
set_option maxRecDepth 100000 in
theorem sl_k80_0 : sl_mk1 (yX9_taken, cX9_taken, 5, (some .int), 3, 65, false, 3) sl_t80_0 = true := by decide +kernel
set_option maxRecDepth 100000 in
theorem sl_k80_1 : sl_mk1 (yX9_taken, cX9_taken, 5, (some .int), 3, 65, false, 3) sl_t80_1 = true := by decide +kernel
set_option maxRecDepth 100000 in
theorem sl_k80_2 : sl_mk1 (yX9_taken, cX9_taken, 5, (some .int), 3, 65, false, 3) sl_t80_2 = true := by decide +kernel
theorem sl_k80 : sl_mk (yX9_taken, cX9_taken, 5, (some .int), 3, 65, false, 3) (sl_tb 80) = true := (sl_mk_cons sl_k80_0 (sl_mk_cons sl_k80_1 (sl_mk_cons sl_k80_2 (sl_mk_nil _))))
set_option maxRecDepth 100000 in
theorem sl_k81_0 : sl_mk1 (yX9_within, cX9_within, 3, (some .boolean), 0, 0, true, 3) sl_t81_0 = true := by decide +kernel
theorem sl_k81 : sl_mk (yX9_within, cX9_within, 3, (some .boolean), 0, 0, true, 3) (sl_tb 81) = true := (sl_mk_cons sl_k81_0 (sl_mk_nil _))
set_option maxRecDepth 100000 in
theorem sl_k82_0 : sl_mk1 (yX9_isFlag, cX9_isFlag, 1, (some .boolean), 0, 0, true, 1) sl_t82_0 = true := by decide +kernel
theorem sl_k82 : sl_mk (yX9_isFlag, cX9_isFlag, 1, (some .boolean), 0, 0, true, 1) (sl_tb 82) = true := (sl_mk_cons sl_k82_0 (sl_mk_nil _))
set_option maxRecDepth 100000 in
theorem sl_k83_0 : sl_mk1 (yX9_isSheet, cX9_isSheet, 1, (some .boolean), 1, 22, true, 1) sl_t83_0 = true := by decide +kernel
theorem sl_k83 : sl_mk (yX9_isSheet, cX9_isSheet, 1, (some .boolean), 1, 22, true, 1) (sl_tb 83) = true := (sl_mk_cons sl_k83_0 (sl_mk_nil _))
set_option maxRecDepth 100000 in
theorem sl_k84_0 : sl_mk1 (yX9_isCourse, cX9_isCourse, 2, (some .boolean), 2, 43, false, 1) sl_t84_0 = true := by decide +kernel
theorem sl_k84 : sl_mk (yX9_isCourse, cX9_isCourse, 2, (some .boolean), 2, 43, false, 1) (sl_tb 84) = true := (sl_mk_cons sl_k84_0 (sl_mk_nil _))
set_option maxRecDepth 100000 in
theorem sl_k85_0 : sl_mk1 (yX9_beginTrial, cX9_beginTrial, 2, none, 2, 70, false, 1) sl_t85_0 = true := by decide +kernel
theorem sl_k85 : sl_mk (yX9_beginTrial, cX9_beginTrial, 2, none, 2, 70, false, 1) (sl_tb 85) = true := (sl_mk_cons sl_k85_0 (sl_mk_nil _))
set_option maxRecDepth 100000 in
theorem sl_k86_0 : sl_mk1 (yX9_tellsBorders, cX9_tellsBorders, 3, (some .boolean), 2, 43, true, 2) sl_t86_0 = true := by decide +kernel
theorem sl_k86 : sl_mk (yX9_tellsBorders, cX9_tellsBorders, 3, (some .boolean), 2, 43, true, 2) (sl_tb 86) = true := (sl_mk_cons sl_k86_0 (sl_mk_nil _))
set_option maxRecDepth 100000 in
theorem sl_k87_0 : sl_mk1 (yX9_findWalls, cX9_findWalls, 9, (some .int), 5, 149, false, 4) sl_t87_0 = true := by decide +kernel
set_option maxRecDepth 100000 in
theorem sl_k87_1 : sl_mk1 (yX9_findWalls, cX9_findWalls, 9, (some .int), 5, 149, false, 4) sl_t87_1 = true := by decide +kernel
set_option maxRecDepth 100000 in
theorem sl_k87_2 : sl_mk1 (yX9_findWalls, cX9_findWalls, 9, (some .int), 5, 149, false, 4) sl_t87_2 = true := by decide +kernel
theorem sl_k87 : sl_mk (yX9_findWalls, cX9_findWalls, 9, (some .int), 5, 149, false, 4) (sl_tb 87) = true := (sl_mk_cons sl_k87_0 (sl_mk_cons sl_k87_1 (sl_mk_cons sl_k87_2 (sl_mk_nil _))))
set_option maxRecDepth 100000 in
theorem sl_k88_0 : sl_mk1 (yX9_bordersOf, cX9_bordersOf, 4, (some .int), 0, 0, true, 2) sl_t88_0 = true := by decide +kernel
theorem sl_k88 : sl_mk (yX9_bordersOf, cX9_bordersOf, 4, (some .int), 0, 0, true, 2) (sl_tb 88) = true := (sl_mk_cons sl_k88_0 (sl_mk_nil _))
set_option maxRecDepth 100000 in
theorem sl_k89_0 : sl_mk1 (yX9_letsRecordsBe, cX9_letsRecordsBe, 6, (some .boolean), 5, 153, false, 3) sl_t89_0 = true := by decide +kernel
theorem sl_k89 : sl_mk (yX9_letsRecordsBe, cX9_letsRecordsBe, 6, (some .boolean), 5, 153, false, 3) (sl_tb 89) = true := (sl_mk_cons sl_k89_0 (sl_mk_nil _))
set_option maxRecDepth 100000 in
theorem sl_k90_0 : sl_mk1 (yX9_letsRecordBe, cX9_letsRecordBe, 7, (some .boolean), 4, 127, false, 3) sl_t90_0 = true := by decide +kernel
set_option maxRecDepth 100000 in
theorem sl_k90_1 : sl_mk1 (yX9_letsRecordBe, cX9_letsRecordBe, 7, (some .boolean), 4, 127, false, 3) sl_t90_1 = true := by decide +kernel
theorem sl_k90 : sl_mk (yX9_letsRecordBe, cX9_letsRecordBe, 7, (some .boolean), 4, 127, false, 3) (sl_tb 90) = true := (sl_mk_cons sl_k90_0 (sl_mk_cons sl_k90_1 (sl_mk_nil _)))
set_option maxRecDepth 100000 in
theorem sl_k91_0 : sl_mk1 (yX10_in, cX10_in, 4, (some .boolean), 0, 0, false, 3) sl_t91_0 = true := by decide +kernel
theorem sl_k91 : sl_mk (yX10_in, cX10_in, 4, (some .boolean), 0, 0, false, 3) (sl_tb 91) = true := (sl_mk_cons sl_k91_0 (sl_mk_nil _))
set_option maxRecDepth 100000 in
theorem sl_k92_0 : sl_mk1 (yX10_abs, cX10_abs, 2, (some .int), 0, 0, false, 1) sl_t92_0 = true := by decide +kernel
theorem sl_k92 : sl_mk (yX10_abs, cX10_abs, 2, (some .int), 0, 0, false, 1) (sl_tb 92) = true := (sl_mk_cons sl_k92_0 (sl_mk_nil _))
set_option maxRecDepth 100000 in
theorem sl_k93_0 : sl_mk1 (yX10_isTank, cX10_isTank, 2, (some .boolean), 1, 23, false, 1) sl_t93_0 = true := by decide +kernel
theorem sl_k93 : sl_mk (yX10_isTank, cX10_isTank, 2, (some .boolean), 1, 23, false, 1) (sl_tb 93) = true := (sl_mk_cons sl_k93_0 (sl_mk_nil _))
set_option maxRecDepth 100000 in
theorem sl_k94_0 : sl_mk1 (yX10_hasLid, cX10_hasLid, 2, (some .boolean), 0, 0, false, 1) sl_t94_0 = true := by decide +kernel
theorem sl_k94 : sl_mk (yX10_hasLid, cX10_hasLid, 2, (some .boolean), 0, 0, false, 1) (sl_tb 94) = true := (sl_mk_cons sl_k94_0 (sl_mk_nil _))
set_option maxRecDepth 100000 in
theorem sl_k95_0 : sl_mk1 (yX10_push, cX10_push, 3, (some .int), 0, 0, false, 2) sl_t95_0 = true := by decide +kernel
theorem sl_k95 : sl_mk (yX10_push, cX10_push, 3, (some .int), 0, 0, false, 2) (sl_tb 95) = true := (sl_mk_cons sl_k95_0 (sl_mk_nil _))
set_option maxRecDepth 100000 in
theorem sl_k96_0 : sl_mk1 (yX10_room, cX10_room, 2, (some .int), 0, 0, false, 1) sl_t96_0 = true := by decide +kernel
theorem sl_k96 : sl_mk (yX10_room, cX10_room, 2, (some .int), 0, 0, false, 1) (sl_tb 96) = true := (sl_mk_cons sl_k96_0 (sl_mk_nil _))
set_option maxRecDepth 100000 in
theorem sl_k97_0 : sl_mk1 (yX10_inside, cX10_inside, 4, (some .int), 0, 0, false, 1) sl_t97_0 = true := by decide +kernel
theorem sl_k97 : sl_mk (yX10_inside, cX10_inside, 4, (some .int), 0, 0, false, 1) (sl_tb 97) = true := (sl_mk_cons sl_k97_0 (sl_mk_nil _))
set_option maxRecDepth 100000 in
theorem sl_k98_0 : sl_mk1 (yX10_rest, cX10_rest, 4, none, 0, 0, false, 2) sl_t98_0 = true := by decide +kernel
set_option maxRecDepth 100000 in
theorem sl_k98_1 : sl_mk1 (yX10_rest, cX10_rest, 4, none, 0, 0, false, 2) sl_t98_1 = true := by decide +kernel
theorem sl_k98 : sl_mk (yX10_rest, cX10_rest, 4, none, 0, 0, false, 2) (sl_tb 98) = true := (sl_mk_cons sl_k98_0 (sl_mk_cons sl_k98_1 (sl_mk_nil _)))
set_option maxRecDepth 100000 in
theorem sl_k99_0 : sl_mk1 (yX10_tank, cX10_tank, 5, (some .int), 1, 23, false, 4) sl_t99_0 = true := by decide +kernel
set_option maxRecDepth 100000 in
theorem sl_k99_1 : sl_mk1 (yX10_tank, cX10_tank, 5, (some .int), 1, 23, false, 4) sl_t99_1 = true := by decide +kernel
set_option maxRecDepth 100000 in
theorem sl_k99_2 : sl_mk1 (yX10_tank, cX10_tank, 5, (some .int), 1, 23, false, 4) sl_t99_2 = true := by decide +kernel
theorem sl_k99 : sl_mk (yX10_tank, cX10_tank, 5, (some .int), 1, 23, false, 4) (sl_tb 99) = true := (sl_mk_cons sl_k99_0 (sl_mk_cons sl_k99_1 (sl_mk_cons sl_k99_2 (sl_mk_nil _))))
set_option maxRecDepth 100000 in
theorem sl_k100_0 : sl_mk1 (yX10_isBorder, cX10_isBorder, 3, (some .boolean), 1, 23, false, 2) sl_t100_0 = true := by decide +kernel
theorem sl_k100 : sl_mk (yX10_isBorder, cX10_isBorder, 3, (some .boolean), 1, 23, false, 2) (sl_tb 100) = true := (sl_mk_cons sl_k100_0 (sl_mk_nil _))
set_option maxRecDepth 100000 in
theorem sl_k101_0 : sl_mk1 (yX10_wall, cX10_wall, 5, (some .int), 2, 45, false, 3) sl_t101_0 = true := by decide +kernel
set_option maxRecDepth 100000 in
theorem sl_k101_1 : sl_mk1 (yX10_wall, cX10_wall, 5, (some .int), 2, 45, false, 3) sl_t101_1 = true := by decide +kernel
theorem sl_k101 : sl_mk (yX10_wall, cX10_wall, 5, (some .int), 2, 45, false, 3) (sl_tb 101) = true := (sl_mk_cons sl_k101_0 (sl_mk_cons sl_k101_1 (sl_mk_nil _)))
set_option maxRecDepth 100000 in
theorem sl_k102_0 : sl_mk1 (yX10_fill, cX10_fill, 4, (some .int), 2, 44, false, 2) sl_t102_0 = true := by decide +kernel
set_option maxRecDepth 100000 in
theorem sl_k102_1 : sl_mk1 (yX10_fill, cX10_fill, 4, (some .int), 2, 44, false, 2) sl_t102_1 = true := by decide +kernel
theorem sl_k102 : sl_mk (yX10_fill, cX10_fill, 4, (some .int), 2, 44, false, 2) (sl_tb 102) = true := (sl_mk_cons sl_k102_0 (sl_mk_cons sl_k102_1 (sl_mk_nil _)))
set_option maxRecDepth 100000 in
theorem sl_k103_0 : sl_mk1 (yX10_feed, cX10_feed, 3, (some .int), 2, 44, false, 2) sl_t103_0 = true := by decide +kernel
set_option maxRecDepth 100000 in
theorem sl_k103_1 : sl_mk1 (yX10_feed, cX10_feed, 3, (some .int), 2, 44, false, 2) sl_t103_1 = true := by decide +kernel
set_option maxRecDepth 100000 in
theorem sl_k103_2 : sl_mk1 (yX10_feed, cX10_feed, 3, (some .int), 2, 44, false, 2) sl_t103_2 = true := by decide +kernel
theorem sl_k103 : sl_mk (yX10_feed, cX10_feed, 3, (some .int), 2, 44, false, 2) (sl_tb 103) = true := (sl_mk_cons sl_k103_0 (sl_mk_cons sl_k103_1 (sl_mk_cons sl_k103_2 (sl_mk_nil _))))
set_option maxRecDepth 100000 in
theorem sl_k104_0 : sl_mk1 (yX10_draw, cX10_draw, 4, (some .int), 1, 23, false, 2) sl_t104_0 = true := by decide +kernel
set_option maxRecDepth 100000 in
theorem sl_k104_1 : sl_mk1 (yX10_draw, cX10_draw, 4, (some .int), 1, 23, false, 2) sl_t104_1 = true := by decide +kernel
theorem sl_k104 : sl_mk (yX10_draw, cX10_draw, 4, (some .int), 1, 23, false, 2) (sl_tb 104) = true := (sl_mk_cons sl_k104_0 (sl_mk_cons sl_k104_1 (sl_mk_nil _)))
set_option maxRecDepth 100000 in
theorem sl_k105_0 : sl_mk1 (yX10_lean, cX10_lean, 3, (some .int), 1, 23, false, 1) sl_t105_0 = true := by decide +kernel
theorem sl_k105 : sl_mk (yX10_lean, cX10_lean, 3, (some .int), 1, 23, false, 1) (sl_tb 105) = true := (sl_mk_cons sl_k105_0 (sl_mk_nil _))
set_option maxRecDepth 100000 in
theorem sl_k106_0 : sl_mk1 (yX10_carrier, cX10_carrier, 4, (some .int), 1, 23, false, 2) sl_t106_0 = true := by decide +kernel
set_option maxRecDepth 100000 in
theorem sl_k106_1 : sl_mk1 (yX10_carrier, cX10_carrier, 4, (some .int), 1, 23, false, 2) sl_t106_1 = true := by decide +kernel
theorem sl_k106 : sl_mk (yX10_carrier, cX10_carrier, 4, (some .int), 1, 23, false, 2) (sl_tb 106) = true := (sl_mk_cons sl_k106_0 (sl_mk_cons sl_k106_1 (sl_mk_nil _)))
set_option maxRecDepth 100000 in
theorem sl_k107_0 : sl_mk1 (yX10_moment, cX10_moment, 4, (some .int), 0, 0, false, 0) sl_t107_0 = true := by decide +kernel
set_option maxRecDepth 100000 in
theorem sl_k107_1 : sl_mk1 (yX10_moment, cX10_moment, 4, (some .int), 0, 0, false, 0) sl_t107_1 = true := by decide +kernel
theorem sl_k107 : sl_mk (yX10_moment, cX10_moment, 4, (some .int), 0, 0, false, 0) (sl_tb 107) = true := (sl_mk_cons sl_k107_0 (sl_mk_cons sl_k107_1 (sl_mk_nil _)))
set_option maxRecDepth 100000 in
theorem sl_k108_0 : sl_mk1 (yX10_pull, cX10_pull, 1, (some .int), 1, 23, false, 0) sl_t108_0 = true := by decide +kernel
theorem sl_k108 : sl_mk (yX10_pull, cX10_pull, 1, (some .int), 1, 23, false, 0) (sl_tb 108) = true := (sl_mk_cons sl_k108_0 (sl_mk_nil _))
set_option maxRecDepth 100000 in
theorem sl_k109_0 : sl_mk1 (yX10_goOnWay, cX10_goOnWay, 1, none, 0, 0, false, 0) sl_t109_0 = true := by decide +kernel
set_option maxRecDepth 100000 in
theorem sl_k109_1 : sl_mk1 (yX10_goOnWay, cX10_goOnWay, 1, none, 0, 0, false, 0) sl_t109_1 = true := by decide +kernel
theorem sl_k109 : sl_mk (yX10_goOnWay, cX10_goOnWay, 1, none, 0, 0, false, 0) (sl_tb 109) = true := (sl_mk_cons sl_k109_0 (sl_mk_cons sl_k109_1 (sl_mk_nil _)))
set_option maxRecDepth 100000 in
theorem sl_k110_0 : sl_mk1 (yX10_goOver, cX10_goOver, 9, none, 1, 22, false, 2) sl_t110_0 = true := by decide +kernel
set_option maxRecDepth 100000 in
theorem sl_k110_1 : sl_mk1 (yX10_goOver, cX10_goOver, 9, none, 1, 22, false, 2) sl_t110_1 = true := by decide +kernel
set_option maxRecDepth 100000 in
theorem sl_k110_2 : sl_mk1 (yX10_goOver, cX10_goOver, 9, none, 1, 22, false, 2) sl_t110_2 = true := by decide +kernel
set_option maxRecDepth 100000 in
theorem sl_k110_3 : sl_mk1 (yX10_goOver, cX10_goOver, 9, none, 1, 22, false, 2) sl_t110_3 = true := by decide +kernel
set_option maxRecDepth 100000 in
theorem sl_k110_4 : sl_mk1 (yX10_goOver, cX10_goOver, 9, none, 1, 22, false, 2) sl_t110_4 = true := by decide +kernel
set_option maxRecDepth 100000 in
theorem sl_k110_5 : sl_mk1 (yX10_goOver, cX10_goOver, 9, none, 1, 22, false, 2) sl_t110_5 = true := by decide +kernel
set_option maxRecDepth 100000 in
theorem sl_k110_6 : sl_mk1 (yX10_goOver, cX10_goOver, 9, none, 1, 22, false, 2) sl_t110_6 = true := by decide +kernel
theorem sl_k110 : sl_mk (yX10_goOver, cX10_goOver, 9, none, 1, 22, false, 2) (sl_tb 110) = true := (sl_mk_cons sl_k110_0 (sl_mk_cons sl_k110_1 (sl_mk_cons sl_k110_2 (sl_mk_cons sl_k110_3 (sl_mk_cons sl_k110_4 (sl_mk_cons sl_k110_5 (sl_mk_cons sl_k110_6 (sl_mk_nil _))))))))
set_option maxRecDepth 100000 in
theorem sl_k111_0 : sl_mk1 (yX10_goTick, cX10_goTick, 4, none, 2, 50, false, 0) sl_t111_0 = true := by decide +kernel
set_option maxRecDepth 100000 in
theorem sl_k111_1 : sl_mk1 (yX10_goTick, cX10_goTick, 4, none, 2, 50, false, 0) sl_t111_1 = true := by decide +kernel
set_option maxRecDepth 100000 in
theorem sl_k111_2 : sl_mk1 (yX10_goTick, cX10_goTick, 4, none, 2, 50, false, 0) sl_t111_2 = true := by decide +kernel
set_option maxRecDepth 100000 in
theorem sl_k111_3 : sl_mk1 (yX10_goTick, cX10_goTick, 4, none, 2, 50, false, 0) sl_t111_3 = true := by decide +kernel
set_option maxRecDepth 100000 in
theorem sl_k111_4 : sl_mk1 (yX10_goTick, cX10_goTick, 4, none, 2, 50, false, 0) sl_t111_4 = true := by decide +kernel
theorem sl_k111 : sl_mk (yX10_goTick, cX10_goTick, 4, none, 2, 50, false, 0) (sl_tb 111) = true := (sl_mk_cons sl_k111_0 (sl_mk_cons sl_k111_1 (sl_mk_cons sl_k111_2 (sl_mk_cons sl_k111_3 (sl_mk_cons sl_k111_4 (sl_mk_nil _))))))
set_option maxRecDepth 100000 in
theorem sl_k112_0 : sl_mk1 (yX10_run, cX10_run, 3, (some .int), 3, 73, false, 1) sl_t112_0 = true := by decide +kernel
theorem sl_k112 : sl_mk (yX10_run, cX10_run, 3, (some .int), 3, 73, false, 1) (sl_tb 112) = true := (sl_mk_cons sl_k112_0 (sl_mk_nil _))
set_option maxRecDepth 100000 in
theorem sl_k113_0 : sl_mk1 (yX10_tell, cX10_tell, 5, (some .int), 1, 23, false, 2) sl_t113_0 = true := by decide +kernel
set_option maxRecDepth 100000 in
theorem sl_k113_1 : sl_mk1 (yX10_tell, cX10_tell, 5, (some .int), 1, 23, false, 2) sl_t113_1 = true := by decide +kernel
theorem sl_k113 : sl_mk (yX10_tell, cX10_tell, 5, (some .int), 1, 23, false, 2) (sl_tb 113) = true := (sl_mk_cons sl_k113_0 (sl_mk_cons sl_k113_1 (sl_mk_nil _)))
set_option maxRecDepth 100000 in
theorem sl_k114_0 : sl_mk1 (yX10_next, cX10_next, 1, (some .int), 0, 0, false, 0) sl_t114_0 = true := by decide +kernel
theorem sl_k114 : sl_mk (yX10_next, cX10_next, 1, (some .int), 0, 0, false, 0) (sl_tb 114) = true := (sl_mk_cons sl_k114_0 (sl_mk_nil _))
set_option maxRecDepth 100000 in
theorem sl_k115_0 : sl_mk1 (yX10_isDigit, cX10_isDigit, 1, (some .boolean), 1, 23, false, 0) sl_t115_0 = true := by decide +kernel
theorem sl_k115 : sl_mk (yX10_isDigit, cX10_isDigit, 1, (some .boolean), 1, 23, false, 0) (sl_tb 115) = true := (sl_mk_cons sl_k115_0 (sl_mk_nil _))
set_option maxRecDepth 100000 in
theorem sl_k116_0 : sl_mk1 (yX10_takes, cX10_takes, 2, (some .boolean), 1, 20, false, 1) sl_t116_0 = true := by decide +kernel
theorem sl_k116 : sl_mk (yX10_takes, cX10_takes, 2, (some .boolean), 1, 20, false, 1) (sl_tb 116) = true := (sl_mk_cons sl_k116_0 (sl_mk_nil _))
set_option maxRecDepth 100000 in
theorem sl_k117_0 : sl_mk1 (yX10_takesNumber, cX10_takesNumber, 1, (some .boolean), 2, 43, false, 0) sl_t117_0 = true := by decide +kernel
set_option maxRecDepth 100000 in
theorem sl_k117_1 : sl_mk1 (yX10_takesNumber, cX10_takesNumber, 1, (some .boolean), 2, 43, false, 0) sl_t117_1 = true := by decide +kernel
theorem sl_k117 : sl_mk (yX10_takesNumber, cX10_takesNumber, 1, (some .boolean), 2, 43, false, 0) (sl_tb 117) = true := (sl_mk_cons sl_k117_0 (sl_mk_cons sl_k117_1 (sl_mk_nil _)))
set_option maxRecDepth 100000 in
theorem sl_k118_0 : sl_mk1 (yX10_takesLeg, cX10_takesLeg, 5, (some .boolean), 3, 63, false, 1) sl_t118_0 = true := by decide +kernel
set_option maxRecDepth 100000 in
theorem sl_k118_1 : sl_mk1 (yX10_takesLeg, cX10_takesLeg, 5, (some .boolean), 3, 63, false, 1) sl_t118_1 = true := by decide +kernel
set_option maxRecDepth 100000 in
theorem sl_k118_2 : sl_mk1 (yX10_takesLeg, cX10_takesLeg, 5, (some .boolean), 3, 63, false, 1) sl_t118_2 = true := by decide +kernel
set_option maxRecDepth 100000 in
theorem sl_k118_3 : sl_mk1 (yX10_takesLeg, cX10_takesLeg, 5, (some .boolean), 3, 63, false, 1) sl_t118_3 = true := by decide +kernel
theorem sl_k118 : sl_mk (yX10_takesLeg, cX10_takesLeg, 5, (some .boolean), 3, 63, false, 1) (sl_tb 118) = true := (sl_mk_cons sl_k118_0 (sl_mk_cons sl_k118_1 (sl_mk_cons sl_k118_2 (sl_mk_cons sl_k118_3 (sl_mk_nil _)))))
set_option maxRecDepth 100000 in
theorem sl_k119_0 : sl_mk1 (yX10_takesAgain, cX10_takesAgain, 6, (some .boolean), 4, 87, false, 0) sl_t119_0 = true := by decide +kernel
set_option maxRecDepth 100000 in
theorem sl_k119_1 : sl_mk1 (yX10_takesAgain, cX10_takesAgain, 6, (some .boolean), 4, 87, false, 0) sl_t119_1 = true := by decide +kernel
set_option maxRecDepth 100000 in
theorem sl_k119_2 : sl_mk1 (yX10_takesAgain, cX10_takesAgain, 6, (some .boolean), 4, 87, false, 0) sl_t119_2 = true := by decide +kernel
set_option maxRecDepth 100000 in
theorem sl_k119_3 : sl_mk1 (yX10_takesAgain, cX10_takesAgain, 6, (some .boolean), 4, 87, false, 0) sl_t119_3 = true := by decide +kernel
theorem sl_k119 : sl_mk (yX10_takesAgain, cX10_takesAgain, 6, (some .boolean), 4, 87, false, 0) (sl_tb 119) = true := (sl_mk_cons sl_k119_0 (sl_mk_cons sl_k119_1 (sl_mk_cons sl_k119_2 (sl_mk_cons sl_k119_3 (sl_mk_nil _)))))
set_option maxRecDepth 100000 in
theorem sl_k120_0 : sl_mk1 (yX10_isWayText, cX10_isWayText, 1, (some .boolean), 5, 112, false, 0) sl_t120_0 = true := by decide +kernel
theorem sl_k120 : sl_mk (yX10_isWayText, cX10_isWayText, 1, (some .boolean), 5, 112, false, 0) (sl_tb 120) = true := (sl_mk_cons sl_k120_0 (sl_mk_nil _))
set_option maxRecDepth 100000 in
theorem sl_k121_0 : sl_mk1 (yX10_way, cX10_way, 2, (some .int), 6, 132, false, 0) sl_t121_0 = true := by decide +kernel
set_option maxRecDepth 100000 in
theorem sl_k121_1 : sl_mk1 (yX10_way, cX10_way, 2, (some .int), 6, 132, false, 0) sl_t121_1 = true := by decide +kernel
set_option maxRecDepth 100000 in
theorem sl_k121_2 : sl_mk1 (yX10_way, cX10_way, 2, (some .int), 6, 132, false, 0) sl_t121_2 = true := by decide +kernel
theorem sl_k121 : sl_mk (yX10_way, cX10_way, 2, (some .int), 6, 132, false, 0) (sl_tb 121) = true := (sl_mk_cons sl_k121_0 (sl_mk_cons sl_k121_1 (sl_mk_cons sl_k121_2 (sl_mk_nil _))))
set_option maxRecDepth 100000 in
theorem sl_k122_0 : sl_mk1 (yX10_isWay, cX10_isWay, 2, (some .boolean), 1, 23, false, 1) sl_t122_0 = true := by decide +kernel
theorem sl_k122 : sl_mk (yX10_isWay, cX10_isWay, 2, (some .boolean), 1, 23, false, 1) (sl_tb 122) = true := (sl_mk_cons sl_k122_0 (sl_mk_nil _))
set_option maxRecDepth 100000 in
theorem sl_k123_0 : sl_mk1 (yX10_wayTold, cX10_wayTold, 4, (some .int), 2, 44, false, 3) sl_t123_0 = true := by decide +kernel
set_option maxRecDepth 100000 in
theorem sl_k123_1 : sl_mk1 (yX10_wayTold, cX10_wayTold, 4, (some .int), 2, 44, false, 3) sl_t123_1 = true := by decide +kernel
theorem sl_k123 : sl_mk (yX10_wayTold, cX10_wayTold, 4, (some .int), 2, 44, false, 3) (sl_tb 123) = true := (sl_mk_cons sl_k123_0 (sl_mk_cons sl_k123_1 (sl_mk_nil _)))
set_option maxRecDepth 100000 in
theorem sl_k124_0 : sl_mk1 (yX10_begin, cX10_begin, 2, none, 0, 0, false, 1) sl_t124_0 = true := by decide +kernel
theorem sl_k124 : sl_mk (yX10_begin, cX10_begin, 2, none, 0, 0, false, 1) (sl_tb 124) = true := (sl_mk_cons sl_k124_0 (sl_mk_nil _))
set_option maxRecDepth 100000 in
theorem sl_k125_0 : sl_mk1 (yX10_go, cX10_go, 2, (some .int), 2, 44, false, 1) sl_t125_0 = true := by decide +kernel
theorem sl_k125 : sl_mk (yX10_go, cX10_go, 2, (some .int), 2, 44, false, 1) (sl_tb 125) = true := (sl_mk_cons sl_k125_0 (sl_mk_nil _))
set_option maxRecDepth 100000 in
theorem sl_k126_0 : sl_mk1 (yX10_level, cX10_level, 3, (some .int), 2, 44, false, 2) sl_t126_0 = true := by decide +kernel
theorem sl_k126 : sl_mk (yX10_level, cX10_level, 3, (some .int), 2, 44, false, 2) (sl_tb 126) = true := (sl_mk_cons sl_k126_0 (sl_mk_nil _))
set_option maxRecDepth 100000 in
theorem sl_k127_0 : sl_mk1 (yX10_flow, cX10_flow, 3, (some .int), 2, 45, false, 2) sl_t127_0 = true := by decide +kernel
theorem sl_k127 : sl_mk (yX10_flow, cX10_flow, 3, (some .int), 2, 45, false, 2) (sl_tb 127) = true := (sl_mk_cons sl_k127_0 (sl_mk_nil _))
set_option maxRecDepth 100000 in
theorem sl_k128_0 : sl_mk1 (yX10_tankTold, cX10_tankTold, 3, (some .int), 2, 44, false, 2) sl_t128_0 = true := by decide +kernel
set_option maxRecDepth 100000 in
theorem sl_k128_1 : sl_mk1 (yX10_tankTold, cX10_tankTold, 3, (some .int), 2, 44, false, 2) sl_t128_1 = true := by decide +kernel
theorem sl_k128 : sl_mk (yX10_tankTold, cX10_tankTold, 3, (some .int), 2, 44, false, 2) (sl_tb 128) = true := (sl_mk_cons sl_k128_0 (sl_mk_cons sl_k128_1 (sl_mk_nil _)))
set_option maxRecDepth 100000 in
theorem sl_k129_0 : sl_mk1 (yX10_kindTold, cX10_kindTold, 4, (some .int), 1, 23, false, 3) sl_t129_0 = true := by decide +kernel
set_option maxRecDepth 100000 in
theorem sl_k129_1 : sl_mk1 (yX10_kindTold, cX10_kindTold, 4, (some .int), 1, 23, false, 3) sl_t129_1 = true := by decide +kernel
theorem sl_k129 : sl_mk (yX10_kindTold, cX10_kindTold, 4, (some .int), 1, 23, false, 3) (sl_tb 129) = true := (sl_mk_cons sl_k129_0 (sl_mk_cons sl_k129_1 (sl_mk_nil _)))
set_option maxRecDepth 100000 in
theorem sl_k130_0 : sl_mk1 (yX10_feedTold, cX10_feedTold, 3, (some .int), 1, 23, false, 2) sl_t130_0 = true := by decide +kernel
set_option maxRecDepth 100000 in
theorem sl_k130_1 : sl_mk1 (yX10_feedTold, cX10_feedTold, 3, (some .int), 1, 23, false, 2) sl_t130_1 = true := by decide +kernel
theorem sl_k130 : sl_mk (yX10_feedTold, cX10_feedTold, 3, (some .int), 1, 23, false, 2) (sl_tb 130) = true := (sl_mk_cons sl_k130_0 (sl_mk_cons sl_k130_1 (sl_mk_nil _)))
set_option maxRecDepth 100000 in
theorem sl_k131_0 : sl_mk1 (yX10_pulls, cX10_pulls, 2, (some .int), 2, 43, false, 1) sl_t131_0 = true := by decide +kernel
theorem sl_k131 : sl_mk (yX10_pulls, cX10_pulls, 2, (some .int), 2, 43, false, 1) (sl_tb 131) = true := (sl_mk_cons sl_k131_0 (sl_mk_nil _))
set_option maxRecDepth 100000 in
theorem sl_k132_0 : sl_mk1 (yX10_count, cX10_count, 2, (some .int), 0, 0, false, 1) sl_t132_0 = true := by decide +kernel
set_option maxRecDepth 100000 in
theorem sl_k132_1 : sl_mk1 (yX10_count, cX10_count, 2, (some .int), 0, 0, false, 1) sl_t132_1 = true := by decide +kernel
theorem sl_k132 : sl_mk (yX10_count, cX10_count, 2, (some .int), 0, 0, false, 1) (sl_tb 132) = true := (sl_mk_cons sl_k132_0 (sl_mk_cons sl_k132_1 (sl_mk_nil _)))
set_option maxRecDepth 100000 in
theorem sl_k133_0 : sl_mk1 (yX10_keep, cX10_keep, 3, none, 0, 0, false, 1) sl_t133_0 = true := by decide +kernel
set_option maxRecDepth 100000 in
theorem sl_k133_1 : sl_mk1 (yX10_keep, cX10_keep, 3, none, 0, 0, false, 1) sl_t133_1 = true := by decide +kernel
set_option maxRecDepth 100000 in
theorem sl_k133_2 : sl_mk1 (yX10_keep, cX10_keep, 3, none, 0, 0, false, 1) sl_t133_2 = true := by decide +kernel
set_option maxRecDepth 100000 in
theorem sl_k133_3 : sl_mk1 (yX10_keep, cX10_keep, 3, none, 0, 0, false, 1) sl_t133_3 = true := by decide +kernel
set_option maxRecDepth 100000 in
theorem sl_k133_4 : sl_mk1 (yX10_keep, cX10_keep, 3, none, 0, 0, false, 1) sl_t133_4 = true := by decide +kernel
set_option maxRecDepth 100000 in
theorem sl_k133_5 : sl_mk1 (yX10_keep, cX10_keep, 3, none, 0, 0, false, 1) sl_t133_5 = true := by decide +kernel
theorem sl_k133 : sl_mk (yX10_keep, cX10_keep, 3, none, 0, 0, false, 1) (sl_tb 133) = true := (sl_mk_cons sl_k133_0 (sl_mk_cons sl_k133_1 (sl_mk_cons sl_k133_2 (sl_mk_cons sl_k133_3 (sl_mk_cons sl_k133_4 (sl_mk_cons sl_k133_5 (sl_mk_nil _)))))))
set_option maxRecDepth 100000 in
theorem sl_k134_0 : sl_mk1 (yX10_putBack, cX10_putBack, 3, none, 0, 0, false, 1) sl_t134_0 = true := by decide +kernel
set_option maxRecDepth 100000 in
theorem sl_k134_1 : sl_mk1 (yX10_putBack, cX10_putBack, 3, none, 0, 0, false, 1) sl_t134_1 = true := by decide +kernel
set_option maxRecDepth 100000 in
theorem sl_k134_2 : sl_mk1 (yX10_putBack, cX10_putBack, 3, none, 0, 0, false, 1) sl_t134_2 = true := by decide +kernel
set_option maxRecDepth 100000 in
theorem sl_k134_3 : sl_mk1 (yX10_putBack, cX10_putBack, 3, none, 0, 0, false, 1) sl_t134_3 = true := by decide +kernel
set_option maxRecDepth 100000 in
theorem sl_k134_4 : sl_mk1 (yX10_putBack, cX10_putBack, 3, none, 0, 0, false, 1) sl_t134_4 = true := by decide +kernel
set_option maxRecDepth 100000 in
theorem sl_k134_5 : sl_mk1 (yX10_putBack, cX10_putBack, 3, none, 0, 0, false, 1) sl_t134_5 = true := by decide +kernel
theorem sl_k134 : sl_mk (yX10_putBack, cX10_putBack, 3, none, 0, 0, false, 1) (sl_tb 134) = true := (sl_mk_cons sl_k134_0 (sl_mk_cons sl_k134_1 (sl_mk_cons sl_k134_2 (sl_mk_cons sl_k134_3 (sl_mk_cons sl_k134_4 (sl_mk_cons sl_k134_5 (sl_mk_nil _)))))))
set_option maxRecDepth 100000 in
theorem sl_k135_0 : sl_mk1 (yX10_worst, cX10_worst, 5, (some .int), 3, 73, false, 2) sl_t135_0 = true := by decide +kernel
set_option maxRecDepth 100000 in
theorem sl_k135_1 : sl_mk1 (yX10_worst, cX10_worst, 5, (some .int), 3, 73, false, 2) sl_t135_1 = true := by decide +kernel
theorem sl_k135 : sl_mk (yX10_worst, cX10_worst, 5, (some .int), 3, 73, false, 2) (sl_tb 135) = true := (sl_mk_cons sl_k135_0 (sl_mk_cons sl_k135_1 (sl_mk_nil _)))
set_option maxRecDepth 100000 in
theorem sl_k136_0 : sl_mk1 (yX10_isOn, cX10_isOn, 2, (some .boolean), 2, 44, false, 1) sl_t136_0 = true := by decide +kernel
theorem sl_k136 : sl_mk (yX10_isOn, cX10_isOn, 2, (some .boolean), 2, 44, false, 1) (sl_tb 136) = true := (sl_mk_cons sl_k136_0 (sl_mk_nil _))
set_option maxRecDepth 100000 in
theorem sl_k137_0 : sl_mk1 (yX10_beside, cX10_beside, 8, (some .int), 4, 97, false, 3) sl_t137_0 = true := by decide +kernel
set_option maxRecDepth 100000 in
theorem sl_k137_1 : sl_mk1 (yX10_beside, cX10_beside, 8, (some .int), 4, 97, false, 3) sl_t137_1 = true := by decide +kernel
set_option maxRecDepth 100000 in
theorem sl_k137_2 : sl_mk1 (yX10_beside, cX10_beside, 8, (some .int), 4, 97, false, 3) sl_t137_2 = true := by decide +kernel
theorem sl_k137 : sl_mk (yX10_beside, cX10_beside, 8, (some .int), 4, 97, false, 3) (sl_tb 137) = true := (sl_mk_cons sl_k137_0 (sl_mk_cons sl_k137_1 (sl_mk_cons sl_k137_2 (sl_mk_nil _))))
set_option maxRecDepth 100000 in
theorem sl_k138_0 : sl_mk1 (yX10_stepOf, cX10_stepOf, 4, (some .int), 1, 21, false, 2) sl_t138_0 = true := by decide +kernel
theorem sl_k138 : sl_mk (yX10_stepOf, cX10_stepOf, 4, (some .int), 1, 21, false, 2) (sl_tb 138) = true := (sl_mk_cons sl_k138_0 (sl_mk_nil _))
set_option maxRecDepth 100000 in
theorem sl_k139_0 : sl_mk1 (yX10_worstFill, cX10_worstFill, 8, (some .int), 4, 97, false, 3) sl_t139_0 = true := by decide +kernel
set_option maxRecDepth 100000 in
theorem sl_k139_1 : sl_mk1 (yX10_worstFill, cX10_worstFill, 8, (some .int), 4, 97, false, 3) sl_t139_1 = true := by decide +kernel
set_option maxRecDepth 100000 in
theorem sl_k139_2 : sl_mk1 (yX10_worstFill, cX10_worstFill, 8, (some .int), 4, 97, false, 3) sl_t139_2 = true := by decide +kernel
theorem sl_k139 : sl_mk (yX10_worstFill, cX10_worstFill, 8, (some .int), 4, 97, false, 3) (sl_tb 139) = true := (sl_mk_cons sl_k139_0 (sl_mk_cons sl_k139_1 (sl_mk_cons sl_k139_2 (sl_mk_nil _))))
set_option maxRecDepth 100000 in
theorem sl_k140_0 : sl_mk1 (yX10_ones, cX10_ones, 4, (some .int), 0, 0, false, 1) sl_t140_0 = true := by decide +kernel
theorem sl_k140 : sl_mk (yX10_ones, cX10_ones, 4, (some .int), 0, 0, false, 1) (sl_tb 140) = true := (sl_mk_cons sl_k140_0 (sl_mk_nil _))
set_option maxRecDepth 100000 in
theorem sl_k141_0 : sl_mk1 (yX10_walls, cX10_walls, 9, (some .int), 4, 97, false, 4) sl_t141_0 = true := by decide +kernel
set_option maxRecDepth 100000 in
theorem sl_k141_1 : sl_mk1 (yX10_walls, cX10_walls, 9, (some .int), 4, 97, false, 4) sl_t141_1 = true := by decide +kernel
set_option maxRecDepth 100000 in
theorem sl_k141_2 : sl_mk1 (yX10_walls, cX10_walls, 9, (some .int), 4, 97, false, 4) sl_t141_2 = true := by decide +kernel
set_option maxRecDepth 100000 in
theorem sl_k141_3 : sl_mk1 (yX10_walls, cX10_walls, 9, (some .int), 4, 97, false, 4) sl_t141_3 = true := by decide +kernel
set_option maxRecDepth 100000 in
theorem sl_k141_4 : sl_mk1 (yX10_walls, cX10_walls, 9, (some .int), 4, 97, false, 4) sl_t141_4 = true := by decide +kernel
set_option maxRecDepth 100000 in
theorem sl_k141_5 : sl_mk1 (yX10_walls, cX10_walls, 9, (some .int), 4, 97, false, 4) sl_t141_5 = true := by decide +kernel
set_option maxRecDepth 100000 in
theorem sl_k141_6 : sl_mk1 (yX10_walls, cX10_walls, 9, (some .int), 4, 97, false, 4) sl_t141_6 = true := by decide +kernel
set_option maxRecDepth 100000 in
theorem sl_k141_7 : sl_mk1 (yX10_walls, cX10_walls, 9, (some .int), 4, 97, false, 4) sl_t141_7 = true := by decide +kernel
theorem sl_k141 : sl_mk (yX10_walls, cX10_walls, 9, (some .int), 4, 97, false, 4) (sl_tb 141) = true := (sl_mk_cons sl_k141_0 (sl_mk_cons sl_k141_1 (sl_mk_cons sl_k141_2 (sl_mk_cons sl_k141_3 (sl_mk_cons sl_k141_4 (sl_mk_cons sl_k141_5 (sl_mk_cons sl_k141_6 (sl_mk_cons sl_k141_7 (sl_mk_nil _)))))))))
set_option maxRecDepth 100000 in
theorem sl_k142_0 : sl_mk1 (yX10_wallsPull, cX10_wallsPull, 1, (some .int), 0, 0, false, 0) sl_t142_0 = true := by decide +kernel
theorem sl_k142 : sl_mk (yX10_wallsPull, cX10_wallsPull, 1, (some .int), 0, 0, false, 0) (sl_tb 142) = true := (sl_mk_cons sl_k142_0 (sl_mk_nil _))
set_option maxRecDepth 100000 in
theorem sl_k143_0 : sl_mk1 (yX10_unrank, cX10_unrank, 7, none, 0, 0, false, 1) sl_t143_0 = true := by decide +kernel
set_option maxRecDepth 100000 in
theorem sl_k143_1 : sl_mk1 (yX10_unrank, cX10_unrank, 7, none, 0, 0, false, 1) sl_t143_1 = true := by decide +kernel
set_option maxRecDepth 100000 in
theorem sl_k143_2 : sl_mk1 (yX10_unrank, cX10_unrank, 7, none, 0, 0, false, 1) sl_t143_2 = true := by decide +kernel
theorem sl_k143 : sl_mk (yX10_unrank, cX10_unrank, 7, none, 0, 0, false, 1) (sl_tb 143) = true := (sl_mk_cons sl_k143_0 (sl_mk_cons sl_k143_1 (sl_mk_cons sl_k143_2 (sl_mk_nil _))))
set_option maxRecDepth 100000 in
theorem sl_k144_0 : sl_mk1 (yX10_drawOrder, cX10_drawOrder, 9, (some .int), 1, 26, false, 1) sl_t144_0 = true := by decide +kernel
set_option maxRecDepth 100000 in
theorem sl_k144_1 : sl_mk1 (yX10_drawOrder, cX10_drawOrder, 9, (some .int), 1, 26, false, 1) sl_t144_1 = true := by decide +kernel
set_option maxRecDepth 100000 in
theorem sl_k144_2 : sl_mk1 (yX10_drawOrder, cX10_drawOrder, 9, (some .int), 1, 26, false, 1) sl_t144_2 = true := by decide +kernel
set_option maxRecDepth 100000 in
theorem sl_k144_3 : sl_mk1 (yX10_drawOrder, cX10_drawOrder, 9, (some .int), 1, 26, false, 1) sl_t144_3 = true := by decide +kernel
set_option maxRecDepth 100000 in
theorem sl_k144_4 : sl_mk1 (yX10_drawOrder, cX10_drawOrder, 9, (some .int), 1, 26, false, 1) sl_t144_4 = true := by decide +kernel
theorem sl_k144 : sl_mk (yX10_drawOrder, cX10_drawOrder, 9, (some .int), 1, 26, false, 1) (sl_tb 144) = true := (sl_mk_cons sl_k144_0 (sl_mk_cons sl_k144_1 (sl_mk_cons sl_k144_2 (sl_mk_cons sl_k144_3 (sl_mk_cons sl_k144_4 (sl_mk_nil _))))))
set_option maxRecDepth 100000 in
theorem sl_k145_0 : sl_mk1 (yX10_record, cX10_record, 6, (some .int), 3, 65, false, 4) sl_t145_0 = true := by decide +kernel
set_option maxRecDepth 100000 in
theorem sl_k145_1 : sl_mk1 (yX10_record, cX10_record, 6, (some .int), 3, 65, false, 4) sl_t145_1 = true := by decide +kernel
set_option maxRecDepth 100000 in
theorem sl_k145_2 : sl_mk1 (yX10_record, cX10_record, 6, (some .int), 3, 65, false, 4) sl_t145_2 = true := by decide +kernel
set_option maxRecDepth 100000 in
theorem sl_k145_3 : sl_mk1 (yX10_record, cX10_record, 6, (some .int), 3, 65, false, 4) sl_t145_3 = true := by decide +kernel
theorem sl_k145 : sl_mk (yX10_record, cX10_record, 6, (some .int), 3, 65, false, 4) (sl_tb 145) = true := (sl_mk_cons sl_k145_0 (sl_mk_cons sl_k145_1 (sl_mk_cons sl_k145_2 (sl_mk_cons sl_k145_3 (sl_mk_nil _)))))
set_option maxRecDepth 100000 in
theorem sl_k146_0 : sl_mk1 (yX10_bar, cX10_bar, 4, (some .int), 1, 23, false, 2) sl_t146_0 = true := by decide +kernel
set_option maxRecDepth 100000 in
theorem sl_k146_1 : sl_mk1 (yX10_bar, cX10_bar, 4, (some .int), 1, 23, false, 2) sl_t146_1 = true := by decide +kernel
theorem sl_k146 : sl_mk (yX10_bar, cX10_bar, 4, (some .int), 1, 23, false, 2) (sl_tb 146) = true := (sl_mk_cons sl_k146_0 (sl_mk_cons sl_k146_1 (sl_mk_nil _)))
set_option maxRecDepth 100000 in
theorem sl_k147_0 : sl_mk1 (yX10_lets, cX10_lets, 9, (some .boolean), 3, 73, false, 4) sl_t147_0 = true := by decide +kernel
set_option maxRecDepth 100000 in
theorem sl_k147_1 : sl_mk1 (yX10_lets, cX10_lets, 9, (some .boolean), 3, 73, false, 4) sl_t147_1 = true := by decide +kernel
set_option maxRecDepth 100000 in
theorem sl_k147_2 : sl_mk1 (yX10_lets, cX10_lets, 9, (some .boolean), 3, 73, false, 4) sl_t147_2 = true := by decide +kernel
theorem sl_k147 : sl_mk (yX10_lets, cX10_lets, 9, (some .boolean), 3, 73, false, 4) (sl_tb 147) = true := (sl_mk_cons sl_k147_0 (sl_mk_cons sl_k147_1 (sl_mk_cons sl_k147_2 (sl_mk_nil _))))
set_option maxRecDepth 100000 in
theorem sl_k148_0 : sl_mk1 (yX10_fits, cX10_fits, 11, (some .int), 4, 101, false, 4) sl_t148_0 = true := by decide +kernel
set_option maxRecDepth 100000 in
theorem sl_k148_1 : sl_mk1 (yX10_fits, cX10_fits, 11, (some .int), 4, 101, false, 4) sl_t148_1 = true := by decide +kernel
set_option maxRecDepth 100000 in
theorem sl_k148_2 : sl_mk1 (yX10_fits, cX10_fits, 11, (some .int), 4, 101, false, 4) sl_t148_2 = true := by decide +kernel
set_option maxRecDepth 100000 in
theorem sl_k148_3 : sl_mk1 (yX10_fits, cX10_fits, 11, (some .int), 4, 101, false, 4) sl_t148_3 = true := by decide +kernel
theorem sl_k148 : sl_mk (yX10_fits, cX10_fits, 11, (some .int), 4, 101, false, 4) (sl_tb 148) = true := (sl_mk_cons sl_k148_0 (sl_mk_cons sl_k148_1 (sl_mk_cons sl_k148_2 (sl_mk_cons sl_k148_3 (sl_mk_nil _)))))
set_option maxRecDepth 100000 in
theorem sl_k149_0 : sl_mk1 (yX10_image, cX10_image, 1, (some .int), 1, 22, false, 0) sl_t149_0 = true := by decide +kernel
theorem sl_k149 : sl_mk (yX10_image, cX10_image, 1, (some .int), 1, 22, false, 0) (sl_tb 149) = true := (sl_mk_cons sl_k149_0 (sl_mk_nil _))
set_option maxRecDepth 100000 in
theorem sl_k150_0 : sl_mk1 (yX10_back, cX10_back, 2, (some .int), 1, 23, false, 0) sl_t150_0 = true := by decide +kernel
set_option maxRecDepth 100000 in
theorem sl_k150_1 : sl_mk1 (yX10_back, cX10_back, 2, (some .int), 1, 23, false, 0) sl_t150_1 = true := by decide +kernel
theorem sl_k150 : sl_mk (yX10_back, cX10_back, 2, (some .int), 1, 23, false, 0) (sl_tb 150) = true := (sl_mk_cons sl_k150_0 (sl_mk_cons sl_k150_1 (sl_mk_nil _)))
set_option maxRecDepth 100000 in
theorem sl_k151_0 : sl_mk1 (yX10_isSheet, cX10_isSheet, 2, (some .boolean), 1, 23, false, 1) sl_t151_0 = true := by decide +kernel
theorem sl_k151 : sl_mk (yX10_isSheet, cX10_isSheet, 2, (some .boolean), 1, 23, false, 1) (sl_tb 151) = true := (sl_mk_cons sl_k151_0 (sl_mk_nil _))
set_option maxRecDepth 100000 in
theorem sl_k152_0 : sl_mk1 (yX10_sheet, cX10_sheet, 5, (some .int), 2, 44, false, 3) sl_t152_0 = true := by decide +kernel
set_option maxRecDepth 100000 in
theorem sl_k152_1 : sl_mk1 (yX10_sheet, cX10_sheet, 5, (some .int), 2, 44, false, 3) sl_t152_1 = true := by decide +kernel
theorem sl_k152 : sl_mk (yX10_sheet, cX10_sheet, 5, (some .int), 2, 44, false, 3) (sl_tb 152) = true := (sl_mk_cons sl_k152_0 (sl_mk_cons sl_k152_1 (sl_mk_nil _)))
set_option maxRecDepth 100000 in
theorem sl_k153_0 : sl_mk1 (yX10_cell, cX10_cell, 4, (some .int), 2, 44, false, 3) sl_t153_0 = true := by decide +kernel
set_option maxRecDepth 100000 in
theorem sl_k153_1 : sl_mk1 (yX10_cell, cX10_cell, 4, (some .int), 2, 44, false, 3) sl_t153_1 = true := by decide +kernel
theorem sl_k153 : sl_mk (yX10_cell, cX10_cell, 4, (some .int), 2, 44, false, 3) (sl_tb 153) = true := (sl_mk_cons sl_k153_0 (sl_mk_cons sl_k153_1 (sl_mk_nil _)))
set_option maxRecDepth 100000 in
theorem sl_k154_0 : sl_mk1 (yX10_copy, cX10_copy, 7, (some .int), 2, 44, false, 5) sl_t154_0 = true := by decide +kernel
set_option maxRecDepth 100000 in
theorem sl_k154_1 : sl_mk1 (yX10_copy, cX10_copy, 7, (some .int), 2, 44, false, 5) sl_t154_1 = true := by decide +kernel
set_option maxRecDepth 100000 in
theorem sl_k154_2 : sl_mk1 (yX10_copy, cX10_copy, 7, (some .int), 2, 44, false, 5) sl_t154_2 = true := by decide +kernel
set_option maxRecDepth 100000 in
theorem sl_k154_3 : sl_mk1 (yX10_copy, cX10_copy, 7, (some .int), 2, 44, false, 5) sl_t154_3 = true := by decide +kernel
theorem sl_k154 : sl_mk (yX10_copy, cX10_copy, 7, (some .int), 2, 44, false, 5) (sl_tb 154) = true := (sl_mk_cons sl_k154_0 (sl_mk_cons sl_k154_1 (sl_mk_cons sl_k154_2 (sl_mk_cons sl_k154_3 (sl_mk_nil _)))))
set_option maxRecDepth 100000 in
theorem sl_k155_0 : sl_mk1 (yX10_tanks, cX10_tanks, 8, (some .int), 2, 47, false, 4) sl_t155_0 = true := by decide +kernel
set_option maxRecDepth 100000 in
theorem sl_k155_1 : sl_mk1 (yX10_tanks, cX10_tanks, 8, (some .int), 2, 47, false, 4) sl_t155_1 = true := by decide +kernel
set_option maxRecDepth 100000 in
theorem sl_k155_2 : sl_mk1 (yX10_tanks, cX10_tanks, 8, (some .int), 2, 47, false, 4) sl_t155_2 = true := by decide +kernel
set_option maxRecDepth 100000 in
theorem sl_k155_3 : sl_mk1 (yX10_tanks, cX10_tanks, 8, (some .int), 2, 47, false, 4) sl_t155_3 = true := by decide +kernel
theorem sl_k155 : sl_mk (yX10_tanks, cX10_tanks, 8, (some .int), 2, 47, false, 4) (sl_tb 155) = true := (sl_mk_cons sl_k155_0 (sl_mk_cons sl_k155_1 (sl_mk_cons sl_k155_2 (sl_mk_cons sl_k155_3 (sl_mk_nil _)))))
set_option maxRecDepth 100000 in
theorem sl_k156_0 : sl_mk1 (yX10_isOfKind, cX10_isOfKind, 3, (some .boolean), 0, 0, false, 2) sl_t156_0 = true := by decide +kernel
set_option maxRecDepth 100000 in
theorem sl_k156_1 : sl_mk1 (yX10_isOfKind, cX10_isOfKind, 3, (some .boolean), 0, 0, false, 2) sl_t156_1 = true := by decide +kernel
theorem sl_k156 : sl_mk (yX10_isOfKind, cX10_isOfKind, 3, (some .boolean), 0, 0, false, 2) (sl_tb 156) = true := (sl_mk_cons sl_k156_0 (sl_mk_cons sl_k156_1 (sl_mk_nil _)))
set_option maxRecDepth 100000 in
theorem sl_k157_0 : sl_mk1 (yX10_taken, cX10_taken, 4, (some .int), 1, 23, false, 3) sl_t157_0 = true := by decide +kernel
set_option maxRecDepth 100000 in
theorem sl_k157_1 : sl_mk1 (yX10_taken, cX10_taken, 4, (some .int), 1, 23, false, 3) sl_t157_1 = true := by decide +kernel
set_option maxRecDepth 100000 in
theorem sl_k157_2 : sl_mk1 (yX10_taken, cX10_taken, 4, (some .int), 1, 23, false, 3) sl_t157_2 = true := by decide +kernel
theorem sl_k157 : sl_mk (yX10_taken, cX10_taken, 4, (some .int), 1, 23, false, 3) (sl_tb 157) = true := (sl_mk_cons sl_k157_0 (sl_mk_cons sl_k157_1 (sl_mk_cons sl_k157_2 (sl_mk_nil _))))
set_option maxRecDepth 100000 in
theorem sl_k158_0 : sl_mk1 (yJ6_bitCount_0f7a4, cJ6_bitCount_0f7a4, 1, (some .int), 0, 0, true, 1) sl_t158_0 = true := by decide +kernel
set_option maxRecDepth 100000 in
theorem sl_k158_1 : sl_mk1 (yJ6_bitCount_0f7a4, cJ6_bitCount_0f7a4, 1, (some .int), 0, 0, true, 1) sl_t158_1 = true := by decide +kernel
theorem sl_k158 : sl_mk (yJ6_bitCount_0f7a4, cJ6_bitCount_0f7a4, 1, (some .int), 0, 0, true, 1) (sl_tb 158) = true := (sl_mk_cons sl_k158_0 (sl_mk_cons sl_k158_1 (sl_mk_nil _)))
set_option maxRecDepth 100000 in
theorem sl_k159_0 : sl_mk1 (yJ7_fill_53178, cJ7_fill_53178, 4, none, 0, 0, true, 2) sl_t159_0 = true := by decide +kernel
theorem sl_k159 : sl_mk (yJ7_fill_53178, cJ7_fill_53178, 4, none, 0, 0, true, 2) (sl_tb 159) = true := (sl_mk_cons sl_k159_0 (sl_mk_nil _))
set_option maxRecDepth 100000 in
theorem sl_k160_0 : sl_mk1 (yL_law, cL_law, 4, (some .boolean), 8, 300, false, 1) sl_t160_0 = true := by decide +kernel
set_option maxRecDepth 100000 in
theorem sl_k160_1 : sl_mk1 (yL_law, cL_law, 4, (some .boolean), 8, 300, false, 1) sl_t160_1 = true := by decide +kernel
set_option maxRecDepth 100000 in
theorem sl_k160_2 : sl_mk1 (yL_law, cL_law, 4, (some .boolean), 8, 300, false, 1) sl_t160_2 = true := by decide +kernel
set_option maxRecDepth 100000 in
theorem sl_k160_3 : sl_mk1 (yL_law, cL_law, 4, (some .boolean), 8, 300, false, 1) sl_t160_3 = true := by decide +kernel
set_option maxRecDepth 100000 in
theorem sl_k160_4 : sl_mk1 (yL_law, cL_law, 4, (some .boolean), 8, 300, false, 1) sl_t160_4 = true := by decide +kernel
set_option maxRecDepth 100000 in
theorem sl_k160_5 : sl_mk1 (yL_law, cL_law, 4, (some .boolean), 8, 300, false, 1) sl_t160_5 = true := by decide +kernel
set_option maxRecDepth 100000 in
theorem sl_k160_6 : sl_mk1 (yL_law, cL_law, 4, (some .boolean), 8, 300, false, 1) sl_t160_6 = true := by decide +kernel
set_option maxRecDepth 100000 in
theorem sl_k160_7 : sl_mk1 (yL_law, cL_law, 4, (some .boolean), 8, 300, false, 1) sl_t160_7 = true := by decide +kernel
set_option maxRecDepth 100000 in
theorem sl_k160_8 : sl_mk1 (yL_law, cL_law, 4, (some .boolean), 8, 300, false, 1) sl_t160_8 = true := by decide +kernel
set_option maxRecDepth 100000 in
theorem sl_k160_9 : sl_mk1 (yL_law, cL_law, 4, (some .boolean), 8, 300, false, 1) sl_t160_9 = true := by decide +kernel
set_option maxRecDepth 100000 in
theorem sl_k160_10 : sl_mk1 (yL_law, cL_law, 4, (some .boolean), 8, 300, false, 1) sl_t160_10 = true := by decide +kernel
set_option maxRecDepth 100000 in
theorem sl_k160_11 : sl_mk1 (yL_law, cL_law, 4, (some .boolean), 8, 300, false, 1) sl_t160_11 = true := by decide +kernel
set_option maxRecDepth 100000 in
theorem sl_k160_12 : sl_mk1 (yL_law, cL_law, 4, (some .boolean), 8, 300, false, 1) sl_t160_12 = true := by decide +kernel
set_option maxRecDepth 100000 in
theorem sl_k160_13 : sl_mk1 (yL_law, cL_law, 4, (some .boolean), 8, 300, false, 1) sl_t160_13 = true := by decide +kernel
set_option maxRecDepth 100000 in
theorem sl_k160_14 : sl_mk1 (yL_law, cL_law, 4, (some .boolean), 8, 300, false, 1) sl_t160_14 = true := by decide +kernel
set_option maxRecDepth 100000 in
theorem sl_k160_15 : sl_mk1 (yL_law, cL_law, 4, (some .boolean), 8, 300, false, 1) sl_t160_15 = true := by decide +kernel
set_option maxRecDepth 100000 in
theorem sl_k160_16 : sl_mk1 (yL_law, cL_law, 4, (some .boolean), 8, 300, false, 1) sl_t160_16 = true := by decide +kernel
set_option maxRecDepth 100000 in
theorem sl_k160_17 : sl_mk1 (yL_law, cL_law, 4, (some .boolean), 8, 300, false, 1) sl_t160_17 = true := by decide +kernel
set_option maxRecDepth 100000 in
theorem sl_k160_18 : sl_mk1 (yL_law, cL_law, 4, (some .boolean), 8, 300, false, 1) sl_t160_18 = true := by decide +kernel
set_option maxRecDepth 100000 in
theorem sl_k160_19 : sl_mk1 (yL_law, cL_law, 4, (some .boolean), 8, 300, false, 1) sl_t160_19 = true := by decide +kernel
set_option maxRecDepth 100000 in
theorem sl_k160_20 : sl_mk1 (yL_law, cL_law, 4, (some .boolean), 8, 300, false, 1) sl_t160_20 = true := by decide +kernel
set_option maxRecDepth 100000 in
theorem sl_k160_21 : sl_mk1 (yL_law, cL_law, 4, (some .boolean), 8, 300, false, 1) sl_t160_21 = true := by decide +kernel
set_option maxRecDepth 100000 in
theorem sl_k160_22 : sl_mk1 (yL_law, cL_law, 4, (some .boolean), 8, 300, false, 1) sl_t160_22 = true := by decide +kernel
set_option maxRecDepth 100000 in
theorem sl_k160_23 : sl_mk1 (yL_law, cL_law, 4, (some .boolean), 8, 300, false, 1) sl_t160_23 = true := by decide +kernel
set_option maxRecDepth 100000 in
theorem sl_k160_24 : sl_mk1 (yL_law, cL_law, 4, (some .boolean), 8, 300, false, 1) sl_t160_24 = true := by decide +kernel
set_option maxRecDepth 100000 in
theorem sl_k160_25 : sl_mk1 (yL_law, cL_law, 4, (some .boolean), 8, 300, false, 1) sl_t160_25 = true := by decide +kernel
set_option maxRecDepth 100000 in
theorem sl_k160_26 : sl_mk1 (yL_law, cL_law, 4, (some .boolean), 8, 300, false, 1) sl_t160_26 = true := by decide +kernel
set_option maxRecDepth 100000 in
theorem sl_k160_27 : sl_mk1 (yL_law, cL_law, 4, (some .boolean), 8, 300, false, 1) sl_t160_27 = true := by decide +kernel
set_option maxRecDepth 100000 in
theorem sl_k160_28 : sl_mk1 (yL_law, cL_law, 4, (some .boolean), 8, 300, false, 1) sl_t160_28 = true := by decide +kernel
set_option maxRecDepth 100000 in
theorem sl_k160_29 : sl_mk1 (yL_law, cL_law, 4, (some .boolean), 8, 300, false, 1) sl_t160_29 = true := by decide +kernel
set_option maxRecDepth 100000 in
theorem sl_k160_30 : sl_mk1 (yL_law, cL_law, 4, (some .boolean), 8, 300, false, 1) sl_t160_30 = true := by decide +kernel
set_option maxRecDepth 100000 in
theorem sl_k160_31 : sl_mk1 (yL_law, cL_law, 4, (some .boolean), 8, 300, false, 1) sl_t160_31 = true := by decide +kernel
set_option maxRecDepth 100000 in
theorem sl_k160_32 : sl_mk1 (yL_law, cL_law, 4, (some .boolean), 8, 300, false, 1) sl_t160_32 = true := by decide +kernel
set_option maxRecDepth 100000 in
theorem sl_k160_33 : sl_mk1 (yL_law, cL_law, 4, (some .boolean), 8, 300, false, 1) sl_t160_33 = true := by decide +kernel
set_option maxRecDepth 100000 in
theorem sl_k160_34 : sl_mk1 (yL_law, cL_law, 4, (some .boolean), 8, 300, false, 1) sl_t160_34 = true := by decide +kernel
theorem sl_k160 : sl_mk (yL_law, cL_law, 4, (some .boolean), 8, 300, false, 1) (sl_tb 160) = true := (sl_mk_cons sl_k160_0 (sl_mk_cons sl_k160_1 (sl_mk_cons sl_k160_2 (sl_mk_cons sl_k160_3 (sl_mk_cons sl_k160_4 (sl_mk_cons sl_k160_5 (sl_mk_cons sl_k160_6 (sl_mk_cons sl_k160_7 (sl_mk_cons sl_k160_8 (sl_mk_cons sl_k160_9 (sl_mk_cons sl_k160_10 (sl_mk_cons sl_k160_11 (sl_mk_cons sl_k160_12 (sl_mk_cons sl_k160_13 (sl_mk_cons sl_k160_14 (sl_mk_cons sl_k160_15 (sl_mk_cons sl_k160_16 (sl_mk_cons sl_k160_17 (sl_mk_cons sl_k160_18 (sl_mk_cons sl_k160_19 (sl_mk_cons sl_k160_20 (sl_mk_cons sl_k160_21 (sl_mk_cons sl_k160_22 (sl_mk_cons sl_k160_23 (sl_mk_cons sl_k160_24 (sl_mk_cons sl_k160_25 (sl_mk_cons sl_k160_26 (sl_mk_cons sl_k160_27 (sl_mk_cons sl_k160_28 (sl_mk_cons sl_k160_29 (sl_mk_cons sl_k160_30 (sl_mk_cons sl_k160_31 (sl_mk_cons sl_k160_32 (sl_mk_cons sl_k160_33 (sl_mk_cons sl_k160_34 (sl_mk_nil _))))))))))))))))))))))))))))))))))))
theorem sl_kall (m : Nat) (info : sl_M) (h : sl_ms[m]? = some info) : sl_mk info (sl_tb m) = true := match m, h with
  | 0, h => by cases h; exact sl_k0
  | 1, h => by cases h; exact sl_k1
  | 2, h => by cases h; exact sl_k2
  | 3, h => by cases h; exact sl_k3
  | 4, h => by cases h; exact sl_k4
  | 5, h => by cases h; exact sl_k5
  | 6, h => by cases h; exact sl_k6
  | 7, h => by cases h; exact sl_k7
  | 8, h => by cases h; exact sl_k8
  | 9, h => by cases h; exact sl_k9
  | 10, h => by cases h; exact sl_k10
  | 11, h => by cases h; exact sl_k11
  | 12, h => by cases h; exact sl_k12
  | 13, h => by cases h; exact sl_k13
  | 14, h => by cases h; exact sl_k14
  | 15, h => by cases h; exact sl_k15
  | 16, h => by cases h; exact sl_k16
  | 17, h => by cases h; exact sl_k17
  | 18, h => by cases h; exact sl_k18
  | 19, h => by cases h; exact sl_k19
  | 20, h => by cases h; exact sl_k20
  | 21, h => by cases h; exact sl_k21
  | 22, h => by cases h; exact sl_k22
  | 23, h => by cases h; exact sl_k23
  | 24, h => by cases h; exact sl_k24
  | 25, h => by cases h; exact sl_k25
  | 26, h => by cases h; exact sl_k26
  | 27, h => by cases h; exact sl_k27
  | 28, h => by cases h; exact sl_k28
  | 29, h => by cases h; exact sl_k29
  | 30, h => by cases h; exact sl_k30
  | 31, h => by cases h; exact sl_k31
  | 32, h => by cases h; exact sl_k32
  | 33, h => by cases h; exact sl_k33
  | 34, h => by cases h; exact sl_k34
  | 35, h => by cases h; exact sl_k35
  | 36, h => by cases h; exact sl_k36
  | 37, h => by cases h; exact sl_k37
  | 38, h => by cases h; exact sl_k38
  | 39, h => by cases h; exact sl_k39
  | 40, h => by cases h; exact sl_k40
  | 41, h => by cases h; exact sl_k41
  | 42, h => by cases h; exact sl_k42
  | 43, h => by cases h; exact sl_k43
  | 44, h => by cases h; exact sl_k44
  | 45, h => by cases h; exact sl_k45
  | 46, h => by cases h; exact sl_k46
  | 47, h => by cases h; exact sl_k47
  | 48, h => by cases h; exact sl_k48
  | 49, h => by cases h; exact sl_k49
  | 50, h => by cases h; exact sl_k50
  | 51, h => by cases h; exact sl_k51
  | 52, h => by cases h; exact sl_k52
  | 53, h => by cases h; exact sl_k53
  | 54, h => by cases h; exact sl_k54
  | 55, h => by cases h; exact sl_k55
  | 56, h => by cases h; exact sl_k56
  | 57, h => by cases h; exact sl_k57
  | 58, h => by cases h; exact sl_k58
  | 59, h => by cases h; exact sl_k59
  | 60, h => by cases h; exact sl_k60
  | 61, h => by cases h; exact sl_k61
  | 62, h => by cases h; exact sl_k62
  | 63, h => by cases h; exact sl_k63
  | 64, h => by cases h; exact sl_k64
  | 65, h => by cases h; exact sl_k65
  | 66, h => by cases h; exact sl_k66
  | 67, h => by cases h; exact sl_k67
  | 68, h => by cases h; exact sl_k68
  | 69, h => by cases h; exact sl_k69
  | 70, h => by cases h; exact sl_k70
  | 71, h => by cases h; exact sl_k71
  | 72, h => by cases h; exact sl_k72
  | 73, h => by cases h; exact sl_k73
  | 74, h => by cases h; exact sl_k74
  | 75, h => by cases h; exact sl_k75
  | 76, h => by cases h; exact sl_k76
  | 77, h => by cases h; exact sl_k77
  | 78, h => by cases h; exact sl_k78
  | 79, h => by cases h; exact sl_k79
  | 80, h => by cases h; exact sl_k80
  | 81, h => by cases h; exact sl_k81
  | 82, h => by cases h; exact sl_k82
  | 83, h => by cases h; exact sl_k83
  | 84, h => by cases h; exact sl_k84
  | 85, h => by cases h; exact sl_k85
  | 86, h => by cases h; exact sl_k86
  | 87, h => by cases h; exact sl_k87
  | 88, h => by cases h; exact sl_k88
  | 89, h => by cases h; exact sl_k89
  | 90, h => by cases h; exact sl_k90
  | 91, h => by cases h; exact sl_k91
  | 92, h => by cases h; exact sl_k92
  | 93, h => by cases h; exact sl_k93
  | 94, h => by cases h; exact sl_k94
  | 95, h => by cases h; exact sl_k95
  | 96, h => by cases h; exact sl_k96
  | 97, h => by cases h; exact sl_k97
  | 98, h => by cases h; exact sl_k98
  | 99, h => by cases h; exact sl_k99
  | 100, h => by cases h; exact sl_k100
  | 101, h => by cases h; exact sl_k101
  | 102, h => by cases h; exact sl_k102
  | 103, h => by cases h; exact sl_k103
  | 104, h => by cases h; exact sl_k104
  | 105, h => by cases h; exact sl_k105
  | 106, h => by cases h; exact sl_k106
  | 107, h => by cases h; exact sl_k107
  | 108, h => by cases h; exact sl_k108
  | 109, h => by cases h; exact sl_k109
  | 110, h => by cases h; exact sl_k110
  | 111, h => by cases h; exact sl_k111
  | 112, h => by cases h; exact sl_k112
  | 113, h => by cases h; exact sl_k113
  | 114, h => by cases h; exact sl_k114
  | 115, h => by cases h; exact sl_k115
  | 116, h => by cases h; exact sl_k116
  | 117, h => by cases h; exact sl_k117
  | 118, h => by cases h; exact sl_k118
  | 119, h => by cases h; exact sl_k119
  | 120, h => by cases h; exact sl_k120
  | 121, h => by cases h; exact sl_k121
  | 122, h => by cases h; exact sl_k122
  | 123, h => by cases h; exact sl_k123
  | 124, h => by cases h; exact sl_k124
  | 125, h => by cases h; exact sl_k125
  | 126, h => by cases h; exact sl_k126
  | 127, h => by cases h; exact sl_k127
  | 128, h => by cases h; exact sl_k128
  | 129, h => by cases h; exact sl_k129
  | 130, h => by cases h; exact sl_k130
  | 131, h => by cases h; exact sl_k131
  | 132, h => by cases h; exact sl_k132
  | 133, h => by cases h; exact sl_k133
  | 134, h => by cases h; exact sl_k134
  | 135, h => by cases h; exact sl_k135
  | 136, h => by cases h; exact sl_k136
  | 137, h => by cases h; exact sl_k137
  | 138, h => by cases h; exact sl_k138
  | 139, h => by cases h; exact sl_k139
  | 140, h => by cases h; exact sl_k140
  | 141, h => by cases h; exact sl_k141
  | 142, h => by cases h; exact sl_k142
  | 143, h => by cases h; exact sl_k143
  | 144, h => by cases h; exact sl_k144
  | 145, h => by cases h; exact sl_k145
  | 146, h => by cases h; exact sl_k146
  | 147, h => by cases h; exact sl_k147
  | 148, h => by cases h; exact sl_k148
  | 149, h => by cases h; exact sl_k149
  | 150, h => by cases h; exact sl_k150
  | 151, h => by cases h; exact sl_k151
  | 152, h => by cases h; exact sl_k152
  | 153, h => by cases h; exact sl_k153
  | 154, h => by cases h; exact sl_k154
  | 155, h => by cases h; exact sl_k155
  | 156, h => by cases h; exact sl_k156
  | 157, h => by cases h; exact sl_k157
  | 158, h => by cases h; exact sl_k158
  | 159, h => by cases h; exact sl_k159
  | 160, h => by cases h; exact sl_k160
  | m + 161, h => by cases h
