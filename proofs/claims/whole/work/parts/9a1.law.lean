section SPLW
variable {xs : Nat → Int32} {N : Nat} {σ : sl_S} {Q : Option sl_V → sl_S → Prop}
theorem nI_p4 {k : Nat} : nI k + 4 = nI (k + 4) := nI_add k 4
theorem nI_p5 {k : Nat} : nI k + 5 = nI (k + 5) := nI_add k 5
theorem nI_p6 {k : Nat} : nI k + 6 = nI (k + 6) := nI_add k 6
theorem lw_cw (r : Option sl_V) : sl_cw (r.toList ++ []) ≤ 8 := by
  rcases r with _ | (_ | _ | _) <;> exact Nat.le_of_ble_eq_true rfl
theorem lw_tank (hN : N < 100000) (hA : jA σ) {i : Nat} (hi : i + 6 ≤ N) (ih : ∀ τ, jA τ → sl_Go xs N 160 18 [some (.inr (.inr (99, 0, 0))), some (.inr (.inr (0, 0, 0))), some (.inr (.inr (40, 0, 0))), some (.inl (nI (i + 6)))] [] τ Q) : sl_Go xs N 160 184 [some (.inr (.inr (99, 0, 0))), some (.inr (.inr (0, 0, 0))), some (.inr (.inr (40, 0, 0))), some (.inl (nI i))] [] σ Q := by
  obtain ⟨kd, cl, mt, mc, nT, nM, nW, nR, nF, h⟩ := hA
  simp (disch := omega) only [g160_184, g160_185, g160_186, g160_187, g160_188, g160_189, g160_190, g160_191, g160_192, g160_193, g160_194, g160_195, g160_196, g160_197, g160_198, g160_199, g160_200, g160_201, g160_202, g160_203, g160_204, g160_205, nI_toInt, nI_clamp, nI_1, nI_p2, nI_p3, nI_p4, nI_p5, sz_i99, sz_r99]
  repeat' (first | apply And.intro | (intro _))
  all_goals try first | omega | decide
  refine sl_Go.mono (o_tank h _ _ _ _) ?_
  intro r τ hq
  simp (disch := omega) only [g160_208, g160_209, g160_210, g160_211, g160_212, g160_213, g160_214, g160_215, g160_216, g160_217, g160_218, g160_219, g160_220, g160_221, g160_222, g160_223, g160_224, g160_225, g160_226, g160_227, g160_228, g160_229, nI_toInt, nI_clamp, nI_1, nI_p2, nI_p3, nI_p4, nI_p5, sz_i99, sz_r99]
  repeat' (first | apply And.intro | (intro _))
  all_goals try first | omega | decide | exact lw_cw r
  refine sl_Go.mono hq ?_
  rintro r2 τ2 ⟨v, ⟨rfl, rfl⟩, hA2⟩
  have q := ih τ2 hA2
  simp (disch := omega) only [g160_232, g160_1406n, g160_1406i, g160_1406r, g160_1409, Option.toList, List.cons_append, List.nil_append, nI_p6]
  repeat' (first | apply And.intro | (intro _))
  all_goals first | contradiction | exact q
theorem lw_wall (hN : N < 100000) (hA : jA σ) {i : Nat} (hi : i + 6 ≤ N) (ih : ∀ τ, jA τ → sl_Go xs N 160 18 [some (.inr (.inr (99, 0, 0))), some (.inr (.inr (0, 0, 0))), some (.inr (.inr (40, 0, 0))), some (.inl (nI (i + 6)))] [] τ Q) : sl_Go xs N 160 237 [some (.inr (.inr (99, 0, 0))), some (.inr (.inr (0, 0, 0))), some (.inr (.inr (40, 0, 0))), some (.inl (nI i))] [] σ Q := by
  obtain ⟨kd, cl, mt, mc, nT, nM, nW, nR, nF, h⟩ := hA
  simp (disch := omega) only [g160_237, g160_238, g160_239, g160_240, g160_241, g160_242, g160_243, g160_244, g160_245, g160_246, g160_247, g160_248, g160_249, g160_250, g160_251, g160_252, g160_253, nI_toInt, nI_clamp, nI_1, nI_p2, nI_p3, nI_p4, nI_p5, sz_i99, sz_r99]
  repeat' (first | apply And.intro | (intro _))
  all_goals try first | omega | decide
  refine sl_Go.mono (o_wall h _ _ _) ?_
  intro r τ hq
  simp (disch := omega) only [g160_256, g160_257, g160_258, g160_259, g160_260, g160_261, g160_262, g160_263, g160_264, g160_265, g160_266, g160_267, g160_268, g160_269, g160_270, g160_271, g160_272, nI_toInt, nI_clamp, nI_1, nI_p2, nI_p3, nI_p4, nI_p5, sz_i99, sz_r99]
  repeat' (first | apply And.intro | (intro _))
  all_goals try first | omega | decide | exact lw_cw r
  refine sl_Go.mono hq ?_
  rintro r2 τ2 ⟨v, ⟨rfl, rfl⟩, hA2⟩
  have q := ih τ2 hA2
  simp (disch := omega) only [g160_275, g160_1406n, g160_1406i, g160_1406r, g160_1409, Option.toList, List.cons_append, List.nil_append, nI_p6]
  repeat' (first | apply And.intro | (intro _))
  all_goals first | contradiction | exact q
theorem lw_fill (hN : N < 100000) (hA : jA σ) {i : Nat} (hi : i + 6 ≤ N) (ih : ∀ τ, jA τ → sl_Go xs N 160 18 [some (.inr (.inr (99, 0, 0))), some (.inr (.inr (0, 0, 0))), some (.inr (.inr (40, 0, 0))), some (.inl (nI (i + 6)))] [] τ Q) : sl_Go xs N 160 280 [some (.inr (.inr (99, 0, 0))), some (.inr (.inr (0, 0, 0))), some (.inr (.inr (40, 0, 0))), some (.inl (nI i))] [] σ Q := by
  obtain ⟨kd, cl, mt, mc, nT, nM, nW, nR, nF, h⟩ := hA
  simp (disch := omega) only [g160_280, g160_281, g160_282, g160_283, g160_284, g160_285, g160_286, g160_287, g160_288, g160_289, g160_290, g160_291, nI_toInt, nI_clamp, nI_1, nI_p2, nI_p3, nI_p4, nI_p5, sz_i99, sz_r99]
  repeat' (first | apply And.intro | (intro _))
  all_goals try first | omega | decide
  refine sl_Go.mono (o_fill h _ _) ?_
  intro r τ hq
  simp (disch := omega) only [g160_294, g160_295, g160_296, g160_297, g160_298, g160_299, g160_300, g160_301, g160_302, g160_303, g160_304, g160_305, nI_toInt, nI_clamp, nI_1, nI_p2, nI_p3, nI_p4, nI_p5, sz_i99, sz_r99]
  repeat' (first | apply And.intro | (intro _))
  all_goals try first | omega | decide | exact lw_cw r
  refine sl_Go.mono hq ?_
  rintro r2 τ2 ⟨v, ⟨rfl, rfl⟩, hA2⟩
  have q := ih τ2 hA2
  simp (disch := omega) only [g160_308, g160_1406n, g160_1406i, g160_1406r, g160_1409, Option.toList, List.cons_append, List.nil_append, nI_p6]
  repeat' (first | apply And.intro | (intro _))
  all_goals first | contradiction | exact q
theorem lw_feed (hN : N < 100000) (hA : jA σ) {i : Nat} (hi : i + 6 ≤ N) (ih : ∀ τ, jA τ → sl_Go xs N 160 18 [some (.inr (.inr (99, 0, 0))), some (.inr (.inr (0, 0, 0))), some (.inr (.inr (40, 0, 0))), some (.inl (nI (i + 6)))] [] τ Q) : sl_Go xs N 160 313 [some (.inr (.inr (99, 0, 0))), some (.inr (.inr (0, 0, 0))), some (.inr (.inr (40, 0, 0))), some (.inl (nI i))] [] σ Q := by
  obtain ⟨kd, cl, mt, mc, nT, nM, nW, nR, nF, h⟩ := hA
  simp (disch := omega) only [g160_313, g160_314, g160_315, g160_316, g160_317, g160_318, g160_319, g160_320, g160_321, g160_322, g160_323, g160_324, nI_toInt, nI_clamp, nI_1, nI_p2, nI_p3, nI_p4, nI_p5, sz_i99, sz_r99]
  repeat' (first | apply And.intro | (intro _))
  all_goals try first | omega | decide
  refine sl_Go.mono (o_feed h _ _) ?_
  intro r τ hq
  simp (disch := omega) only [g160_327, g160_328, g160_329, g160_330, g160_331, g160_332, g160_333, g160_334, g160_335, g160_336, g160_337, g160_338, nI_toInt, nI_clamp, nI_1, nI_p2, nI_p3, nI_p4, nI_p5, sz_i99, sz_r99]
  repeat' (first | apply And.intro | (intro _))
  all_goals try first | omega | decide | exact lw_cw r
  refine sl_Go.mono hq ?_
  rintro r2 τ2 ⟨v, ⟨rfl, rfl⟩, hA2⟩
  have q := ih τ2 hA2
  simp (disch := omega) only [g160_341, g160_1406n, g160_1406i, g160_1406r, g160_1409, Option.toList, List.cons_append, List.nil_append, nI_p6]
  repeat' (first | apply And.intro | (intro _))
  all_goals first | contradiction | exact q
theorem lw_draw (hN : N < 100000) (hA : jA σ) {i : Nat} (hi : i + 6 ≤ N) (ih : ∀ τ, jA τ → sl_Go xs N 160 18 [some (.inr (.inr (99, 0, 0))), some (.inr (.inr (0, 0, 0))), some (.inr (.inr (40, 0, 0))), some (.inl (nI (i + 6)))] [] τ Q) : sl_Go xs N 160 346 [some (.inr (.inr (99, 0, 0))), some (.inr (.inr (0, 0, 0))), some (.inr (.inr (40, 0, 0))), some (.inl (nI i))] [] σ Q := by
  obtain ⟨kd, cl, mt, mc, nT, nM, nW, nR, nF, h⟩ := hA
  simp (disch := omega) only [g160_346, g160_347, g160_348, g160_349, g160_350, g160_351, g160_352, g160_353, g160_354, g160_355, g160_356, g160_357, nI_toInt, nI_clamp, nI_1, nI_p2, nI_p3, nI_p4, nI_p5, sz_i99, sz_r99]
  repeat' (first | apply And.intro | (intro _))
  all_goals try first | omega | decide
  refine sl_Go.mono (o_draw h _ _) ?_
  intro r τ hq
  simp (disch := omega) only [g160_360, g160_361, g160_362, g160_363, g160_364, g160_365, g160_366, g160_367, g160_368, g160_369, g160_370, g160_371, nI_toInt, nI_clamp, nI_1, nI_p2, nI_p3, nI_p4, nI_p5, sz_i99, sz_r99]
  repeat' (first | apply And.intro | (intro _))
  all_goals try first | omega | decide | exact lw_cw r
  refine sl_Go.mono hq ?_
  rintro r2 τ2 ⟨v, ⟨rfl, rfl⟩, hA2⟩
  have q := ih τ2 hA2
  simp (disch := omega) only [g160_374, g160_1406n, g160_1406i, g160_1406r, g160_1409, Option.toList, List.cons_append, List.nil_append, nI_p6]
  repeat' (first | apply And.intro | (intro _))
  all_goals first | contradiction | exact q
theorem lw_lean (hN : N < 100000) (hA : jA σ) {i : Nat} (hi : i + 6 ≤ N) (ih : ∀ τ, jA τ → sl_Go xs N 160 18 [some (.inr (.inr (99, 0, 0))), some (.inr (.inr (0, 0, 0))), some (.inr (.inr (40, 0, 0))), some (.inl (nI (i + 6)))] [] τ Q) : sl_Go xs N 160 379 [some (.inr (.inr (99, 0, 0))), some (.inr (.inr (0, 0, 0))), some (.inr (.inr (40, 0, 0))), some (.inl (nI i))] [] σ Q := by
  obtain ⟨kd, cl, mt, mc, nT, nM, nW, nR, nF, h⟩ := hA
  simp (disch := omega) only [g160_379, g160_380, g160_381, g160_382, g160_383, g160_384, g160_385, nI_toInt, nI_clamp, nI_1, nI_p2, nI_p3, nI_p4, nI_p5, sz_i99, sz_r99]
  repeat' (first | apply And.intro | (intro _))
  all_goals try first | omega | decide
  refine sl_Go.mono (o_lean h _) ?_
  intro r τ hq
  simp (disch := omega) only [g160_388, g160_389, g160_390, g160_391, g160_392, g160_393, g160_394, nI_toInt, nI_clamp, nI_1, nI_p2, nI_p3, nI_p4, nI_p5, sz_i99, sz_r99]
  repeat' (first | apply And.intro | (intro _))
  all_goals try first | omega | decide | exact lw_cw r
  refine sl_Go.mono hq ?_
  rintro r2 τ2 ⟨v, ⟨rfl, rfl⟩, hA2⟩
  have q := ih τ2 hA2
  simp (disch := omega) only [g160_397, g160_1406n, g160_1406i, g160_1406r, g160_1409, Option.toList, List.cons_append, List.nil_append, nI_p6]
  repeat' (first | apply And.intro | (intro _))
  all_goals first | contradiction | exact q
theorem lw_carrier (hN : N < 100000) (hA : jA σ) {i : Nat} (hi : i + 6 ≤ N) (ih : ∀ τ, jA τ → sl_Go xs N 160 18 [some (.inr (.inr (99, 0, 0))), some (.inr (.inr (0, 0, 0))), some (.inr (.inr (40, 0, 0))), some (.inl (nI (i + 6)))] [] τ Q) : sl_Go xs N 160 402 [some (.inr (.inr (99, 0, 0))), some (.inr (.inr (0, 0, 0))), some (.inr (.inr (40, 0, 0))), some (.inl (nI i))] [] σ Q := by
  obtain ⟨kd, cl, mt, mc, nT, nM, nW, nR, nF, h⟩ := hA
  simp (disch := omega) only [g160_402, g160_403, g160_404, g160_405, g160_406, g160_407, g160_408, g160_409, g160_410, g160_411, g160_412, g160_413, nI_toInt, nI_clamp, nI_1, nI_p2, nI_p3, nI_p4, nI_p5, sz_i99, sz_r99]
  repeat' (first | apply And.intro | (intro _))
  all_goals try first | omega | decide
  refine sl_Go.mono (o_carrier h _ _) ?_
  intro r τ hq
  simp (disch := omega) only [g160_416, g160_417, g160_418, g160_419, g160_420, g160_421, g160_422, g160_423, g160_424, g160_425, g160_426, g160_427, nI_toInt, nI_clamp, nI_1, nI_p2, nI_p3, nI_p4, nI_p5, sz_i99, sz_r99]
  repeat' (first | apply And.intro | (intro _))
  all_goals try first | omega | decide | exact lw_cw r
  refine sl_Go.mono hq ?_
  rintro r2 τ2 ⟨v, ⟨rfl, rfl⟩, hA2⟩
  have q := ih τ2 hA2
  simp (disch := omega) only [g160_430, g160_1406n, g160_1406i, g160_1406r, g160_1409, Option.toList, List.cons_append, List.nil_append, nI_p6]
  repeat' (first | apply And.intro | (intro _))
  all_goals first | contradiction | exact q
theorem lw_run (hN : N < 100000) (hA : jA σ) {i : Nat} (hi : i + 6 ≤ N) (ih : ∀ τ, jA τ → sl_Go xs N 160 18 [some (.inr (.inr (99, 0, 0))), some (.inr (.inr (0, 0, 0))), some (.inr (.inr (40, 0, 0))), some (.inl (nI (i + 6)))] [] τ Q) : sl_Go xs N 160 435 [some (.inr (.inr (99, 0, 0))), some (.inr (.inr (0, 0, 0))), some (.inr (.inr (40, 0, 0))), some (.inl (nI i))] [] σ Q := by
  obtain ⟨kd, cl, mt, mc, nT, nM, nW, nR, nF, h⟩ := hA
  simp (disch := omega) only [g160_435, g160_436, g160_437, g160_438, g160_439, g160_440, g160_441, nI_toInt, nI_clamp, nI_1, nI_p2, nI_p3, nI_p4, nI_p5, sz_i99, sz_r99]
  repeat' (first | apply And.intro | (intro _))
  all_goals try first | omega | decide
  refine sl_Go.mono (o_run h _) ?_
  intro r τ hq
  simp (disch := omega) only [g160_444, g160_445, g160_446, g160_447, g160_448, g160_449, g160_450, nI_toInt, nI_clamp, nI_1, nI_p2, nI_p3, nI_p4, nI_p5, sz_i99, sz_r99]
  repeat' (first | apply And.intro | (intro _))
  all_goals try first | omega | decide | exact lw_cw r
  refine sl_Go.mono hq ?_
  rintro r2 τ2 ⟨v, ⟨rfl, rfl⟩, hA2⟩
  have q := ih τ2 hA2
  simp (disch := omega) only [g160_453, g160_1406n, g160_1406i, g160_1406r, g160_1409, Option.toList, List.cons_append, List.nil_append, nI_p6]
  repeat' (first | apply And.intro | (intro _))
  all_goals first | contradiction | exact q
theorem lw_tell (hN : N < 100000) (hA : jA σ) {i : Nat} (hi : i + 6 ≤ N) (ih : ∀ τ, jA τ → sl_Go xs N 160 18 [some (.inr (.inr (99, 0, 0))), some (.inr (.inr (0, 0, 0))), some (.inr (.inr (40, 0, 0))), some (.inl (nI (i + 6)))] [] τ Q) : sl_Go xs N 160 458 [some (.inr (.inr (99, 0, 0))), some (.inr (.inr (0, 0, 0))), some (.inr (.inr (40, 0, 0))), some (.inl (nI i))] [] σ Q := by
  obtain ⟨kd, cl, mt, mc, nT, nM, nW, nR, nF, h⟩ := hA
  simp (disch := omega) only [g160_458, g160_459, g160_460, g160_461, g160_462, g160_463, g160_464, g160_465, g160_467, g160_468, g160_469, g160_470, g160_471, g160_472, g160_473, g160_474, g160_477, g160_478, g160_479, g160_480, g160_481, g160_482, g160_483, g160_484, nI_toInt, nI_clamp, nI_1, nI_p2, nI_p3, nI_p4, nI_p5, sz_i99, sz_r99]
  repeat' (first | apply And.intro | (intro _))
  all_goals try first | omega | decide
  refine sl_Go.mono (o_tell h _ _) ?_
  intro r τ hq
  simp (disch := omega) only [g160_487, g160_488, g160_489, g160_490, g160_491, g160_492, g160_493, g160_494, g160_496, g160_497, g160_498, g160_499, g160_500, g160_501, g160_502, g160_503, g160_506, g160_507, g160_508, g160_509, g160_510, g160_511, g160_512, g160_513, nI_toInt, nI_clamp, nI_1, nI_p2, nI_p3, nI_p4, nI_p5, sz_i99, sz_r99]
  repeat' (first | apply And.intro | (intro _))
  all_goals try first | omega | decide | exact lw_cw r
  refine sl_Go.mono hq ?_
  rintro r2 τ2 ⟨v, ⟨rfl, rfl⟩, hA2⟩
  have q := ih τ2 hA2
  simp (disch := omega) only [g160_516, g160_1406n, g160_1406i, g160_1406r, g160_1409, Option.toList, List.cons_append, List.nil_append, nI_p6]
  repeat' (first | apply And.intro | (intro _))
  all_goals first | contradiction | exact q
theorem lw_way (hN : N < 100000) (hA : jA σ) {i : Nat} (hi : i + 6 ≤ N) (ih : ∀ τ, jA τ → sl_Go xs N 160 18 [some (.inr (.inr (99, 0, 0))), some (.inr (.inr (0, 0, 0))), some (.inr (.inr (40, 0, 0))), some (.inl (nI (i + 6)))] [] τ Q) : sl_Go xs N 160 521 [some (.inr (.inr (99, 0, 0))), some (.inr (.inr (0, 0, 0))), some (.inr (.inr (40, 0, 0))), some (.inl (nI i))] [] σ Q := by
  obtain ⟨kd, cl, mt, mc, nT, nM, nW, nR, nF, h⟩ := hA
  simp (disch := omega) only [g160_521, g160_522, nI_toInt, nI_clamp, nI_1, nI_p2, nI_p3, nI_p4, nI_p5, sz_i99, sz_r99]
  repeat' (first | apply And.intro | (intro _))
  all_goals try first | omega | decide
  refine sl_Go.mono (o_way h) ?_
  intro r τ hq
  simp (disch := omega) only [g160_525, g160_526, nI_toInt, nI_clamp, nI_1, nI_p2, nI_p3, nI_p4, nI_p5, sz_i99, sz_r99]
  repeat' (first | apply And.intro | (intro _))
  all_goals try first | omega | decide | exact lw_cw r
  refine sl_Go.mono hq ?_
  rintro r2 τ2 ⟨v, ⟨rfl, rfl⟩, hA2⟩
  have q := ih τ2 hA2
  simp (disch := omega) only [g160_529, g160_1406n, g160_1406i, g160_1406r, g160_1409, Option.toList, List.cons_append, List.nil_append, nI_p6]
  repeat' (first | apply And.intro | (intro _))
  all_goals first | contradiction | exact q
theorem lw_wayTold (hN : N < 100000) (hA : jA σ) {i : Nat} (hi : i + 6 ≤ N) (ih : ∀ τ, jA τ → sl_Go xs N 160 18 [some (.inr (.inr (99, 0, 0))), some (.inr (.inr (0, 0, 0))), some (.inr (.inr (40, 0, 0))), some (.inl (nI (i + 6)))] [] τ Q) : sl_Go xs N 160 534 [some (.inr (.inr (99, 0, 0))), some (.inr (.inr (0, 0, 0))), some (.inr (.inr (40, 0, 0))), some (.inl (nI i))] [] σ Q := by
  obtain ⟨kd, cl, mt, mc, nT, nM, nW, nR, nF, h⟩ := hA
  simp (disch := omega) only [g160_534, g160_535, g160_536, g160_537, g160_538, g160_539, g160_540, g160_541, g160_542, g160_543, g160_544, g160_545, g160_546, g160_547, g160_548, g160_549, g160_550, nI_toInt, nI_clamp, nI_1, nI_p2, nI_p3, nI_p4, nI_p5, sz_i99, sz_r99]
  repeat' (first | apply And.intro | (intro _))
  all_goals try first | omega | decide
  refine sl_Go.mono (o_wayTold h _ _ _) ?_
  intro r τ hq
  simp (disch := omega) only [g160_553, g160_554, g160_555, g160_556, g160_557, g160_558, g160_559, g160_560, g160_561, g160_562, g160_563, g160_564, g160_565, g160_566, g160_567, g160_568, g160_569, nI_toInt, nI_clamp, nI_1, nI_p2, nI_p3, nI_p4, nI_p5, sz_i99, sz_r99]
  repeat' (first | apply And.intro | (intro _))
  all_goals try first | omega | decide | exact lw_cw r
  refine sl_Go.mono hq ?_
  rintro r2 τ2 ⟨v, ⟨rfl, rfl⟩, hA2⟩
  have q := ih τ2 hA2
  simp (disch := omega) only [g160_572, g160_1406n, g160_1406i, g160_1406r, g160_1409, Option.toList, List.cons_append, List.nil_append, nI_p6]
  repeat' (first | apply And.intro | (intro _))
  all_goals first | contradiction | exact q
theorem lw_go (hN : N < 100000) (hA : jA σ) {i : Nat} (hi : i + 6 ≤ N) (ih : ∀ τ, jA τ → sl_Go xs N 160 18 [some (.inr (.inr (99, 0, 0))), some (.inr (.inr (0, 0, 0))), some (.inr (.inr (40, 0, 0))), some (.inl (nI (i + 6)))] [] τ Q) : sl_Go xs N 160 577 [some (.inr (.inr (99, 0, 0))), some (.inr (.inr (0, 0, 0))), some (.inr (.inr (40, 0, 0))), some (.inl (nI i))] [] σ Q := by
  obtain ⟨kd, cl, mt, mc, nT, nM, nW, nR, nF, h⟩ := hA
  simp (disch := omega) only [g160_577, g160_578, g160_579, g160_580, g160_581, g160_582, g160_583, nI_toInt, nI_clamp, nI_1, nI_p2, nI_p3, nI_p4, nI_p5, sz_i99, sz_r99]
  repeat' (first | apply And.intro | (intro _))
  all_goals try first | omega | decide
  refine sl_Go.mono (o_go h _) ?_
  intro r τ hq
  simp (disch := omega) only [g160_586, g160_587, g160_588, g160_589, g160_590, g160_591, g160_592, nI_toInt, nI_clamp, nI_1, nI_p2, nI_p3, nI_p4, nI_p5, sz_i99, sz_r99]
  repeat' (first | apply And.intro | (intro _))
  all_goals try first | omega | decide | exact lw_cw r
  refine sl_Go.mono hq ?_
  rintro r2 τ2 ⟨v, ⟨rfl, rfl⟩, hA2⟩
  have q := ih τ2 hA2
  simp (disch := omega) only [g160_595, g160_1406n, g160_1406i, g160_1406r, g160_1409, Option.toList, List.cons_append, List.nil_append, nI_p6]
  repeat' (first | apply And.intro | (intro _))
  all_goals first | contradiction | exact q
theorem lw_level (hN : N < 100000) (hA : jA σ) {i : Nat} (hi : i + 6 ≤ N) (ih : ∀ τ, jA τ → sl_Go xs N 160 18 [some (.inr (.inr (99, 0, 0))), some (.inr (.inr (0, 0, 0))), some (.inr (.inr (40, 0, 0))), some (.inl (nI (i + 6)))] [] τ Q) : sl_Go xs N 160 600 [some (.inr (.inr (99, 0, 0))), some (.inr (.inr (0, 0, 0))), some (.inr (.inr (40, 0, 0))), some (.inl (nI i))] [] σ Q := by
  obtain ⟨kd, cl, mt, mc, nT, nM, nW, nR, nF, h⟩ := hA
  simp (disch := omega) only [g160_600, g160_601, g160_602, g160_603, g160_604, g160_605, g160_606, g160_607, g160_608, g160_609, g160_610, g160_611, nI_toInt, nI_clamp, nI_1, nI_p2, nI_p3, nI_p4, nI_p5, sz_i99, sz_r99]
  repeat' (first | apply And.intro | (intro _))
  all_goals try first | omega | decide
  refine sl_Go.mono (o_level h _ _) ?_
  intro r τ hq
  simp (disch := omega) only [g160_614, g160_615, g160_616, g160_617, g160_618, g160_619, g160_620, g160_621, g160_622, g160_623, g160_624, g160_625, nI_toInt, nI_clamp, nI_1, nI_p2, nI_p3, nI_p4, nI_p5, sz_i99, sz_r99]
  repeat' (first | apply And.intro | (intro _))
  all_goals try first | omega | decide | exact lw_cw r
  refine sl_Go.mono hq ?_
  rintro r2 τ2 ⟨v, ⟨rfl, rfl⟩, hA2⟩
  have q := ih τ2 hA2
  simp (disch := omega) only [g160_628, g160_1406n, g160_1406i, g160_1406r, g160_1409, Option.toList, List.cons_append, List.nil_append, nI_p6]
  repeat' (first | apply And.intro | (intro _))
  all_goals first | contradiction | exact q
theorem lw_flow (hN : N < 100000) (hA : jA σ) {i : Nat} (hi : i + 6 ≤ N) (ih : ∀ τ, jA τ → sl_Go xs N 160 18 [some (.inr (.inr (99, 0, 0))), some (.inr (.inr (0, 0, 0))), some (.inr (.inr (40, 0, 0))), some (.inl (nI (i + 6)))] [] τ Q) : sl_Go xs N 160 633 [some (.inr (.inr (99, 0, 0))), some (.inr (.inr (0, 0, 0))), some (.inr (.inr (40, 0, 0))), some (.inl (nI i))] [] σ Q := by
  obtain ⟨kd, cl, mt, mc, nT, nM, nW, nR, nF, h⟩ := hA
  simp (disch := omega) only [g160_633, g160_634, g160_635, g160_636, g160_637, g160_638, g160_639, g160_640, g160_641, g160_642, g160_643, g160_644, nI_toInt, nI_clamp, nI_1, nI_p2, nI_p3, nI_p4, nI_p5, sz_i99, sz_r99]
  repeat' (first | apply And.intro | (intro _))
  all_goals try first | omega | decide
  refine sl_Go.mono (o_flow h _ _) ?_
  intro r τ hq
  simp (disch := omega) only [g160_647, g160_648, g160_649, g160_650, g160_651, g160_652, g160_653, g160_654, g160_655, g160_656, g160_657, g160_658, nI_toInt, nI_clamp, nI_1, nI_p2, nI_p3, nI_p4, nI_p5, sz_i99, sz_r99]
  repeat' (first | apply And.intro | (intro _))
  all_goals try first | omega | decide | exact lw_cw r
  refine sl_Go.mono hq ?_
  rintro r2 τ2 ⟨v, ⟨rfl, rfl⟩, hA2⟩
  have q := ih τ2 hA2
  simp (disch := omega) only [g160_661, g160_1406n, g160_1406i, g160_1406r, g160_1409, Option.toList, List.cons_append, List.nil_append, nI_p6]
  repeat' (first | apply And.intro | (intro _))
  all_goals first | contradiction | exact q
theorem lw_tankTold (hN : N < 100000) (hA : jA σ) {i : Nat} (hi : i + 6 ≤ N) (ih : ∀ τ, jA τ → sl_Go xs N 160 18 [some (.inr (.inr (99, 0, 0))), some (.inr (.inr (0, 0, 0))), some (.inr (.inr (40, 0, 0))), some (.inl (nI (i + 6)))] [] τ Q) : sl_Go xs N 160 666 [some (.inr (.inr (99, 0, 0))), some (.inr (.inr (0, 0, 0))), some (.inr (.inr (40, 0, 0))), some (.inl (nI i))] [] σ Q := by
  obtain ⟨kd, cl, mt, mc, nT, nM, nW, nR, nF, h⟩ := hA
  simp (disch := omega) only [g160_666, g160_667, g160_668, g160_669, g160_670, g160_671, g160_672, g160_673, g160_674, g160_675, g160_676, g160_677, nI_toInt, nI_clamp, nI_1, nI_p2, nI_p3, nI_p4, nI_p5, sz_i99, sz_r99]
  repeat' (first | apply And.intro | (intro _))
  all_goals try first | omega | decide
  refine sl_Go.mono (o_tankTold h _ _) ?_
  intro r τ hq
  simp (disch := omega) only [g160_680, g160_681, g160_682, g160_683, g160_684, g160_685, g160_686, g160_687, g160_688, g160_689, g160_690, g160_691, nI_toInt, nI_clamp, nI_1, nI_p2, nI_p3, nI_p4, nI_p5, sz_i99, sz_r99]
  repeat' (first | apply And.intro | (intro _))
  all_goals try first | omega | decide | exact lw_cw r
  refine sl_Go.mono hq ?_
  rintro r2 τ2 ⟨v, ⟨rfl, rfl⟩, hA2⟩
  have q := ih τ2 hA2
  simp (disch := omega) only [g160_694, g160_1406n, g160_1406i, g160_1406r, g160_1409, Option.toList, List.cons_append, List.nil_append, nI_p6]
  repeat' (first | apply And.intro | (intro _))
  all_goals first | contradiction | exact q
theorem lw_kindTold (hN : N < 100000) (hA : jA σ) {i : Nat} (hi : i + 6 ≤ N) (ih : ∀ τ, jA τ → sl_Go xs N 160 18 [some (.inr (.inr (99, 0, 0))), some (.inr (.inr (0, 0, 0))), some (.inr (.inr (40, 0, 0))), some (.inl (nI (i + 6)))] [] τ Q) : sl_Go xs N 160 699 [some (.inr (.inr (99, 0, 0))), some (.inr (.inr (0, 0, 0))), some (.inr (.inr (40, 0, 0))), some (.inl (nI i))] [] σ Q := by
  obtain ⟨kd, cl, mt, mc, nT, nM, nW, nR, nF, h⟩ := hA
  simp (disch := omega) only [g160_699, g160_700, g160_701, g160_702, g160_703, g160_704, g160_705, g160_706, g160_707, g160_708, g160_709, g160_710, g160_711, g160_712, g160_713, g160_714, g160_715, nI_toInt, nI_clamp, nI_1, nI_p2, nI_p3, nI_p4, nI_p5, sz_i99, sz_r99]
  repeat' (first | apply And.intro | (intro _))
  all_goals try first | omega | decide
  refine sl_Go.mono (o_kindTold h _ _ _) ?_
  intro r τ hq
  simp (disch := omega) only [g160_718, g160_719, g160_720, g160_721, g160_722, g160_723, g160_724, g160_725, g160_726, g160_727, g160_728, g160_729, g160_730, g160_731, g160_732, g160_733, g160_734, nI_toInt, nI_clamp, nI_1, nI_p2, nI_p3, nI_p4, nI_p5, sz_i99, sz_r99]
  repeat' (first | apply And.intro | (intro _))
  all_goals try first | omega | decide | exact lw_cw r
  refine sl_Go.mono hq ?_
  rintro r2 τ2 ⟨v, ⟨rfl, rfl⟩, hA2⟩
  have q := ih τ2 hA2
  simp (disch := omega) only [g160_737, g160_1406n, g160_1406i, g160_1406r, g160_1409, Option.toList, List.cons_append, List.nil_append, nI_p6]
  repeat' (first | apply And.intro | (intro _))
  all_goals first | contradiction | exact q
theorem lw_feedTold (hN : N < 100000) (hA : jA σ) {i : Nat} (hi : i + 6 ≤ N) (ih : ∀ τ, jA τ → sl_Go xs N 160 18 [some (.inr (.inr (99, 0, 0))), some (.inr (.inr (0, 0, 0))), some (.inr (.inr (40, 0, 0))), some (.inl (nI (i + 6)))] [] τ Q) : sl_Go xs N 160 742 [some (.inr (.inr (99, 0, 0))), some (.inr (.inr (0, 0, 0))), some (.inr (.inr (40, 0, 0))), some (.inl (nI i))] [] σ Q := by
  obtain ⟨kd, cl, mt, mc, nT, nM, nW, nR, nF, h⟩ := hA
  simp (disch := omega) only [g160_742, g160_743, g160_744, g160_745, g160_746, g160_747, g160_748, g160_749, g160_750, g160_751, g160_752, g160_753, nI_toInt, nI_clamp, nI_1, nI_p2, nI_p3, nI_p4, nI_p5, sz_i99, sz_r99]
  repeat' (first | apply And.intro | (intro _))
  all_goals try first | omega | decide
  refine sl_Go.mono (o_feedTold h _ _) ?_
  intro r τ hq
  simp (disch := omega) only [g160_756, g160_757, g160_758, g160_759, g160_760, g160_761, g160_762, g160_763, g160_764, g160_765, g160_766, g160_767, nI_toInt, nI_clamp, nI_1, nI_p2, nI_p3, nI_p4, nI_p5, sz_i99, sz_r99]
  repeat' (first | apply And.intro | (intro _))
  all_goals try first | omega | decide | exact lw_cw r
  refine sl_Go.mono hq ?_
  rintro r2 τ2 ⟨v, ⟨rfl, rfl⟩, hA2⟩
  have q := ih τ2 hA2
  simp (disch := omega) only [g160_770, g160_1406n, g160_1406i, g160_1406r, g160_1409, Option.toList, List.cons_append, List.nil_append, nI_p6]
  repeat' (first | apply And.intro | (intro _))
  all_goals first | contradiction | exact q
theorem lw_pulls (hN : N < 100000) (hA : jA σ) {i : Nat} (hi : i + 6 ≤ N) (ih : ∀ τ, jA τ → sl_Go xs N 160 18 [some (.inr (.inr (99, 0, 0))), some (.inr (.inr (0, 0, 0))), some (.inr (.inr (40, 0, 0))), some (.inl (nI (i + 6)))] [] τ Q) : sl_Go xs N 160 775 [some (.inr (.inr (99, 0, 0))), some (.inr (.inr (0, 0, 0))), some (.inr (.inr (40, 0, 0))), some (.inl (nI i))] [] σ Q := by
  obtain ⟨kd, cl, mt, mc, nT, nM, nW, nR, nF, h⟩ := hA
  simp (disch := omega) only [g160_775, g160_776, g160_777, g160_778, g160_779, g160_780, g160_781, nI_toInt, nI_clamp, nI_1, nI_p2, nI_p3, nI_p4, nI_p5, sz_i99, sz_r99]
  repeat' (first | apply And.intro | (intro _))
  all_goals try first | omega | decide
  refine sl_Go.mono (o_pulls h _) ?_
  intro r τ hq
  simp (disch := omega) only [g160_784, g160_785, g160_786, g160_787, g160_788, g160_789, g160_790, nI_toInt, nI_clamp, nI_1, nI_p2, nI_p3, nI_p4, nI_p5, sz_i99, sz_r99]
  repeat' (first | apply And.intro | (intro _))
  all_goals try first | omega | decide | exact lw_cw r
  refine sl_Go.mono hq ?_
  rintro r2 τ2 ⟨v, ⟨rfl, rfl⟩, hA2⟩
  have q := ih τ2 hA2
  simp (disch := omega) only [g160_793, g160_1406n, g160_1406i, g160_1406r, g160_1409, Option.toList, List.cons_append, List.nil_append, nI_p6]
  repeat' (first | apply And.intro | (intro _))
  all_goals first | contradiction | exact q
theorem lw_count (hN : N < 100000) (hA : jA σ) {i : Nat} (hi : i + 6 ≤ N) (ih : ∀ τ, jA τ → sl_Go xs N 160 18 [some (.inr (.inr (99, 0, 0))), some (.inr (.inr (0, 0, 0))), some (.inr (.inr (40, 0, 0))), some (.inl (nI (i + 6)))] [] τ Q) : sl_Go xs N 160 798 [some (.inr (.inr (99, 0, 0))), some (.inr (.inr (0, 0, 0))), some (.inr (.inr (40, 0, 0))), some (.inl (nI i))] [] σ Q := by
  obtain ⟨kd, cl, mt, mc, nT, nM, nW, nR, nF, h⟩ := hA
  simp (disch := omega) only [g160_798, g160_799, g160_800, g160_801, g160_802, g160_803, g160_804, nI_toInt, nI_clamp, nI_1, nI_p2, nI_p3, nI_p4, nI_p5, sz_i99, sz_r99]
  repeat' (first | apply And.intro | (intro _))
  all_goals try first | omega | decide
  refine sl_Go.mono (o_count h _) ?_
  intro r τ hq
  simp (disch := omega) only [g160_807, g160_808, g160_809, g160_810, g160_811, g160_812, g160_813, nI_toInt, nI_clamp, nI_1, nI_p2, nI_p3, nI_p4, nI_p5, sz_i99, sz_r99]
  repeat' (first | apply And.intro | (intro _))
  all_goals try first | omega | decide | exact lw_cw r
  refine sl_Go.mono hq ?_
  rintro r2 τ2 ⟨v, ⟨rfl, rfl⟩, hA2⟩
  have q := ih τ2 hA2
  simp (disch := omega) only [g160_816, g160_1406n, g160_1406i, g160_1406r, g160_1409, Option.toList, List.cons_append, List.nil_append, nI_p6]
  repeat' (first | apply And.intro | (intro _))
  all_goals first | contradiction | exact q
theorem lw_beside (hN : N < 100000) (hA : jA σ) {i : Nat} (hi : i + 6 ≤ N) (ih : ∀ τ, jA τ → sl_Go xs N 160 18 [some (.inr (.inr (99, 0, 0))), some (.inr (.inr (0, 0, 0))), some (.inr (.inr (40, 0, 0))), some (.inl (nI (i + 6)))] [] τ Q) : sl_Go xs N 160 821 [some (.inr (.inr (99, 0, 0))), some (.inr (.inr (0, 0, 0))), some (.inr (.inr (40, 0, 0))), some (.inl (nI i))] [] σ Q := by
  obtain ⟨kd, cl, mt, mc, nT, nM, nW, nR, nF, h⟩ := hA
  simp (disch := omega) only [g160_821, g160_822, g160_823, g160_824, g160_825, g160_826, g160_827, g160_828, g160_829, g160_830, g160_831, g160_832, g160_833, g160_834, g160_835, g160_836, g160_837, nI_toInt, nI_clamp, nI_1, nI_p2, nI_p3, nI_p4, nI_p5, sz_i99, sz_r99]
  repeat' (first | apply And.intro | (intro _))
  all_goals try first | omega | decide
  refine sl_Go.mono (o_beside h _ _ _) ?_
  intro r τ hq
  simp (disch := omega) only [g160_840, g160_841, g160_842, g160_843, g160_844, g160_845, g160_846, g160_847, g160_848, g160_849, g160_850, g160_851, g160_852, g160_853, g160_854, g160_855, g160_856, nI_toInt, nI_clamp, nI_1, nI_p2, nI_p3, nI_p4, nI_p5, sz_i99, sz_r99]
  repeat' (first | apply And.intro | (intro _))
  all_goals try first | omega | decide | exact lw_cw r
  refine sl_Go.mono hq ?_
  rintro r2 τ2 ⟨v, ⟨rfl, rfl⟩, hA2⟩
  have q := ih τ2 hA2
  simp (disch := omega) only [g160_859, g160_1406n, g160_1406i, g160_1406r, g160_1409, Option.toList, List.cons_append, List.nil_append, nI_p6]
  repeat' (first | apply And.intro | (intro _))
  all_goals first | contradiction | exact q
theorem lw_worstFill (hN : N < 100000) (hA : jA σ) {i : Nat} (hi : i + 6 ≤ N) (ih : ∀ τ, jA τ → sl_Go xs N 160 18 [some (.inr (.inr (99, 0, 0))), some (.inr (.inr (0, 0, 0))), some (.inr (.inr (40, 0, 0))), some (.inl (nI (i + 6)))] [] τ Q) : sl_Go xs N 160 864 [some (.inr (.inr (99, 0, 0))), some (.inr (.inr (0, 0, 0))), some (.inr (.inr (40, 0, 0))), some (.inl (nI i))] [] σ Q := by
  obtain ⟨kd, cl, mt, mc, nT, nM, nW, nR, nF, h⟩ := hA
  simp (disch := omega) only [g160_864, g160_865, g160_866, g160_867, g160_868, g160_869, g160_870, g160_871, g160_872, g160_873, g160_874, g160_875, g160_876, g160_877, g160_878, g160_879, g160_880, nI_toInt, nI_clamp, nI_1, nI_p2, nI_p3, nI_p4, nI_p5, sz_i99, sz_r99]
  repeat' (first | apply And.intro | (intro _))
  all_goals try first | omega | decide
  refine sl_Go.mono (o_worstFill h _ _ _) ?_
  intro r τ hq
  simp (disch := omega) only [g160_883, g160_884, g160_885, g160_886, g160_887, g160_888, g160_889, g160_890, g160_891, g160_892, g160_893, g160_894, g160_895, g160_896, g160_897, g160_898, g160_899, nI_toInt, nI_clamp, nI_1, nI_p2, nI_p3, nI_p4, nI_p5, sz_i99, sz_r99]
  repeat' (first | apply And.intro | (intro _))
  all_goals try first | omega | decide | exact lw_cw r
  refine sl_Go.mono hq ?_
  rintro r2 τ2 ⟨v, ⟨rfl, rfl⟩, hA2⟩
  have q := ih τ2 hA2
  simp (disch := omega) only [g160_902, g160_1406n, g160_1406i, g160_1406r, g160_1409, Option.toList, List.cons_append, List.nil_append, nI_p6]
  repeat' (first | apply And.intro | (intro _))
  all_goals first | contradiction | exact q
theorem lw_walls (hN : N < 100000) (hA : jA σ) {i : Nat} (hi : i + 6 ≤ N) (ih : ∀ τ, jA τ → sl_Go xs N 160 18 [some (.inr (.inr (99, 0, 0))), some (.inr (.inr (0, 0, 0))), some (.inr (.inr (40, 0, 0))), some (.inl (nI (i + 6)))] [] τ Q) : sl_Go xs N 160 907 [some (.inr (.inr (99, 0, 0))), some (.inr (.inr (0, 0, 0))), some (.inr (.inr (40, 0, 0))), some (.inl (nI i))] [] σ Q := by
  obtain ⟨kd, cl, mt, mc, nT, nM, nW, nR, nF, h⟩ := hA
  simp (disch := omega) only [g160_907, g160_908, g160_909, g160_910, g160_911, g160_912, g160_913, g160_914, g160_915, g160_916, g160_917, g160_918, g160_919, g160_920, g160_921, g160_922, g160_923, g160_924, g160_925, g160_926, g160_927, g160_928, nI_toInt, nI_clamp, nI_1, nI_p2, nI_p3, nI_p4, nI_p5, sz_i99, sz_r99]
  repeat' (first | apply And.intro | (intro _))
  all_goals try first | omega | decide
  refine sl_Go.mono (o_walls h _ _ _ _) ?_
  intro r τ hq
  simp (disch := omega) only [g160_931, g160_932, g160_933, g160_934, g160_935, g160_936, g160_937, g160_938, g160_939, g160_940, g160_941, g160_942, g160_943, g160_944, g160_945, g160_946, g160_947, g160_948, g160_949, g160_950, g160_951, g160_952, nI_toInt, nI_clamp, nI_1, nI_p2, nI_p3, nI_p4, nI_p5, sz_i99, sz_r99]
  repeat' (first | apply And.intro | (intro _))
  all_goals try first | omega | decide | exact lw_cw r
  refine sl_Go.mono hq ?_
  rintro r2 τ2 ⟨v, ⟨rfl, rfl⟩, hA2⟩
  have q := ih τ2 hA2
  simp (disch := omega) only [g160_955, g160_1406n, g160_1406i, g160_1406r, g160_1409, Option.toList, List.cons_append, List.nil_append, nI_p6]
  repeat' (first | apply And.intro | (intro _))
  all_goals first | contradiction | exact q
theorem lw_wallsPull (hN : N < 100000) (hA : jA σ) {i : Nat} (hi : i + 6 ≤ N) (ih : ∀ τ, jA τ → sl_Go xs N 160 18 [some (.inr (.inr (99, 0, 0))), some (.inr (.inr (0, 0, 0))), some (.inr (.inr (40, 0, 0))), some (.inl (nI (i + 6)))] [] τ Q) : sl_Go xs N 160 960 [some (.inr (.inr (99, 0, 0))), some (.inr (.inr (0, 0, 0))), some (.inr (.inr (40, 0, 0))), some (.inl (nI i))] [] σ Q := by
  obtain ⟨kd, cl, mt, mc, nT, nM, nW, nR, nF, h⟩ := hA
  simp (disch := omega) only [g160_960, g160_961, nI_toInt, nI_clamp, nI_1, nI_p2, nI_p3, nI_p4, nI_p5, sz_i99, sz_r99]
  repeat' (first | apply And.intro | (intro _))
  all_goals try first | omega | decide
  refine sl_Go.mono (o_wallsPull h) ?_
  intro r τ hq
  simp (disch := omega) only [g160_964, g160_965, nI_toInt, nI_clamp, nI_1, nI_p2, nI_p3, nI_p4, nI_p5, sz_i99, sz_r99]
  repeat' (first | apply And.intro | (intro _))
  all_goals try first | omega | decide | exact lw_cw r
  refine sl_Go.mono hq ?_
  rintro r2 τ2 ⟨v, ⟨rfl, rfl⟩, hA2⟩
  have q := ih τ2 hA2
  simp (disch := omega) only [g160_968, g160_1406n, g160_1406i, g160_1406r, g160_1409, Option.toList, List.cons_append, List.nil_append, nI_p6]
  repeat' (first | apply And.intro | (intro _))
  all_goals first | contradiction | exact q
theorem lw_drawOrder (hN : N < 100000) (hA : jA σ) {i : Nat} (hi : i + 6 ≤ N) (ih : ∀ τ, jA τ → sl_Go xs N 160 18 [some (.inr (.inr (99, 0, 0))), some (.inr (.inr (0, 0, 0))), some (.inr (.inr (40, 0, 0))), some (.inl (nI (i + 6)))] [] τ Q) : sl_Go xs N 160 973 [some (.inr (.inr (99, 0, 0))), some (.inr (.inr (0, 0, 0))), some (.inr (.inr (40, 0, 0))), some (.inl (nI i))] [] σ Q := by
  obtain ⟨kd, cl, mt, mc, nT, nM, nW, nR, nF, h⟩ := hA
  simp (disch := omega) only [g160_973, g160_974, g160_975, g160_976, g160_977, g160_978, g160_979, nI_toInt, nI_clamp, nI_1, nI_p2, nI_p3, nI_p4, nI_p5, sz_i99, sz_r99]
  repeat' (first | apply And.intro | (intro _))
  all_goals try first | omega | decide
  refine sl_Go.mono (o_drawOrder h _) ?_
  intro r τ hq
  simp (disch := omega) only [g160_982, g160_983, g160_984, g160_985, g160_986, g160_987, g160_988, nI_toInt, nI_clamp, nI_1, nI_p2, nI_p3, nI_p4, nI_p5, sz_i99, sz_r99]
  repeat' (first | apply And.intro | (intro _))
  all_goals try first | omega | decide | exact lw_cw r
  refine sl_Go.mono hq ?_
  rintro r2 τ2 ⟨v, ⟨rfl, rfl⟩, hA2⟩
  have q := ih τ2 hA2
  simp (disch := omega) only [g160_991, g160_1406n, g160_1406i, g160_1406r, g160_1409, Option.toList, List.cons_append, List.nil_append, nI_p6]
  repeat' (first | apply And.intro | (intro _))
  all_goals first | contradiction | exact q
theorem lw_record (hN : N < 100000) (hA : jA σ) {i : Nat} (hi : i + 6 ≤ N) (ih : ∀ τ, jA τ → sl_Go xs N 160 18 [some (.inr (.inr (99, 0, 0))), some (.inr (.inr (0, 0, 0))), some (.inr (.inr (40, 0, 0))), some (.inl (nI (i + 6)))] [] τ Q) : sl_Go xs N 160 996 [some (.inr (.inr (99, 0, 0))), some (.inr (.inr (0, 0, 0))), some (.inr (.inr (40, 0, 0))), some (.inl (nI i))] [] σ Q := by
  obtain ⟨kd, cl, mt, mc, nT, nM, nW, nR, nF, h⟩ := hA
  simp (disch := omega) only [g160_996, g160_997, g160_998, g160_999, g160_1000, g160_1001, g160_1002, g160_1003, g160_1004, g160_1005, g160_1006, g160_1007, g160_1008, g160_1009, g160_1010, g160_1011, g160_1012, g160_1013, g160_1014, g160_1015, g160_1016, g160_1017, nI_toInt, nI_clamp, nI_1, nI_p2, nI_p3, nI_p4, nI_p5, sz_i99, sz_r99]
  repeat' (first | apply And.intro | (intro _))
  all_goals try first | omega | decide
  refine sl_Go.mono (o_record h _ _ _ _) ?_
  intro r τ hq
  simp (disch := omega) only [g160_1020, g160_1021, g160_1022, g160_1023, g160_1024, g160_1025, g160_1026, g160_1027, g160_1028, g160_1029, g160_1030, g160_1031, g160_1032, g160_1033, g160_1034, g160_1035, g160_1036, g160_1037, g160_1038, g160_1039, g160_1040, g160_1041, nI_toInt, nI_clamp, nI_1, nI_p2, nI_p3, nI_p4, nI_p5, sz_i99, sz_r99]
  repeat' (first | apply And.intro | (intro _))
  all_goals try first | omega | decide | exact lw_cw r
  refine sl_Go.mono hq ?_
  rintro r2 τ2 ⟨v, ⟨rfl, rfl⟩, hA2⟩
  have q := ih τ2 hA2
  simp (disch := omega) only [g160_1044, g160_1406n, g160_1406i, g160_1406r, g160_1409, Option.toList, List.cons_append, List.nil_append, nI_p6]
  repeat' (first | apply And.intro | (intro _))
  all_goals first | contradiction | exact q
theorem lw_bar (hN : N < 100000) (hA : jA σ) {i : Nat} (hi : i + 6 ≤ N) (ih : ∀ τ, jA τ → sl_Go xs N 160 18 [some (.inr (.inr (99, 0, 0))), some (.inr (.inr (0, 0, 0))), some (.inr (.inr (40, 0, 0))), some (.inl (nI (i + 6)))] [] τ Q) : sl_Go xs N 160 1049 [some (.inr (.inr (99, 0, 0))), some (.inr (.inr (0, 0, 0))), some (.inr (.inr (40, 0, 0))), some (.inl (nI i))] [] σ Q := by
  obtain ⟨kd, cl, mt, mc, nT, nM, nW, nR, nF, h⟩ := hA
  simp (disch := omega) only [g160_1049, g160_1050, g160_1051, g160_1052, g160_1053, g160_1054, g160_1055, g160_1056, g160_1057, g160_1058, g160_1059, g160_1060, nI_toInt, nI_clamp, nI_1, nI_p2, nI_p3, nI_p4, nI_p5, sz_i99, sz_r99]
  repeat' (first | apply And.intro | (intro _))
  all_goals try first | omega | decide
  refine sl_Go.mono (o_bar h _ _) ?_
  intro r τ hq
  simp (disch := omega) only [g160_1063, g160_1064, g160_1065, g160_1066, g160_1067, g160_1068, g160_1069, g160_1070, g160_1071, g160_1072, g160_1073, g160_1074, nI_toInt, nI_clamp, nI_1, nI_p2, nI_p3, nI_p4, nI_p5, sz_i99, sz_r99]
  repeat' (first | apply And.intro | (intro _))
  all_goals try first | omega | decide | exact lw_cw r
  refine sl_Go.mono hq ?_
  rintro r2 τ2 ⟨v, ⟨rfl, rfl⟩, hA2⟩
  have q := ih τ2 hA2
  simp (disch := omega) only [g160_1077, g160_1406n, g160_1406i, g160_1406r, g160_1409, Option.toList, List.cons_append, List.nil_append, nI_p6]
  repeat' (first | apply And.intro | (intro _))
  all_goals first | contradiction | exact q
theorem lw_fits (hN : N < 100000) (hA : jA σ) {i : Nat} (hi : i + 6 ≤ N) (ih : ∀ τ, jA τ → sl_Go xs N 160 18 [some (.inr (.inr (99, 0, 0))), some (.inr (.inr (0, 0, 0))), some (.inr (.inr (40, 0, 0))), some (.inl (nI (i + 6)))] [] τ Q) : sl_Go xs N 160 1082 [some (.inr (.inr (99, 0, 0))), some (.inr (.inr (0, 0, 0))), some (.inr (.inr (40, 0, 0))), some (.inl (nI i))] [] σ Q := by
  obtain ⟨kd, cl, mt, mc, nT, nM, nW, nR, nF, h⟩ := hA
  simp (disch := omega) only [g160_1082, g160_1083, g160_1084, g160_1085, g160_1086, g160_1087, g160_1088, g160_1089, g160_1090, g160_1091, g160_1092, g160_1093, g160_1094, g160_1095, g160_1096, g160_1097, g160_1098, g160_1099, g160_1100, g160_1101, g160_1102, g160_1103, nI_toInt, nI_clamp, nI_1, nI_p2, nI_p3, nI_p4, nI_p5, sz_i99, sz_r99]
  repeat' (first | apply And.intro | (intro _))
  all_goals try first | omega | decide
  refine sl_Go.mono (o_fits h _ _ _ _) ?_
  intro r τ hq
  simp (disch := omega) only [g160_1106, g160_1107, g160_1108, g160_1109, g160_1110, g160_1111, g160_1112, g160_1113, g160_1114, g160_1115, g160_1116, g160_1117, g160_1118, g160_1119, g160_1120, g160_1121, g160_1122, g160_1123, g160_1124, g160_1125, g160_1126, g160_1127, nI_toInt, nI_clamp, nI_1, nI_p2, nI_p3, nI_p4, nI_p5, sz_i99, sz_r99]
  repeat' (first | apply And.intro | (intro _))
  all_goals try first | omega | decide | exact lw_cw r
  refine sl_Go.mono hq ?_
  rintro r2 τ2 ⟨v, ⟨rfl, rfl⟩, hA2⟩
  have q := ih τ2 hA2
  simp (disch := omega) only [g160_1130, g160_1406n, g160_1406i, g160_1406r, g160_1409, Option.toList, List.cons_append, List.nil_append, nI_p6]
  repeat' (first | apply And.intro | (intro _))
  all_goals first | contradiction | exact q
theorem lw_image (hN : N < 100000) (hA : jA σ) {i : Nat} (hi : i + 6 ≤ N) (ih : ∀ τ, jA τ → sl_Go xs N 160 18 [some (.inr (.inr (99, 0, 0))), some (.inr (.inr (0, 0, 0))), some (.inr (.inr (40, 0, 0))), some (.inl (nI (i + 6)))] [] τ Q) : sl_Go xs N 160 1135 [some (.inr (.inr (99, 0, 0))), some (.inr (.inr (0, 0, 0))), some (.inr (.inr (40, 0, 0))), some (.inl (nI i))] [] σ Q := by
  obtain ⟨kd, cl, mt, mc, nT, nM, nW, nR, nF, h⟩ := hA
  simp (disch := omega) only [g160_1135, g160_1136, nI_toInt, nI_clamp, nI_1, nI_p2, nI_p3, nI_p4, nI_p5, sz_i99, sz_r99]
  repeat' (first | apply And.intro | (intro _))
  all_goals try first | omega | decide
  refine sl_Go.mono (o_image h) ?_
  intro r τ hq
  simp (disch := omega) only [g160_1139, g160_1140, nI_toInt, nI_clamp, nI_1, nI_p2, nI_p3, nI_p4, nI_p5, sz_i99, sz_r99]
  repeat' (first | apply And.intro | (intro _))
  all_goals try first | omega | decide | exact lw_cw r
  refine sl_Go.mono hq ?_
  rintro r2 τ2 ⟨v, ⟨rfl, rfl⟩, hA2⟩
  have q := ih τ2 hA2
  simp (disch := omega) only [g160_1143, g160_1406n, g160_1406i, g160_1406r, g160_1409, Option.toList, List.cons_append, List.nil_append, nI_p6]
  repeat' (first | apply And.intro | (intro _))
  all_goals first | contradiction | exact q
theorem lw_back (hN : N < 100000) (hA : jA σ) {i : Nat} (hi : i + 6 ≤ N) (ih : ∀ τ, jA τ → sl_Go xs N 160 18 [some (.inr (.inr (99, 0, 0))), some (.inr (.inr (0, 0, 0))), some (.inr (.inr (40, 0, 0))), some (.inl (nI (i + 6)))] [] τ Q) : sl_Go xs N 160 1148 [some (.inr (.inr (99, 0, 0))), some (.inr (.inr (0, 0, 0))), some (.inr (.inr (40, 0, 0))), some (.inl (nI i))] [] σ Q := by
  obtain ⟨kd, cl, mt, mc, nT, nM, nW, nR, nF, h⟩ := hA
  simp (disch := omega) only [g160_1148, g160_1149, nI_toInt, nI_clamp, nI_1, nI_p2, nI_p3, nI_p4, nI_p5, sz_i99, sz_r99]
  repeat' (first | apply And.intro | (intro _))
  all_goals try first | omega | decide
  refine sl_Go.mono (o_back h) ?_
  intro r τ hq
  simp (disch := omega) only [g160_1152, g160_1153, nI_toInt, nI_clamp, nI_1, nI_p2, nI_p3, nI_p4, nI_p5, sz_i99, sz_r99]
  repeat' (first | apply And.intro | (intro _))
  all_goals try first | omega | decide | exact lw_cw r
  refine sl_Go.mono hq ?_
  rintro r2 τ2 ⟨v, ⟨rfl, rfl⟩, hA2⟩
  have q := ih τ2 hA2
  simp (disch := omega) only [g160_1156, g160_1406n, g160_1406i, g160_1406r, g160_1409, Option.toList, List.cons_append, List.nil_append, nI_p6]
  repeat' (first | apply And.intro | (intro _))
  all_goals first | contradiction | exact q
theorem lw_sheet (hN : N < 100000) (hA : jA σ) {i : Nat} (hi : i + 6 ≤ N) (ih : ∀ τ, jA τ → sl_Go xs N 160 18 [some (.inr (.inr (99, 0, 0))), some (.inr (.inr (0, 0, 0))), some (.inr (.inr (40, 0, 0))), some (.inl (nI (i + 6)))] [] τ Q) : sl_Go xs N 160 1161 [some (.inr (.inr (99, 0, 0))), some (.inr (.inr (0, 0, 0))), some (.inr (.inr (40, 0, 0))), some (.inl (nI i))] [] σ Q := by
  obtain ⟨kd, cl, mt, mc, nT, nM, nW, nR, nF, h⟩ := hA
  simp (disch := omega) only [g160_1161, g160_1162, g160_1163, g160_1164, g160_1165, g160_1166, g160_1167, g160_1168, g160_1169, g160_1170, g160_1171, g160_1172, g160_1173, g160_1174, g160_1175, g160_1176, g160_1177, nI_toInt, nI_clamp, nI_1, nI_p2, nI_p3, nI_p4, nI_p5, sz_i99, sz_r99]
  repeat' (first | apply And.intro | (intro _))
  all_goals try first | omega | decide
  refine sl_Go.mono (o_sheet h _ _ _) ?_
  intro r τ hq
  simp (disch := omega) only [g160_1180, g160_1181, g160_1182, g160_1183, g160_1184, g160_1185, g160_1186, g160_1187, g160_1188, g160_1189, g160_1190, g160_1191, g160_1192, g160_1193, g160_1194, g160_1195, g160_1196, nI_toInt, nI_clamp, nI_1, nI_p2, nI_p3, nI_p4, nI_p5, sz_i99, sz_r99]
  repeat' (first | apply And.intro | (intro _))
  all_goals try first | omega | decide | exact lw_cw r
  refine sl_Go.mono hq ?_
  rintro r2 τ2 ⟨v, ⟨rfl, rfl⟩, hA2⟩
  have q := ih τ2 hA2
  simp (disch := omega) only [g160_1199, g160_1406n, g160_1406i, g160_1406r, g160_1409, Option.toList, List.cons_append, List.nil_append, nI_p6]
  repeat' (first | apply And.intro | (intro _))
  all_goals first | contradiction | exact q
theorem lw_cell (hN : N < 100000) (hA : jA σ) {i : Nat} (hi : i + 6 ≤ N) (ih : ∀ τ, jA τ → sl_Go xs N 160 18 [some (.inr (.inr (99, 0, 0))), some (.inr (.inr (0, 0, 0))), some (.inr (.inr (40, 0, 0))), some (.inl (nI (i + 6)))] [] τ Q) : sl_Go xs N 160 1204 [some (.inr (.inr (99, 0, 0))), some (.inr (.inr (0, 0, 0))), some (.inr (.inr (40, 0, 0))), some (.inl (nI i))] [] σ Q := by
  obtain ⟨kd, cl, mt, mc, nT, nM, nW, nR, nF, h⟩ := hA
  simp (disch := omega) only [g160_1204, g160_1205, g160_1206, g160_1207, g160_1208, g160_1209, g160_1210, g160_1211, g160_1212, g160_1213, g160_1214, g160_1215, g160_1216, g160_1217, g160_1218, g160_1219, g160_1220, nI_toInt, nI_clamp, nI_1, nI_p2, nI_p3, nI_p4, nI_p5, sz_i99, sz_r99]
  repeat' (first | apply And.intro | (intro _))
  all_goals try first | omega | decide
  refine sl_Go.mono (o_cell h _ _ _) ?_
  intro r τ hq
  simp (disch := omega) only [g160_1223, g160_1224, g160_1225, g160_1226, g160_1227, g160_1228, g160_1229, g160_1230, g160_1231, g160_1232, g160_1233, g160_1234, g160_1235, g160_1236, g160_1237, g160_1238, g160_1239, nI_toInt, nI_clamp, nI_1, nI_p2, nI_p3, nI_p4, nI_p5, sz_i99, sz_r99]
  repeat' (first | apply And.intro | (intro _))
  all_goals try first | omega | decide | exact lw_cw r
  refine sl_Go.mono hq ?_
  rintro r2 τ2 ⟨v, ⟨rfl, rfl⟩, hA2⟩
  have q := ih τ2 hA2
  simp (disch := omega) only [g160_1242, g160_1406n, g160_1406i, g160_1406r, g160_1409, Option.toList, List.cons_append, List.nil_append, nI_p6]
  repeat' (first | apply And.intro | (intro _))
  all_goals first | contradiction | exact q
theorem lw_copy (hN : N < 100000) (hA : jA σ) {i : Nat} (hi : i + 6 ≤ N) (ih : ∀ τ, jA τ → sl_Go xs N 160 18 [some (.inr (.inr (99, 0, 0))), some (.inr (.inr (0, 0, 0))), some (.inr (.inr (40, 0, 0))), some (.inl (nI (i + 6)))] [] τ Q) : sl_Go xs N 160 1247 [some (.inr (.inr (99, 0, 0))), some (.inr (.inr (0, 0, 0))), some (.inr (.inr (40, 0, 0))), some (.inl (nI i))] [] σ Q := by
  obtain ⟨kd, cl, mt, mc, nT, nM, nW, nR, nF, h⟩ := hA
  simp (disch := omega) only [g160_1247, g160_1248, g160_1249, g160_1250, g160_1251, g160_1252, g160_1253, g160_1254, g160_1255, g160_1256, g160_1257, g160_1258, g160_1259, g160_1260, g160_1261, g160_1262, g160_1263, g160_1264, g160_1265, g160_1266, g160_1267, g160_1268, g160_1269, g160_1270, g160_1271, g160_1272, g160_1273, nI_toInt, nI_clamp, nI_1, nI_p2, nI_p3, nI_p4, nI_p5, sz_i99, sz_r99]
  repeat' (first | apply And.intro | (intro _))
  all_goals try first | omega | decide
  refine sl_Go.mono (o_copy h _ _ _ _ _) ?_
  intro r τ hq
  simp (disch := omega) only [g160_1276, g160_1277, g160_1278, g160_1279, g160_1280, g160_1281, g160_1282, g160_1283, g160_1284, g160_1285, g160_1286, g160_1287, g160_1288, g160_1289, g160_1290, g160_1291, g160_1292, g160_1293, g160_1294, g160_1295, g160_1296, g160_1297, g160_1298, g160_1299, g160_1300, g160_1301, g160_1302, nI_toInt, nI_clamp, nI_1, nI_p2, nI_p3, nI_p4, nI_p5, sz_i99, sz_r99]
  repeat' (first | apply And.intro | (intro _))
  all_goals try first | omega | decide | exact lw_cw r
  refine sl_Go.mono hq ?_
  rintro r2 τ2 ⟨v, ⟨rfl, rfl⟩, hA2⟩
  have q := ih τ2 hA2
  simp (disch := omega) only [g160_1305, g160_1406n, g160_1406i, g160_1406r, g160_1409, Option.toList, List.cons_append, List.nil_append, nI_p6]
  repeat' (first | apply And.intro | (intro _))
  all_goals first | contradiction | exact q
theorem lw_tanks (hN : N < 100000) (hA : jA σ) {i : Nat} (hi : i + 6 ≤ N) (ih : ∀ τ, jA τ → sl_Go xs N 160 18 [some (.inr (.inr (99, 0, 0))), some (.inr (.inr (0, 0, 0))), some (.inr (.inr (40, 0, 0))), some (.inl (nI (i + 6)))] [] τ Q) : sl_Go xs N 160 1310 [some (.inr (.inr (99, 0, 0))), some (.inr (.inr (0, 0, 0))), some (.inr (.inr (40, 0, 0))), some (.inl (nI i))] [] σ Q := by
  obtain ⟨kd, cl, mt, mc, nT, nM, nW, nR, nF, h⟩ := hA
  simp (disch := omega) only [g160_1310, g160_1311, g160_1312, g160_1313, g160_1314, g160_1315, g160_1316, g160_1317, g160_1318, g160_1319, g160_1320, g160_1321, g160_1322, g160_1323, g160_1324, g160_1325, g160_1326, g160_1327, g160_1328, g160_1329, g160_1330, g160_1331, nI_toInt, nI_clamp, nI_1, nI_p2, nI_p3, nI_p4, nI_p5, sz_i99, sz_r99]
  repeat' (first | apply And.intro | (intro _))
  all_goals try first | omega | decide
  refine sl_Go.mono (o_tanks h _ _ _ _) ?_
  intro r τ hq
  simp (disch := omega) only [g160_1334, g160_1335, g160_1336, g160_1337, g160_1338, g160_1339, g160_1340, g160_1341, g160_1342, g160_1343, g160_1344, g160_1345, g160_1346, g160_1347, g160_1348, g160_1349, g160_1350, g160_1351, g160_1352, g160_1353, g160_1354, g160_1355, nI_toInt, nI_clamp, nI_1, nI_p2, nI_p3, nI_p4, nI_p5, sz_i99, sz_r99]
  repeat' (first | apply And.intro | (intro _))
  all_goals try first | omega | decide | exact lw_cw r
  refine sl_Go.mono hq ?_
  rintro r2 τ2 ⟨v, ⟨rfl, rfl⟩, hA2⟩
  have q := ih τ2 hA2
  simp (disch := omega) only [g160_1358, g160_1406n, g160_1406i, g160_1406r, g160_1409, Option.toList, List.cons_append, List.nil_append, nI_p6]
  repeat' (first | apply And.intro | (intro _))
  all_goals first | contradiction | exact q
theorem lw_taken (hN : N < 100000) (hA : jA σ) {i : Nat} (hi : i + 6 ≤ N) (ih : ∀ τ, jA τ → sl_Go xs N 160 18 [some (.inr (.inr (99, 0, 0))), some (.inr (.inr (0, 0, 0))), some (.inr (.inr (40, 0, 0))), some (.inl (nI (i + 6)))] [] τ Q) : sl_Go xs N 160 1363 [some (.inr (.inr (99, 0, 0))), some (.inr (.inr (0, 0, 0))), some (.inr (.inr (40, 0, 0))), some (.inl (nI i))] [] σ Q := by
  obtain ⟨kd, cl, mt, mc, nT, nM, nW, nR, nF, h⟩ := hA
  simp (disch := omega) only [g160_1363, g160_1364, g160_1365, g160_1366, g160_1367, g160_1368, g160_1369, g160_1370, g160_1371, g160_1372, g160_1373, g160_1374, g160_1375, g160_1376, g160_1377, g160_1378, g160_1379, nI_toInt, nI_clamp, nI_1, nI_p2, nI_p3, nI_p4, nI_p5, sz_i99, sz_r99]
  repeat' (first | apply And.intro | (intro _))
  all_goals try first | omega | decide
  refine sl_Go.mono (o_taken h _ _ _) ?_
  intro r τ hq
  simp (disch := omega) only [g160_1382, g160_1383, g160_1384, g160_1385, g160_1386, g160_1387, g160_1388, g160_1389, g160_1390, g160_1391, g160_1392, g160_1393, g160_1394, g160_1395, g160_1396, g160_1397, g160_1398, nI_toInt, nI_clamp, nI_1, nI_p2, nI_p3, nI_p4, nI_p5, sz_i99, sz_r99]
  repeat' (first | apply And.intro | (intro _))
  all_goals try first | omega | decide | exact lw_cw r
  refine sl_Go.mono hq ?_
  rintro r2 τ2 ⟨v, ⟨rfl, rfl⟩, hA2⟩
  have q := ih τ2 hA2
  simp (disch := omega) only [g160_1401, g160_1406n, g160_1406i, g160_1406r, g160_1409, Option.toList, List.cons_append, List.nil_append, nI_p6]
  repeat' (first | apply And.intro | (intro _))
  all_goals first | contradiction | exact q
/-- the law's loop -/
theorem lw_loop (hN : N < 100000) (hN0 : ¬ N = 0) : ∀ m i (σ : sl_S), N < i + 6 * m → i ≤ N → jA σ → sl_Go xs N 160 18 [some (.inr (.inr (99, 0, 0))), some (.inr (.inr (0, 0, 0))), some (.inr (.inr (40, 0, 0))), some (.inl (nI i))] [] σ (fun r _ => r = some (.inl 1))
  | 0, i, σ, hm, hi, hA => by omega
  | m + 1, i, σ, hm, hi, hA => by
    by_cases e : i + 6 ≤ N
    · have ih := fun τ hτ => lw_loop hN hN0 m (i + 6) τ (by omega) (by omega) hτ
      have le : ¬ nI N - 6 < nI i := fun x => by
        rw [show (6 : Int32) = nI 6 from rfl, pk_sub (by omega)] at x
        have := (jn_lt (by omega) (by omega)).mp x
        omega
      rw [g160_18]
      simp (disch := omega) only [g160_19, g160_20, g160_21, g160_23, g160_24, g160_27, g160_28, g160_29, g160_30, g160_32, g160_33, nI_toInt, nI_clamp, nI_1, nI_p2, nI_p3, nI_p4, nI_p5, sz_i99, sz_r99, le]
      refine ⟨hN0, fun x => x.elim, fun _ => ⟨⟨by omega, by omega⟩, ?_⟩⟩
      refine ⟨fun _ => lw_tank hN hA e ih, fun _ => ⟨fun _ => lw_wall hN hA e ih, fun _ => ⟨fun _ => lw_fill hN hA e ih, fun _ => ⟨fun _ => lw_feed hN hA e ih, fun _ => ⟨fun _ => lw_draw hN hA e ih, fun _ => ⟨fun _ => lw_lean hN hA e ih, fun _ => ⟨fun _ => lw_carrier hN hA e ih, fun _ => ⟨fun _ => lw_run hN hA e ih, fun _ => ⟨fun _ => lw_tell hN hA e ih, fun _ => ⟨fun _ => lw_way hN hA e ih, fun _ => ⟨fun _ => lw_wayTold hN hA e ih, fun _ => ⟨fun _ => lw_go hN hA e ih, fun _ => ⟨fun _ => lw_level hN hA e ih, fun _ => ⟨fun _ => lw_flow hN hA e ih, fun _ => ⟨fun _ => lw_tankTold hN hA e ih, fun _ => ⟨fun _ => lw_kindTold hN hA e ih, fun _ => ⟨fun _ => lw_feedTold hN hA e ih, fun _ => ⟨fun _ => lw_pulls hN hA e ih, fun _ => ⟨fun _ => lw_count hN hA e ih, fun _ => ⟨fun _ => lw_beside hN hA e ih, fun _ => ⟨fun _ => lw_worstFill hN hA e ih, fun _ => ⟨fun _ => lw_walls hN hA e ih, fun _ => ⟨fun _ => lw_wallsPull hN hA e ih, fun _ => ⟨fun _ => lw_drawOrder hN hA e ih, fun _ => ⟨fun _ => lw_record hN hA e ih, fun _ => ⟨fun _ => lw_bar hN hA e ih, fun _ => ⟨fun _ => lw_fits hN hA e ih, fun _ => ⟨fun _ => lw_image hN hA e ih, fun _ => ⟨fun _ => lw_back hN hA e ih, fun _ => ⟨fun _ => lw_sheet hN hA e ih, fun _ => ⟨fun _ => lw_cell hN hA e ih, fun _ => ⟨fun _ => lw_copy hN hA e ih, fun _ => ⟨fun _ => lw_tanks hN hA e ih, fun _ => ⟨fun _ => lw_taken hN hA e ih, fun _ => ?_⟩⟩⟩⟩⟩⟩⟩⟩⟩⟩⟩⟩⟩⟩⟩⟩⟩⟩⟩⟩⟩⟩⟩⟩⟩⟩⟩⟩⟩⟩⟩⟩⟩⟩
      have q := ih σ hA
      simp (disch := omega) only [g160_1406n, g160_1406i, g160_1406r, g160_1409, nI_p6]
      exact q
    · have le : nI N - 6 < nI i := by
        have en : (nI N).toInt = N := nI_toInt (by omega)
        have ei : (nI i).toInt = i := nI_toInt (by omega)
        have e6 : (6 : Int32).toInt = 6 := rfl
        refine (sp_lt _ _).mpr ?_
        rw [sp_sub (by omega) (by omega), en, ei, e6]
        omega
      simp (disch := omega) only [g160_18, g160_19, g160_20, g160_21, g160_23, g160_24, g160_1412, g160_1413, nI_toInt, nI_clamp, nI_1, nI_p2, nI_p3, nI_p4, nI_p5, sz_i99, sz_r99, le]
      repeat' (first | apply And.intro | (intro _))
      all_goals first | contradiction | exact hN0 | exact .inr trivial | rfl
end SPLW
