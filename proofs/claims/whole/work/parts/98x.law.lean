/-! THE LAW'S LOOP (wip/whole/gen_law.py) -/
theorem nA4 (n : Nat) : nI n + 4 = nI (n + 4) := by rw [show (4 : Int32) = nI 4 from rfl, nI_add]
theorem lg_self (a : Int64) : (lg_cmp a a = 0) = True := eq_true ((lg_cmp_eq a a).mpr rfl)
theorem sc_rd {L : Nat} {xs : Nat → Int32} {h : TH} {k : Nat} (hL : L ≤ 320) (hn : h.1 1000000000 = none) (hk : k < L) : tald (L, xs) h 0 1000000000 (nI k) = some (xs k) := by
  unfold tald tai
  rw [hn]
  show (if 0 = 0 ∧ ¬ (nI k < 0 ∨ L ≤ (nI k).toNatClampNeg) then some (xs (nI k).toNatClampNeg) else none) = _
  rw [if_pos ⟨rfl, nI_in hk (by omega)⟩, nI_clamp (by omega)]
section S98x
variable {L i q : Nat} {xs : Nat → Int32} {H : TH}
theorem Rel_cl (R : Rel q H) : tcl H 0 = some 10 := by
  obtain ⟨D, F, E, M, U, x, G, Y, f, g, y, b, c, cf, cg, tf, tg, rfl, R⟩ := R
  exact hX_cl
theorem Rel_no (hq : q ≤ 64) (R : Rel q H) : H.1 1000000000 = none := by
  obtain ⟨D, F, E, M, U, x, G, Y, f, g, y, b, c, cf, cg, tf, tg, rfl, R⟩ := R
  rw [HL_off (by decide)]
  exact R.1.2.2.2 _ (by have := R.1.2.1; omega)
theorem Rel_2 (R : Rel q H) : H.2.1 ≤ 70 + 10 * q ∧ H.2.2 ≤ 10000 + 100 * q := by
  obtain ⟨D, F, E, M, U, x, G, Y, f, g, y, b, c, cf, cg, tf, tg, rfl, R⟩ := R
  exact ⟨R.1.2.1, R.1.2.2.1⟩
theorem lw_feed (hL : L ≤ 320) (hi : i + 5 ≤ L) (hq : q ≤ 64) (R : Rel q H) : ∃ H2, Rel (q + 1) H2 ∧ ∀ K, tA (L, xs) iL_law 216 [vR (some 1000000000), vR (some 0), vR (some 45), vI (nI i)] [] H K = tA (L, xs) iL_law 1546 [vR (some 1000000000), vR (some 0), vR (some 45), vI (nI i)] [] H2 K := by
  have hcl := Rel_cl R
  have hno := Rel_no hq R
  obtain ⟨v, H1, H2, hx, hm, R', ⟨h1, h1c⟩, hv⟩ := c_feed (sc := (L, xs)) (e := ((xs (i + 1)).toInt64 <<< ((32 : Int32).toInt64 &&& 63)) ||| ((xs (i + 2)).toInt64 &&& 4294967295)) (k := xs (i + 3)) hq R
  have h1 := h1 hq
  refine ⟨H2, R', fun K => ?_⟩
  rcases hv with hb | hb
  · obtain ⟨-, a, rfl⟩ := hb
    simp (disch := first | omega | assumption) only [rL_law_216, rL_law_217, rL_law_218, rL_law_219, rL_law_220, rL_law_221, rL_law_222, rL_law_223, rL_law_225, rL_law_226, rL_law_227, rL_law_228, rL_law_229, rL_law_230, rL_law_231, rL_law_232, rL_law_235, rL_law_236, rL_law_237, rL_law_238, rL_law_239, rL_law_240, rL_law_241, rL_law_242, rL_law_245, rL_law_246, rL_law_247, rL_law_248, rL_law_249, rL_law_250, rL_law_251, rL_law_252, rL_law_254, rL_law_255, rL_law_256, rL_law_257, rL_law_258, rL_law_259, rL_law_260, rL_law_261, rL_law_264, rL_law_265, rL_law_266, rL_law_267, rL_law_268, rL_law_269, rL_law_270, rL_law_271, rL_law_274, rL_law_277, rL_law_278, sc_rd, hx, hm, oz_some, tpu_some, nI_1, nA2, nI_a3, nA4, lg_self, if_true, not_true_eq_false, if_false]
  · exact absurd hb.1 (by decide)
theorem lw_clerk (hL : L ≤ 320) (hi : i + 5 ≤ L) (hq : q ≤ 64) (R : Rel q H) : ∃ H2, Rel (q + 1) H2 ∧ ∀ K, tA (L, xs) iL_law 279 [vR (some 1000000000), vR (some 0), vR (some 45), vI (nI i)] [] H K = tA (L, xs) iL_law 1546 [vR (some 1000000000), vR (some 0), vR (some 45), vI (nI i)] [] H2 K := by
  have hcl := Rel_cl R
  have hno := Rel_no hq R
  obtain ⟨v, H1, H2, hx, hm, R', ⟨h1, h1c⟩, hv⟩ := c_clerk (sc := (L, xs))  hq R
  have h1 := h1 hq
  refine ⟨H2, R', fun K => ?_⟩
  rcases hv with hb | hb
  · obtain ⟨-, a, rfl⟩ := hb
    simp (disch := first | omega | assumption) only [rL_law_279, rL_law_280, rL_law_283, rL_law_284, rL_law_287, rL_law_290, rL_law_291, sc_rd, hx, hm, oz_some, tpu_some, nI_1, nA2, nI_a3, nA4, lg_self, if_true, not_true_eq_false, if_false]
  · exact absurd hb.1 (by decide)
theorem lw_worth (hL : L ≤ 320) (hi : i + 5 ≤ L) (hq : q ≤ 64) (R : Rel q H) : ∃ H2, Rel (q + 1) H2 ∧ ∀ K, tA (L, xs) iL_law 292 [vR (some 1000000000), vR (some 0), vR (some 45), vI (nI i)] [] H K = tA (L, xs) iL_law 1546 [vR (some 1000000000), vR (some 0), vR (some 45), vI (nI i)] [] H2 K := by
  have hcl := Rel_cl R
  have hno := Rel_no hq R
  obtain ⟨v, H1, H2, hx, hm, R', ⟨h1, h1c⟩, hv⟩ := c_worth (sc := (L, xs)) (d := xs (i + 1)) (v := xs (i + 2)) hq R
  have h1 := h1 hq
  refine ⟨H2, R', fun K => ?_⟩
  rcases hv with hb | hb
  · obtain ⟨-, a, rfl⟩ := hb
    simp (disch := first | omega | assumption) only [rL_law_292, rL_law_293, rL_law_294, rL_law_295, rL_law_296, rL_law_297, rL_law_298, rL_law_299, rL_law_300, rL_law_301, rL_law_302, rL_law_303, rL_law_306, rL_law_307, rL_law_308, rL_law_309, rL_law_310, rL_law_311, rL_law_312, rL_law_313, rL_law_314, rL_law_315, rL_law_316, rL_law_317, rL_law_320, rL_law_323, rL_law_324, sc_rd, hx, hm, oz_some, tpu_some, nI_1, nA2, nI_a3, nA4, lg_self, if_true, not_true_eq_false, if_false]
  · exact absurd hb.1 (by decide)
theorem lw_weigh (hL : L ≤ 320) (hi : i + 5 ≤ L) (hq : q ≤ 64) (R : Rel q H) : ∃ H2, Rel (q + 1) H2 ∧ ∀ K, tA (L, xs) iL_law 325 [vR (some 1000000000), vR (some 0), vR (some 45), vI (nI i)] [] H K = tA (L, xs) iL_law 1546 [vR (some 1000000000), vR (some 0), vR (some 45), vI (nI i)] [] H2 K := by
  have hcl := Rel_cl R
  have hno := Rel_no hq R
  obtain ⟨v, H1, H2, hx, hm, R', ⟨h1, h1c⟩, hv⟩ := c_weigh (sc := (L, xs)) (d := xs (i + 1)) (w := xs (i + 2)) (v := xs (i + 3)) hq R
  have h1 := h1 hq
  refine ⟨H2, R', fun K => ?_⟩
  rcases hv with hb | hb
  · obtain ⟨-, a, rfl⟩ := hb
    simp (disch := first | omega | assumption) only [rL_law_325, rL_law_326, rL_law_327, rL_law_328, rL_law_329, rL_law_330, rL_law_331, rL_law_332, rL_law_333, rL_law_334, rL_law_335, rL_law_336, rL_law_337, rL_law_338, rL_law_339, rL_law_340, rL_law_341, rL_law_344, rL_law_345, rL_law_346, rL_law_347, rL_law_348, rL_law_349, rL_law_350, rL_law_351, rL_law_352, rL_law_353, rL_law_354, rL_law_355, rL_law_356, rL_law_357, rL_law_358, rL_law_359, rL_law_360, rL_law_363, rL_law_366, rL_law_367, sc_rd, hx, hm, oz_some, tpu_some, nI_1, nA2, nI_a3, nA4, lg_self, if_true, not_true_eq_false, if_false]
  · exact absurd hb.1 (by decide)
theorem lw_sign (hL : L ≤ 320) (hi : i + 5 ≤ L) (hq : q ≤ 64) (R : Rel q H) : ∃ H2, Rel (q + 1) H2 ∧ ∀ K, tA (L, xs) iL_law 368 [vR (some 1000000000), vR (some 0), vR (some 45), vI (nI i)] [] H K = tA (L, xs) iL_law 1546 [vR (some 1000000000), vR (some 0), vR (some 45), vI (nI i)] [] H2 K := by
  have hcl := Rel_cl R
  have hno := Rel_no hq R
  obtain ⟨v, H1, H2, hx, hm, R', ⟨h1, h1c⟩, hv⟩ := c_sign (sc := (L, xs)) (d := xs (i + 1)) (w := xs (i + 2)) hq R
  have h1 := h1 hq
  refine ⟨H2, R', fun K => ?_⟩
  rcases hv with hb | hb
  · obtain ⟨-, a, rfl⟩ := hb
    simp (disch := first | omega | assumption) only [rL_law_368, rL_law_369, rL_law_370, rL_law_371, rL_law_372, rL_law_373, rL_law_374, rL_law_375, rL_law_376, rL_law_377, rL_law_378, rL_law_379, rL_law_382, rL_law_383, rL_law_384, rL_law_385, rL_law_386, rL_law_387, rL_law_388, rL_law_389, rL_law_390, rL_law_391, rL_law_392, rL_law_393, rL_law_396, rL_law_399, rL_law_400, sc_rd, hx, hm, oz_some, tpu_some, nI_1, nA2, nI_a3, nA4, lg_self, if_true, not_true_eq_false, if_false]
  · exact absurd hb.1 (by decide)
theorem lw_dayOf (hL : L ≤ 320) (hi : i + 5 ≤ L) (hq : q ≤ 64) (R : Rel q H) : ∃ H2, Rel (q + 1) H2 ∧ ∀ K, tA (L, xs) iL_law 401 [vR (some 1000000000), vR (some 0), vR (some 45), vI (nI i)] [] H K = tA (L, xs) iL_law 1546 [vR (some 1000000000), vR (some 0), vR (some 45), vI (nI i)] [] H2 K := by
  have hcl := Rel_cl R
  have hno := Rel_no hq R
  obtain ⟨v, H1, H2, hx, hm, R', ⟨h1, h1c⟩, hv⟩ := c_dayOf (sc := (L, xs)) (d := xs (i + 1)) (w := xs (i + 2)) hq R
  have h1 := h1 hq
  refine ⟨H2, R', fun K => ?_⟩
  rcases hv with hb | hb
  · obtain ⟨-, a, rfl⟩ := hb
    simp (disch := first | omega | assumption) only [rL_law_401, rL_law_402, rL_law_403, rL_law_404, rL_law_405, rL_law_406, rL_law_407, rL_law_408, rL_law_409, rL_law_410, rL_law_411, rL_law_412, rL_law_415, rL_law_416, rL_law_417, rL_law_418, rL_law_419, rL_law_420, rL_law_421, rL_law_422, rL_law_423, rL_law_424, rL_law_425, rL_law_426, rL_law_429, rL_law_432, rL_law_433, sc_rd, hx, hm, oz_some, tpu_some, nI_1, nA2, nI_a3, nA4, lg_self, if_true, not_true_eq_false, if_false]
  · exact absurd hb.1 (by decide)
theorem lw_set (hL : L ≤ 320) (hi : i + 5 ≤ L) (hq : q ≤ 64) (R : Rel q H) : ∃ H2, Rel (q + 1) H2 ∧ ∀ K, tA (L, xs) iL_law 434 [vR (some 1000000000), vR (some 0), vR (some 45), vI (nI i)] [] H K = tA (L, xs) iL_law 1546 [vR (some 1000000000), vR (some 0), vR (some 45), vI (nI i)] [] H2 K := by
  have hcl := Rel_cl R
  have hno := Rel_no hq R
  obtain ⟨v, H1, H2, hx, hm, R', ⟨h1, h1c⟩, hv⟩ := c_set (sc := (L, xs)) (l := xs (i + 1)) (v := xs (i + 2)) hq R
  have h1 := h1 hq
  refine ⟨H2, R', fun K => ?_⟩
  rcases hv with hb | hb
  · obtain ⟨-, a, rfl⟩ := hb
    simp (disch := first | omega | assumption) only [rL_law_434, rL_law_435, rL_law_436, rL_law_437, rL_law_438, rL_law_439, rL_law_440, rL_law_441, rL_law_442, rL_law_443, rL_law_444, rL_law_445, rL_law_448, rL_law_449, rL_law_450, rL_law_451, rL_law_452, rL_law_453, rL_law_454, rL_law_455, rL_law_456, rL_law_457, rL_law_458, rL_law_459, rL_law_462, rL_law_465, rL_law_466, sc_rd, hx, hm, oz_some, tpu_some, nI_1, nA2, nI_a3, nA4, lg_self, if_true, not_true_eq_false, if_false]
  · exact absurd hb.1 (by decide)
theorem lw_sayer (hL : L ≤ 320) (hi : i + 5 ≤ L) (hq : q ≤ 64) (R : Rel q H) : ∃ H2, Rel (q + 1) H2 ∧ ∀ K, tA (L, xs) iL_law 467 [vR (some 1000000000), vR (some 0), vR (some 45), vI (nI i)] [] H K = tA (L, xs) iL_law 1546 [vR (some 1000000000), vR (some 0), vR (some 45), vI (nI i)] [] H2 K := by
  have hcl := Rel_cl R
  have hno := Rel_no hq R
  obtain ⟨v, H1, H2, hx, hm, R', ⟨h1, h1c⟩, hv⟩ := c_sayer (sc := (L, xs)) (kk := xs (i + 1)) (aa := xs (i + 2)) hq R
  have h1 := h1 hq
  refine ⟨H2, R', fun K => ?_⟩
  rcases hv with hb | hb
  · obtain ⟨-, a, rfl⟩ := hb
    simp (disch := first | omega | assumption) only [rL_law_467, rL_law_468, rL_law_469, rL_law_470, rL_law_471, rL_law_472, rL_law_473, rL_law_474, rL_law_475, rL_law_476, rL_law_477, rL_law_478, rL_law_481, rL_law_482, rL_law_483, rL_law_484, rL_law_485, rL_law_486, rL_law_487, rL_law_488, rL_law_489, rL_law_490, rL_law_491, rL_law_492, rL_law_495, rL_law_498, rL_law_499, sc_rd, hx, hm, oz_some, tpu_some, nI_1, nA2, nI_a3, nA4, lg_self, if_true, not_true_eq_false, if_false]
  · exact absurd hb.1 (by decide)
theorem lw_sayerOf (hL : L ≤ 320) (hi : i + 5 ≤ L) (hq : q ≤ 64) (R : Rel q H) : ∃ H2, Rel (q + 1) H2 ∧ ∀ K, tA (L, xs) iL_law 500 [vR (some 1000000000), vR (some 0), vR (some 45), vI (nI i)] [] H K = tA (L, xs) iL_law 1546 [vR (some 1000000000), vR (some 0), vR (some 45), vI (nI i)] [] H2 K := by
  have hcl := Rel_cl R
  have hno := Rel_no hq R
  obtain ⟨v, H1, H2, hx, hm, R', ⟨h1, h1c⟩, hv⟩ := c_sayerOf (sc := (L, xs)) (s := xs (i + 1)) (w := xs (i + 2)) hq R
  have h1 := h1 hq
  refine ⟨H2, R', fun K => ?_⟩
  rcases hv with hb | hb
  · obtain ⟨-, a, rfl⟩ := hb
    simp (disch := first | omega | assumption) only [rL_law_500, rL_law_501, rL_law_502, rL_law_503, rL_law_504, rL_law_505, rL_law_506, rL_law_507, rL_law_508, rL_law_509, rL_law_510, rL_law_511, rL_law_514, rL_law_515, rL_law_516, rL_law_517, rL_law_518, rL_law_519, rL_law_520, rL_law_521, rL_law_522, rL_law_523, rL_law_524, rL_law_525, rL_law_528, rL_law_531, rL_law_532, sc_rd, hx, hm, oz_some, tpu_some, nI_1, nA2, nI_a3, nA4, lg_self, if_true, not_true_eq_false, if_false]
  · exact absurd hb.1 (by decide)
theorem lw_mind (hL : L ≤ 320) (hi : i + 5 ≤ L) (hq : q ≤ 64) (R : Rel q H) : ∃ H2, Rel (q + 1) H2 ∧ ∀ K, tA (L, xs) iL_law 533 [vR (some 1000000000), vR (some 0), vR (some 45), vI (nI i)] [] H K = tA (L, xs) iL_law 1546 [vR (some 1000000000), vR (some 0), vR (some 45), vI (nI i)] [] H2 K := by
  have hcl := Rel_cl R
  have hno := Rel_no hq R
  obtain ⟨v, H1, H2, hx, hm, R', ⟨h1, h1c⟩, hv⟩ := c_mind (sc := (L, xs)) (s := xs (i + 1)) (kk := xs (i + 2)) (aa := xs (i + 3)) hq R
  have h1 := h1 hq
  refine ⟨H2, R', fun K => ?_⟩
  rcases hv with hb | hb
  · obtain ⟨-, a, rfl⟩ := hb
    simp (disch := first | omega | assumption) only [rL_law_533, rL_law_534, rL_law_535, rL_law_536, rL_law_537, rL_law_538, rL_law_539, rL_law_540, rL_law_541, rL_law_542, rL_law_543, rL_law_544, rL_law_545, rL_law_546, rL_law_547, rL_law_548, rL_law_549, rL_law_552, rL_law_553, rL_law_554, rL_law_555, rL_law_556, rL_law_557, rL_law_558, rL_law_559, rL_law_560, rL_law_561, rL_law_562, rL_law_563, rL_law_564, rL_law_565, rL_law_566, rL_law_567, rL_law_568, rL_law_571, rL_law_574, rL_law_575, sc_rd, hx, hm, oz_some, tpu_some, nI_1, nA2, nI_a3, nA4, lg_self, if_true, not_true_eq_false, if_false]
  · exact absurd hb.1 (by decide)
theorem lw_purse (hL : L ≤ 320) (hi : i + 5 ≤ L) (hq : q ≤ 64) (R : Rel q H) : ∃ H2, Rel (q + 1) H2 ∧ ∀ K, tA (L, xs) iL_law 576 [vR (some 1000000000), vR (some 0), vR (some 45), vI (nI i)] [] H K = tA (L, xs) iL_law 1546 [vR (some 1000000000), vR (some 0), vR (some 45), vI (nI i)] [] H2 K := by
  have hcl := Rel_cl R
  have hno := Rel_no hq R
  obtain ⟨v, H1, H2, hx, hm, R', ⟨h1, h1c⟩, hv⟩ := c_purse (sc := (L, xs)) (s := xs (i + 1)) (v := xs (i + 2)) hq R
  have h1 := h1 hq
  refine ⟨H2, R', fun K => ?_⟩
  rcases hv with hb | hb
  · obtain ⟨-, a, rfl⟩ := hb
    simp (disch := first | omega | assumption) only [rL_law_576, rL_law_577, rL_law_578, rL_law_579, rL_law_580, rL_law_581, rL_law_582, rL_law_583, rL_law_584, rL_law_585, rL_law_586, rL_law_587, rL_law_590, rL_law_591, rL_law_592, rL_law_593, rL_law_594, rL_law_595, rL_law_596, rL_law_597, rL_law_598, rL_law_599, rL_law_600, rL_law_601, rL_law_604, rL_law_607, rL_law_608, sc_rd, hx, hm, oz_some, tpu_some, nI_1, nA2, nI_a3, nA4, lg_self, if_true, not_true_eq_false, if_false]
  · exact absurd hb.1 (by decide)
theorem lw_say (hL : L ≤ 320) (hi : i + 5 ≤ L) (hq : q ≤ 64) (R : Rel q H) : ∃ H2, Rel (q + 1) H2 ∧ ∀ K, tA (L, xs) iL_law 609 [vR (some 1000000000), vR (some 0), vR (some 45), vI (nI i)] [] H K = tA (L, xs) iL_law 1546 [vR (some 1000000000), vR (some 0), vR (some 45), vI (nI i)] [] H2 K := by
  have hcl := Rel_cl R
  have hno := Rel_no hq R
  obtain ⟨v, H1, H2, hx, hm, R', ⟨h1, h1c⟩, hv⟩ := c_say (sc := (L, xs)) (s := xs (i + 1)) (d := xs (i + 2)) (w := xs (i + 3)) hq R
  have h1 := h1 hq
  refine ⟨H2, R', fun K => ?_⟩
  rcases hv with hb | hb
  · obtain ⟨-, a, rfl⟩ := hb
    simp (disch := first | omega | assumption) only [rL_law_609, rL_law_610, rL_law_611, rL_law_612, rL_law_613, rL_law_614, rL_law_615, rL_law_616, rL_law_617, rL_law_618, rL_law_619, rL_law_620, rL_law_621, rL_law_622, rL_law_623, rL_law_624, rL_law_625, rL_law_628, rL_law_629, rL_law_630, rL_law_631, rL_law_632, rL_law_633, rL_law_634, rL_law_635, rL_law_636, rL_law_637, rL_law_638, rL_law_639, rL_law_640, rL_law_641, rL_law_642, rL_law_643, rL_law_644, rL_law_647, rL_law_650, rL_law_651, sc_rd, hx, hm, oz_some, tpu_some, nI_1, nA2, nI_a3, nA4, lg_self, if_true, not_true_eq_false, if_false]
  · exact absurd hb.1 (by decide)
theorem lw_sayingOf (hL : L ≤ 320) (hi : i + 5 ≤ L) (hq : q ≤ 64) (R : Rel q H) : ∃ H2, Rel (q + 1) H2 ∧ ∀ K, tA (L, xs) iL_law 652 [vR (some 1000000000), vR (some 0), vR (some 45), vI (nI i)] [] H K = tA (L, xs) iL_law 1546 [vR (some 1000000000), vR (some 0), vR (some 45), vI (nI i)] [] H2 K := by
  have hcl := Rel_cl R
  have hno := Rel_no hq R
  obtain ⟨v, H1, H2, hx, hm, R', ⟨h1, h1c⟩, hv⟩ := c_sayingOf (sc := (L, xs)) (i := xs (i + 1)) (w := xs (i + 2)) hq R
  have h1 := h1 hq
  refine ⟨H2, R', fun K => ?_⟩
  rcases hv with hb | hb
  · obtain ⟨-, a, rfl⟩ := hb
    simp (disch := first | omega | assumption) only [rL_law_652, rL_law_653, rL_law_654, rL_law_655, rL_law_656, rL_law_657, rL_law_658, rL_law_659, rL_law_660, rL_law_661, rL_law_662, rL_law_663, rL_law_666, rL_law_667, rL_law_668, rL_law_669, rL_law_670, rL_law_671, rL_law_672, rL_law_673, rL_law_674, rL_law_675, rL_law_676, rL_law_677, rL_law_680, rL_law_683, rL_law_684, sc_rd, hx, hm, oz_some, tpu_some, nI_1, nA2, nI_a3, nA4, lg_self, if_true, not_true_eq_false, if_false]
  · exact absurd hb.1 (by decide)
theorem lw_would (hL : L ≤ 320) (hi : i + 5 ≤ L) (hq : q ≤ 64) (R : Rel q H) : ∃ H2, Rel (q + 1) H2 ∧ ∀ K, tA (L, xs) iL_law 685 [vR (some 1000000000), vR (some 0), vR (some 45), vI (nI i)] [] H K = tA (L, xs) iL_law 1546 [vR (some 1000000000), vR (some 0), vR (some 45), vI (nI i)] [] H2 K := by
  have hcl := Rel_cl R
  have hno := Rel_no hq R
  obtain ⟨v, H1, H2, hx, hm, R', ⟨h1, h1c⟩, hv⟩ := c_would (sc := (L, xs)) (s := xs (i + 1)) (v := xs (i + 2)) hq R
  have h1 := h1 hq
  refine ⟨H2, R', fun K => ?_⟩
  rcases hv with hb | hb
  · obtain ⟨-, a, rfl⟩ := hb
    simp (disch := first | omega | assumption) only [rL_law_685, rL_law_686, rL_law_687, rL_law_688, rL_law_689, rL_law_690, rL_law_691, rL_law_692, rL_law_693, rL_law_694, rL_law_695, rL_law_696, rL_law_699, rL_law_700, rL_law_701, rL_law_702, rL_law_703, rL_law_704, rL_law_705, rL_law_706, rL_law_707, rL_law_708, rL_law_709, rL_law_710, rL_law_713, rL_law_716, rL_law_717, sc_rd, hx, hm, oz_some, tpu_some, nI_1, nA2, nI_a3, nA4, lg_self, if_true, not_true_eq_false, if_false]
  · exact absurd hb.1 (by decide)
theorem lw_morning (hL : L ≤ 320) (hi : i + 5 ≤ L) (hq : q ≤ 64) (R : Rel q H) : ∃ H2, Rel (q + 1) H2 ∧ ∀ K, tA (L, xs) iL_law 718 [vR (some 1000000000), vR (some 0), vR (some 45), vI (nI i)] [] H K = tA (L, xs) iL_law 1546 [vR (some 1000000000), vR (some 0), vR (some 45), vI (nI i)] [] H2 K := by
  have hcl := Rel_cl R
  have hno := Rel_no hq R
  obtain ⟨v, H1, H2, hx, hm, R', ⟨h1, h1c⟩, hv⟩ := c_morning (sc := (L, xs)) (v := xs (i + 1)) hq R
  have h1 := h1 hq
  refine ⟨H2, R', fun K => ?_⟩
  rcases hv with hb | hb
  · obtain ⟨-, a, rfl⟩ := hb
    simp (disch := first | omega | assumption) only [rL_law_718, rL_law_719, rL_law_720, rL_law_721, rL_law_722, rL_law_723, rL_law_724, rL_law_727, rL_law_728, rL_law_729, rL_law_730, rL_law_731, rL_law_732, rL_law_733, rL_law_736, rL_law_739, rL_law_740, sc_rd, hx, hm, oz_some, tpu_some, nI_1, nA2, nI_a3, nA4, lg_self, if_true, not_true_eq_false, if_false]
  · exact absurd hb.1 (by decide)
theorem lw_now (hL : L ≤ 320) (hi : i + 5 ≤ L) (hq : q ≤ 64) (R : Rel q H) : ∃ H2, Rel (q + 1) H2 ∧ ∀ K, tA (L, xs) iL_law 741 [vR (some 1000000000), vR (some 0), vR (some 45), vI (nI i)] [] H K = tA (L, xs) iL_law 1546 [vR (some 1000000000), vR (some 0), vR (some 45), vI (nI i)] [] H2 K := by
  have hcl := Rel_cl R
  have hno := Rel_no hq R
  obtain ⟨v, H1, H2, hx, hm, R', ⟨h1, h1c⟩, hv⟩ := c_now (sc := (L, xs))  hq R
  have h1 := h1 hq
  refine ⟨H2, R', fun K => ?_⟩
  rcases hv with hb | hb
  · obtain ⟨-, a, rfl⟩ := hb
    simp (disch := first | omega | assumption) only [rL_law_741, rL_law_742, rL_law_745, rL_law_746, rL_law_749, rL_law_752, rL_law_753, sc_rd, hx, hm, oz_some, tpu_some, nI_1, nA2, nI_a3, nA4, lg_self, if_true, not_true_eq_false, if_false]
  · exact absurd hb.1 (by decide)
theorem lw_owner (hL : L ≤ 320) (hi : i + 5 ≤ L) (hq : q ≤ 64) (R : Rel q H) : ∃ H2, Rel (q + 1) H2 ∧ ∀ K, tA (L, xs) iL_law 754 [vR (some 1000000000), vR (some 0), vR (some 45), vI (nI i)] [] H K = tA (L, xs) iL_law 1546 [vR (some 1000000000), vR (some 0), vR (some 45), vI (nI i)] [] H2 K := by
  have hcl := Rel_cl R
  have hno := Rel_no hq R
  obtain ⟨v, H1, H2, hx, hm, R', ⟨h1, h1c⟩, hv⟩ := c_owner (sc := (L, xs)) (d := xs (i + 1)) hq R
  have h1 := h1 hq
  refine ⟨H2, R', fun K => ?_⟩
  rcases hv with hb | hb
  · obtain ⟨-, a, rfl⟩ := hb
    simp (disch := first | omega | assumption) only [rL_law_754, rL_law_755, rL_law_756, rL_law_757, rL_law_758, rL_law_759, rL_law_760, rL_law_763, rL_law_764, rL_law_765, rL_law_766, rL_law_767, rL_law_768, rL_law_769, rL_law_772, rL_law_775, rL_law_776, sc_rd, hx, hm, oz_some, tpu_some, nI_1, nA2, nI_a3, nA4, lg_self, if_true, not_true_eq_false, if_false]
  · exact absurd hb.1 (by decide)
theorem lw_odds (hL : L ≤ 320) (hi : i + 5 ≤ L) (hq : q ≤ 64) (R : Rel q H) : ∃ H2, Rel (q + 1) H2 ∧ ∀ K, tA (L, xs) iL_law 777 [vR (some 1000000000), vR (some 0), vR (some 45), vI (nI i)] [] H K = tA (L, xs) iL_law 1546 [vR (some 1000000000), vR (some 0), vR (some 45), vI (nI i)] [] H2 K := by
  have hcl := Rel_cl R
  have hno := Rel_no hq R
  obtain ⟨v, H1, H2, hx, hm, R', ⟨h1, h1c⟩, hv⟩ := c_odds (sc := (L, xs)) (d := xs (i + 1)) (w := xs (i + 2)) (p := xs (i + 3)) hq R
  have h1 := h1 hq
  refine ⟨H2, R', fun K => ?_⟩
  rcases hv with hb | hb
  · obtain ⟨-, a, rfl⟩ := hb
    simp (disch := first | omega | assumption) only [rL_law_777, rL_law_778, rL_law_779, rL_law_780, rL_law_781, rL_law_782, rL_law_783, rL_law_784, rL_law_785, rL_law_786, rL_law_787, rL_law_788, rL_law_789, rL_law_790, rL_law_791, rL_law_792, rL_law_793, rL_law_796, rL_law_797, rL_law_798, rL_law_799, rL_law_800, rL_law_801, rL_law_802, rL_law_803, rL_law_804, rL_law_805, rL_law_806, rL_law_807, rL_law_808, rL_law_809, rL_law_810, rL_law_811, rL_law_812, rL_law_815, rL_law_818, rL_law_819, sc_rd, hx, hm, oz_some, tpu_some, nI_1, nA2, nI_a3, nA4, lg_self, if_true, not_true_eq_false, if_false]
  · exact absurd hb.1 (by decide)
theorem lw_gain (hL : L ≤ 320) (hi : i + 5 ≤ L) (hq : q ≤ 64) (R : Rel q H) : ∃ H2, Rel (q + 1) H2 ∧ ∀ K, tA (L, xs) iL_law 820 [vR (some 1000000000), vR (some 0), vR (some 45), vI (nI i)] [] H K = tA (L, xs) iL_law 1546 [vR (some 1000000000), vR (some 0), vR (some 45), vI (nI i)] [] H2 K := by
  have hcl := Rel_cl R
  have hno := Rel_no hq R
  obtain ⟨v, H1, H2, hx, hm, R', ⟨h1, h1c⟩, hv⟩ := c_gain (sc := (L, xs)) (d := xs (i + 1)) (w := xs (i + 2)) (p := xs (i + 3)) hq R
  have h1 := h1 hq
  refine ⟨H2, R', fun K => ?_⟩
  rcases hv with hb | hb
  · exact absurd hb.1 (by decide)
  · obtain ⟨-, a, rfl⟩ := hb
    simp (disch := first | omega | assumption) only [rL_law_820, rL_law_821, rL_law_822, rL_law_823, rL_law_824, rL_law_825, rL_law_826, rL_law_827, rL_law_828, rL_law_829, rL_law_830, rL_law_831, rL_law_832, rL_law_833, rL_law_834, rL_law_835, rL_law_836, rL_law_839, rL_law_840, rL_law_841, rL_law_842, rL_law_843, rL_law_844, rL_law_845, rL_law_846, rL_law_847, rL_law_848, rL_law_849, rL_law_850, rL_law_851, rL_law_852, rL_law_853, rL_law_854, rL_law_855, rL_law_858, rL_law_859, rL_law_862, rL_law_863, sc_rd, hx, hm, oz_some, tpu_some, nI_1, nA2, nI_a3, nA4, lg_self, if_true, not_true_eq_false, if_false]
theorem lw_waited (hL : L ≤ 320) (hi : i + 5 ≤ L) (hq : q ≤ 64) (R : Rel q H) : ∃ H2, Rel (q + 1) H2 ∧ ∀ K, tA (L, xs) iL_law 864 [vR (some 1000000000), vR (some 0), vR (some 45), vI (nI i)] [] H K = tA (L, xs) iL_law 1546 [vR (some 1000000000), vR (some 0), vR (some 45), vI (nI i)] [] H2 K := by
  have hcl := Rel_cl R
  have hno := Rel_no hq R
  obtain ⟨v, H1, H2, hx, hm, R', ⟨h1, h1c⟩, hv⟩ := c_waited (sc := (L, xs)) (d := xs (i + 1)) (p := xs (i + 2)) hq R
  have h1 := h1 hq
  refine ⟨H2, R', fun K => ?_⟩
  rcases hv with hb | hb
  · exact absurd hb.1 (by decide)
  · obtain ⟨-, a, rfl⟩ := hb
    simp (disch := first | omega | assumption) only [rL_law_864, rL_law_865, rL_law_866, rL_law_867, rL_law_868, rL_law_869, rL_law_870, rL_law_871, rL_law_872, rL_law_873, rL_law_874, rL_law_875, rL_law_878, rL_law_879, rL_law_880, rL_law_881, rL_law_882, rL_law_883, rL_law_884, rL_law_885, rL_law_886, rL_law_887, rL_law_888, rL_law_889, rL_law_892, rL_law_893, rL_law_896, rL_law_897, sc_rd, hx, hm, oz_some, tpu_some, nI_1, nA2, nI_a3, nA4, lg_self, if_true, not_true_eq_false, if_false]
theorem lw_best (hL : L ≤ 320) (hi : i + 5 ≤ L) (hq : q ≤ 64) (R : Rel q H) : ∃ H2, Rel (q + 1) H2 ∧ ∀ K, tA (L, xs) iL_law 898 [vR (some 1000000000), vR (some 0), vR (some 45), vI (nI i)] [] H K = tA (L, xs) iL_law 1546 [vR (some 1000000000), vR (some 0), vR (some 45), vI (nI i)] [] H2 K := by
  have hcl := Rel_cl R
  have hno := Rel_no hq R
  obtain ⟨v, H1, H2, hx, hm, R', ⟨h1, h1c⟩, hv⟩ := c_best (sc := (L, xs)) (w := xs (i + 1)) hq R
  have h1 := h1 hq
  refine ⟨H2, R', fun K => ?_⟩
  rcases hv with hb | hb
  · obtain ⟨-, a, rfl⟩ := hb
    simp (disch := first | omega | assumption) only [rL_law_898, rL_law_899, rL_law_900, rL_law_901, rL_law_902, rL_law_903, rL_law_904, rL_law_907, rL_law_908, rL_law_909, rL_law_910, rL_law_911, rL_law_912, rL_law_913, rL_law_916, rL_law_919, rL_law_920, sc_rd, hx, hm, oz_some, tpu_some, nI_1, nA2, nI_a3, nA4, lg_self, if_true, not_true_eq_false, if_false]
  · exact absurd hb.1 (by decide)
theorem lw_whole (hL : L ≤ 320) (hi : i + 5 ≤ L) (hq : q ≤ 64) (R : Rel q H) : ∃ H2, Rel (q + 1) H2 ∧ ∀ K, tA (L, xs) iL_law 921 [vR (some 1000000000), vR (some 0), vR (some 45), vI (nI i)] [] H K = tA (L, xs) iL_law 1546 [vR (some 1000000000), vR (some 0), vR (some 45), vI (nI i)] [] H2 K := by
  have hcl := Rel_cl R
  have hno := Rel_no hq R
  obtain ⟨v, H1, H2, hx, hm, R', ⟨h1, h1c⟩, hv⟩ := c_whole (sc := (L, xs)) (d := xs (i + 1)) (p := xs (i + 2)) hq R
  have h1 := h1 hq
  refine ⟨H2, R', fun K => ?_⟩
  rcases hv with hb | hb
  · exact absurd hb.1 (by decide)
  · obtain ⟨-, a, rfl⟩ := hb
    simp (disch := first | omega | assumption) only [rL_law_921, rL_law_922, rL_law_923, rL_law_924, rL_law_925, rL_law_926, rL_law_927, rL_law_928, rL_law_929, rL_law_930, rL_law_931, rL_law_932, rL_law_935, rL_law_936, rL_law_937, rL_law_938, rL_law_939, rL_law_940, rL_law_941, rL_law_942, rL_law_943, rL_law_944, rL_law_945, rL_law_946, rL_law_949, rL_law_950, rL_law_953, rL_law_954, sc_rd, hx, hm, oz_some, tpu_some, nI_1, nA2, nI_a3, nA4, lg_self, if_true, not_true_eq_false, if_false]
theorem lw_owed (hL : L ≤ 320) (hi : i + 5 ≤ L) (hq : q ≤ 64) (R : Rel q H) : ∃ H2, Rel (q + 1) H2 ∧ ∀ K, tA (L, xs) iL_law 955 [vR (some 1000000000), vR (some 0), vR (some 45), vI (nI i)] [] H K = tA (L, xs) iL_law 1546 [vR (some 1000000000), vR (some 0), vR (some 45), vI (nI i)] [] H2 K := by
  have hcl := Rel_cl R
  have hno := Rel_no hq R
  obtain ⟨v, H1, H2, hx, hm, R', ⟨h1, h1c⟩, hv⟩ := c_owed (sc := (L, xs)) (s := xs (i + 1)) hq R
  have h1 := h1 hq
  refine ⟨H2, R', fun K => ?_⟩
  rcases hv with hb | hb
  · exact absurd hb.1 (by decide)
  · obtain ⟨-, a, rfl⟩ := hb
    simp (disch := first | omega | assumption) only [rL_law_955, rL_law_956, rL_law_957, rL_law_958, rL_law_959, rL_law_960, rL_law_961, rL_law_964, rL_law_965, rL_law_966, rL_law_967, rL_law_968, rL_law_969, rL_law_970, rL_law_973, rL_law_974, rL_law_977, rL_law_978, sc_rd, hx, hm, oz_some, tpu_some, nI_1, nA2, nI_a3, nA4, lg_self, if_true, not_true_eq_false, if_false]
theorem lw_believed (hL : L ≤ 320) (hi : i + 5 ≤ L) (hq : q ≤ 64) (R : Rel q H) : ∃ H2, Rel (q + 1) H2 ∧ ∀ K, tA (L, xs) iL_law 979 [vR (some 1000000000), vR (some 0), vR (some 45), vI (nI i)] [] H K = tA (L, xs) iL_law 1546 [vR (some 1000000000), vR (some 0), vR (some 45), vI (nI i)] [] H2 K := by
  have hcl := Rel_cl R
  have hno := Rel_no hq R
  obtain ⟨v, H1, H2, hx, hm, R', ⟨h1, h1c⟩, hv⟩ := c_believed (sc := (L, xs)) (s := xs (i + 1)) (p := xs (i + 2)) hq R
  have h1 := h1 hq
  refine ⟨H2, R', fun K => ?_⟩
  rcases hv with hb | hb
  · obtain ⟨-, a, rfl⟩ := hb
    simp (disch := first | omega | assumption) only [rL_law_979, rL_law_980, rL_law_981, rL_law_982, rL_law_983, rL_law_984, rL_law_985, rL_law_986, rL_law_987, rL_law_988, rL_law_989, rL_law_990, rL_law_993, rL_law_994, rL_law_995, rL_law_996, rL_law_997, rL_law_998, rL_law_999, rL_law_1000, rL_law_1001, rL_law_1002, rL_law_1003, rL_law_1004, rL_law_1007, rL_law_1010, rL_law_1011, sc_rd, hx, hm, oz_some, tpu_some, nI_1, nA2, nI_a3, nA4, lg_self, if_true, not_true_eq_false, if_false]
  · exact absurd hb.1 (by decide)
theorem lw_whom (hL : L ≤ 320) (hi : i + 5 ≤ L) (hq : q ≤ 64) (R : Rel q H) : ∃ H2, Rel (q + 1) H2 ∧ ∀ K, tA (L, xs) iL_law 1012 [vR (some 1000000000), vR (some 0), vR (some 45), vI (nI i)] [] H K = tA (L, xs) iL_law 1546 [vR (some 1000000000), vR (some 0), vR (some 45), vI (nI i)] [] H2 K := by
  have hcl := Rel_cl R
  have hno := Rel_no hq R
  obtain ⟨v, H1, H2, hx, hm, R', ⟨h1, h1c⟩, hv⟩ := c_whom (sc := (L, xs))  hq R
  have h1 := h1 hq
  refine ⟨H2, R', fun K => ?_⟩
  rcases hv with hb | hb
  · obtain ⟨-, a, rfl⟩ := hb
    simp (disch := first | omega | assumption) only [rL_law_1012, rL_law_1013, rL_law_1016, rL_law_1017, rL_law_1020, rL_law_1023, rL_law_1024, sc_rd, hx, hm, oz_some, tpu_some, nI_1, nA2, nI_a3, nA4, lg_self, if_true, not_true_eq_false, if_false]
  · exact absurd hb.1 (by decide)
theorem lw_open (hL : L ≤ 320) (hi : i + 5 ≤ L) (hq : q ≤ 64) (R : Rel q H) : ∃ H2, Rel (q + 1) H2 ∧ ∀ K, tA (L, xs) iL_law 1025 [vR (some 1000000000), vR (some 0), vR (some 45), vI (nI i)] [] H K = tA (L, xs) iL_law 1546 [vR (some 1000000000), vR (some 0), vR (some 45), vI (nI i)] [] H2 K := by
  have hcl := Rel_cl R
  have hno := Rel_no hq R
  obtain ⟨v, H1, H2, hx, hm, R', ⟨h1, h1c⟩, hv⟩ := c_open (sc := (L, xs))  hq R
  have h1 := h1 hq
  refine ⟨H2, R', fun K => ?_⟩
  rcases hv with hb | hb
  · obtain ⟨-, a, rfl⟩ := hb
    simp (disch := first | omega | assumption) only [rL_law_1025, rL_law_1026, rL_law_1029, rL_law_1030, rL_law_1033, rL_law_1036, rL_law_1037, sc_rd, hx, hm, oz_some, tpu_some, nI_1, nA2, nI_a3, nA4, lg_self, if_true, not_true_eq_false, if_false]
  · exact absurd hb.1 (by decide)
theorem lw_seed (hL : L ≤ 320) (hi : i + 5 ≤ L) (hq : q ≤ 64) (R : Rel q H) : ∃ H2, Rel (q + 1) H2 ∧ ∀ K, tA (L, xs) iL_law 1038 [vR (some 1000000000), vR (some 0), vR (some 45), vI (nI i)] [] H K = tA (L, xs) iL_law 1546 [vR (some 1000000000), vR (some 0), vR (some 45), vI (nI i)] [] H2 K := by
  have hcl := Rel_cl R
  have hno := Rel_no hq R
  obtain ⟨v, H1, H2, hx, hm, R', ⟨h1, h1c⟩, hv⟩ := c_seed (sc := (L, xs)) (v := xs (i + 1)) hq R
  have h1 := h1 hq
  refine ⟨H2, R', fun K => ?_⟩
  rcases hv with hb | hb
  · obtain ⟨-, a, rfl⟩ := hb
    simp (disch := first | omega | assumption) only [rL_law_1038, rL_law_1039, rL_law_1040, rL_law_1041, rL_law_1042, rL_law_1043, rL_law_1044, rL_law_1047, rL_law_1048, rL_law_1049, rL_law_1050, rL_law_1051, rL_law_1052, rL_law_1053, rL_law_1056, rL_law_1059, rL_law_1060, sc_rd, hx, hm, oz_some, tpu_some, nI_1, nA2, nI_a3, nA4, lg_self, if_true, not_true_eq_false, if_false]
  · exact absurd hb.1 (by decide)
theorem lw_prove (hL : L ≤ 320) (hi : i + 5 ≤ L) (hq : q ≤ 64) (R : Rel q H) : ∃ H2, Rel (q + 1) H2 ∧ ∀ K, tA (L, xs) iL_law 1061 [vR (some 1000000000), vR (some 0), vR (some 45), vI (nI i)] [] H K = tA (L, xs) iL_law 1546 [vR (some 1000000000), vR (some 0), vR (some 45), vI (nI i)] [] H2 K := by
  have hcl := Rel_cl R
  have hno := Rel_no hq R
  obtain ⟨v, H1, H2, hx, hm, R', ⟨h1, h1c⟩, hv⟩ := c_prove (sc := (L, xs)) (v := xs (i + 1)) hq R
  have h1 := h1 hq
  refine ⟨H2, R', fun K => ?_⟩
  rcases hv with hb | hb
  · obtain ⟨-, a, rfl⟩ := hb
    simp (disch := first | omega | assumption) only [rL_law_1061, rL_law_1062, rL_law_1063, rL_law_1064, rL_law_1065, rL_law_1066, rL_law_1067, rL_law_1070, rL_law_1071, rL_law_1072, rL_law_1073, rL_law_1074, rL_law_1075, rL_law_1076, rL_law_1079, rL_law_1082, rL_law_1083, sc_rd, hx, hm, oz_some, tpu_some, nI_1, nA2, nI_a3, nA4, lg_self, if_true, not_true_eq_false, if_false]
  · exact absurd hb.1 (by decide)
theorem lw_row (hL : L ≤ 320) (hi : i + 5 ≤ L) (hq : q ≤ 64) (R : Rel q H) : ∃ H2, Rel (q + 1) H2 ∧ ∀ K, tA (L, xs) iL_law 1084 [vR (some 1000000000), vR (some 0), vR (some 45), vI (nI i)] [] H K = tA (L, xs) iL_law 1546 [vR (some 1000000000), vR (some 0), vR (some 45), vI (nI i)] [] H2 K := by
  have hcl := Rel_cl R
  have hno := Rel_no hq R
  obtain ⟨v, H1, H2, hx, hm, R', ⟨h1, h1c⟩, hv⟩ := c_row (sc := (L, xs)) (i := xs (i + 1)) (w := xs (i + 2)) hq R
  have h1 := h1 hq
  refine ⟨H2, R', fun K => ?_⟩
  rcases hv with hb | hb
  · obtain ⟨-, a, rfl⟩ := hb
    simp (disch := first | omega | assumption) only [rL_law_1084, rL_law_1085, rL_law_1086, rL_law_1087, rL_law_1088, rL_law_1089, rL_law_1090, rL_law_1091, rL_law_1092, rL_law_1093, rL_law_1094, rL_law_1095, rL_law_1098, rL_law_1099, rL_law_1100, rL_law_1101, rL_law_1102, rL_law_1103, rL_law_1104, rL_law_1105, rL_law_1106, rL_law_1107, rL_law_1108, rL_law_1109, rL_law_1112, rL_law_1115, rL_law_1116, sc_rd, hx, hm, oz_some, tpu_some, nI_1, nA2, nI_a3, nA4, lg_self, if_true, not_true_eq_false, if_false]
  · exact absurd hb.1 (by decide)
theorem lw_alterRow (hL : L ≤ 320) (hi : i + 5 ≤ L) (hq : q ≤ 64) (R : Rel q H) : ∃ H2, Rel (q + 1) H2 ∧ ∀ K, tA (L, xs) iL_law 1117 [vR (some 1000000000), vR (some 0), vR (some 45), vI (nI i)] [] H K = tA (L, xs) iL_law 1546 [vR (some 1000000000), vR (some 0), vR (some 45), vI (nI i)] [] H2 K := by
  have hcl := Rel_cl R
  have hno := Rel_no hq R
  obtain ⟨v, H1, H2, hx, hm, R', ⟨h1, h1c⟩, hv⟩ := c_alterRow (sc := (L, xs)) (i := xs (i + 1)) (w := xs (i + 2)) (v := xs (i + 3)) hq R
  have h1 := h1 hq
  refine ⟨H2, R', fun K => ?_⟩
  rcases hv with hb | hb
  · obtain ⟨-, a, rfl⟩ := hb
    simp (disch := first | omega | assumption) only [rL_law_1117, rL_law_1118, rL_law_1119, rL_law_1120, rL_law_1121, rL_law_1122, rL_law_1123, rL_law_1124, rL_law_1125, rL_law_1126, rL_law_1127, rL_law_1128, rL_law_1129, rL_law_1130, rL_law_1131, rL_law_1132, rL_law_1133, rL_law_1136, rL_law_1137, rL_law_1138, rL_law_1139, rL_law_1140, rL_law_1141, rL_law_1142, rL_law_1143, rL_law_1144, rL_law_1145, rL_law_1146, rL_law_1147, rL_law_1148, rL_law_1149, rL_law_1150, rL_law_1151, rL_law_1152, rL_law_1155, rL_law_1158, rL_law_1159, sc_rd, hx, hm, oz_some, tpu_some, nI_1, nA2, nI_a3, nA4, lg_self, if_true, not_true_eq_false, if_false]
  · exact absurd hb.1 (by decide)
theorem lw_judge (hL : L ≤ 320) (hi : i + 5 ≤ L) (hq : q ≤ 64) (R : Rel q H) : ∃ H2, Rel (q + 1) H2 ∧ ∀ K, tA (L, xs) iL_law 1160 [vR (some 1000000000), vR (some 0), vR (some 45), vI (nI i)] [] H K = tA (L, xs) iL_law 1546 [vR (some 1000000000), vR (some 0), vR (some 45), vI (nI i)] [] H2 K := by
  have hcl := Rel_cl R
  have hno := Rel_no hq R
  obtain ⟨v, H1, H2, hx, hm, R', ⟨h1, h1c⟩, hv⟩ := c_judge (sc := (L, xs))  hq R
  have h1 := h1 hq
  refine ⟨H2, R', fun K => ?_⟩
  rcases hv with hb | hb
  · obtain ⟨-, a, rfl⟩ := hb
    simp (disch := first | omega | assumption) only [rL_law_1160, rL_law_1161, rL_law_1164, rL_law_1165, rL_law_1168, rL_law_1171, rL_law_1172, sc_rd, hx, hm, oz_some, tpu_some, nI_1, nA2, nI_a3, nA4, lg_self, if_true, not_true_eq_false, if_false]
  · exact absurd hb.1 (by decide)
theorem lw_worths (hL : L ≤ 320) (hi : i + 5 ≤ L) (hq : q ≤ 64) (R : Rel q H) : ∃ H2, Rel (q + 1) H2 ∧ ∀ K, tA (L, xs) iL_law 1173 [vR (some 1000000000), vR (some 0), vR (some 45), vI (nI i)] [] H K = tA (L, xs) iL_law 1546 [vR (some 1000000000), vR (some 0), vR (some 45), vI (nI i)] [] H2 K := by
  have hcl := Rel_cl R
  have hno := Rel_no hq R
  obtain ⟨v, H1, H2, hx, hm, R', ⟨h1, h1c⟩, hv⟩ := c_worths (sc := (L, xs)) (k0 := xs (i + 1)) (i0 := xs (i + 2)) (d0 := xs (i + 3)) (n0 := xs (i + 4)) hq R
  have h1 := h1 hq
  refine ⟨H2, R', fun K => ?_⟩
  rcases hv with hb | hb
  · obtain ⟨-, a, rfl⟩ := hb
    simp (disch := first | omega | assumption) only [rL_law_1173, rL_law_1174, rL_law_1175, rL_law_1176, rL_law_1177, rL_law_1178, rL_law_1179, rL_law_1180, rL_law_1181, rL_law_1182, rL_law_1183, rL_law_1184, rL_law_1185, rL_law_1186, rL_law_1187, rL_law_1188, rL_law_1189, rL_law_1190, rL_law_1191, rL_law_1192, rL_law_1193, rL_law_1194, rL_law_1197, rL_law_1198, rL_law_1199, rL_law_1200, rL_law_1201, rL_law_1202, rL_law_1203, rL_law_1204, rL_law_1205, rL_law_1206, rL_law_1207, rL_law_1208, rL_law_1209, rL_law_1210, rL_law_1211, rL_law_1212, rL_law_1213, rL_law_1214, rL_law_1215, rL_law_1216, rL_law_1217, rL_law_1218, rL_law_1221, rL_law_1224, rL_law_1225, sc_rd, hx, hm, oz_some, tpu_some, nI_1, nA2, nI_a3, nA4, lg_self, if_true, not_true_eq_false, if_false]
  · exact absurd hb.1 (by decide)
theorem lw_sheet (hL : L ≤ 320) (hi : i + 5 ≤ L) (hq : q ≤ 64) (R : Rel q H) : ∃ H2, Rel (q + 1) H2 ∧ ∀ K, tA (L, xs) iL_law 1226 [vR (some 1000000000), vR (some 0), vR (some 45), vI (nI i)] [] H K = tA (L, xs) iL_law 1546 [vR (some 1000000000), vR (some 0), vR (some 45), vI (nI i)] [] H2 K := by
  have hcl := Rel_cl R
  have hno := Rel_no hq R
  obtain ⟨v, H1, H2, hx, hm, R', ⟨h1, h1c⟩, hv⟩ := c_sheet (sc := (L, xs)) (k0 := xs (i + 1)) (s0 := xs (i + 2)) (n0 := xs (i + 3)) hq R
  have h1 := h1 hq
  refine ⟨H2, R', fun K => ?_⟩
  rcases hv with hb | hb
  · obtain ⟨-, a, rfl⟩ := hb
    simp (disch := first | omega | assumption) only [rL_law_1226, rL_law_1227, rL_law_1228, rL_law_1229, rL_law_1230, rL_law_1231, rL_law_1232, rL_law_1233, rL_law_1234, rL_law_1235, rL_law_1236, rL_law_1237, rL_law_1238, rL_law_1239, rL_law_1240, rL_law_1241, rL_law_1242, rL_law_1245, rL_law_1246, rL_law_1247, rL_law_1248, rL_law_1249, rL_law_1250, rL_law_1251, rL_law_1252, rL_law_1253, rL_law_1254, rL_law_1255, rL_law_1256, rL_law_1257, rL_law_1258, rL_law_1259, rL_law_1260, rL_law_1261, rL_law_1264, rL_law_1267, rL_law_1268, sc_rd, hx, hm, oz_some, tpu_some, nI_1, nA2, nI_a3, nA4, lg_self, if_true, not_true_eq_false, if_false]
  · exact absurd hb.1 (by decide)
theorem lw_put (hL : L ≤ 320) (hi : i + 5 ≤ L) (hq : q ≤ 64) (R : Rel q H) : ∃ H2, Rel (q + 1) H2 ∧ ∀ K, tA (L, xs) iL_law 1269 [vR (some 1000000000), vR (some 0), vR (some 45), vI (nI i)] [] H K = tA (L, xs) iL_law 1546 [vR (some 1000000000), vR (some 0), vR (some 45), vI (nI i)] [] H2 K := by
  have hcl := Rel_cl R
  have hno := Rel_no hq R
  obtain ⟨v, H1, H2, hx, hm, R', ⟨h1, h1c⟩, hv⟩ := c_put (sc := (L, xs)) (k0 := xs (i + 1)) (i0 := xs (i + 2)) (v0 := xs (i + 3)) hq R
  have h1 := h1 hq
  refine ⟨H2, R', fun K => ?_⟩
  rcases hv with hb | hb
  · obtain ⟨-, a, rfl⟩ := hb
    simp (disch := first | omega | assumption) only [rL_law_1269, rL_law_1270, rL_law_1271, rL_law_1272, rL_law_1273, rL_law_1274, rL_law_1275, rL_law_1276, rL_law_1277, rL_law_1278, rL_law_1279, rL_law_1280, rL_law_1281, rL_law_1282, rL_law_1283, rL_law_1284, rL_law_1285, rL_law_1288, rL_law_1289, rL_law_1290, rL_law_1291, rL_law_1292, rL_law_1293, rL_law_1294, rL_law_1295, rL_law_1296, rL_law_1297, rL_law_1298, rL_law_1299, rL_law_1300, rL_law_1301, rL_law_1302, rL_law_1303, rL_law_1304, rL_law_1307, rL_law_1310, rL_law_1311, sc_rd, hx, hm, oz_some, tpu_some, nI_1, nA2, nI_a3, nA4, lg_self, if_true, not_true_eq_false, if_false]
  · exact absurd hb.1 (by decide)
theorem lw_item (hL : L ≤ 320) (hi : i + 5 ≤ L) (hq : q ≤ 64) (R : Rel q H) : ∃ H2, Rel (q + 1) H2 ∧ ∀ K, tA (L, xs) iL_law 1312 [vR (some 1000000000), vR (some 0), vR (some 45), vI (nI i)] [] H K = tA (L, xs) iL_law 1546 [vR (some 1000000000), vR (some 0), vR (some 45), vI (nI i)] [] H2 K := by
  have hcl := Rel_cl R
  have hno := Rel_no hq R
  obtain ⟨v, H1, H2, hx, hm, R', ⟨h1, h1c⟩, hv⟩ := c_item (sc := (L, xs)) (k0 := xs (i + 1)) (s0 := xs (i + 2)) (i0 := xs (i + 3)) hq R
  have h1 := h1 hq
  refine ⟨H2, R', fun K => ?_⟩
  rcases hv with hb | hb
  · obtain ⟨-, a, rfl⟩ := hb
    simp (disch := first | omega | assumption) only [rL_law_1312, rL_law_1313, rL_law_1314, rL_law_1315, rL_law_1316, rL_law_1317, rL_law_1318, rL_law_1319, rL_law_1320, rL_law_1321, rL_law_1322, rL_law_1323, rL_law_1324, rL_law_1325, rL_law_1326, rL_law_1327, rL_law_1328, rL_law_1331, rL_law_1332, rL_law_1333, rL_law_1334, rL_law_1335, rL_law_1336, rL_law_1337, rL_law_1338, rL_law_1339, rL_law_1340, rL_law_1341, rL_law_1342, rL_law_1343, rL_law_1344, rL_law_1345, rL_law_1346, rL_law_1347, rL_law_1350, rL_law_1353, rL_law_1354, sc_rd, hx, hm, oz_some, tpu_some, nI_1, nA2, nI_a3, nA4, lg_self, if_true, not_true_eq_false, if_false]
  · exact absurd hb.1 (by decide)
theorem lw_shelf (hL : L ≤ 320) (hi : i + 5 ≤ L) (hq : q ≤ 64) (R : Rel q H) : ∃ H2, Rel (q + 1) H2 ∧ ∀ K, tA (L, xs) iL_law 1355 [vR (some 1000000000), vR (some 0), vR (some 45), vI (nI i)] [] H K = tA (L, xs) iL_law 1546 [vR (some 1000000000), vR (some 0), vR (some 45), vI (nI i)] [] H2 K := by
  have hcl := Rel_cl R
  have hno := Rel_no hq R
  obtain ⟨v, H1, H2, hx, hm, R', ⟨h1, h1c⟩, hv⟩ := c_shelf (sc := (L, xs)) (k0 := xs (i + 1)) (w0 := xs (i + 2)) (n0 := xs (i + 3)) hq R
  have h1 := h1 hq
  refine ⟨H2, R', fun K => ?_⟩
  rcases hv with hb | hb
  · obtain ⟨-, a, rfl⟩ := hb
    simp (disch := first | omega | assumption) only [rL_law_1355, rL_law_1356, rL_law_1357, rL_law_1358, rL_law_1359, rL_law_1360, rL_law_1361, rL_law_1362, rL_law_1363, rL_law_1364, rL_law_1365, rL_law_1366, rL_law_1367, rL_law_1368, rL_law_1369, rL_law_1370, rL_law_1371, rL_law_1374, rL_law_1375, rL_law_1376, rL_law_1377, rL_law_1378, rL_law_1379, rL_law_1380, rL_law_1381, rL_law_1382, rL_law_1383, rL_law_1384, rL_law_1385, rL_law_1386, rL_law_1387, rL_law_1388, rL_law_1389, rL_law_1390, rL_law_1393, rL_law_1396, rL_law_1397, sc_rd, hx, hm, oz_some, tpu_some, nI_1, nA2, nI_a3, nA4, lg_self, if_true, not_true_eq_false, if_false]
  · exact absurd hb.1 (by decide)
theorem lw_taken (hL : L ≤ 320) (hi : i + 5 ≤ L) (hq : q ≤ 64) (R : Rel q H) : ∃ H2, Rel (q + 1) H2 ∧ ∀ K, tA (L, xs) iL_law 1398 [vR (some 1000000000), vR (some 0), vR (some 45), vI (nI i)] [] H K = tA (L, xs) iL_law 1546 [vR (some 1000000000), vR (some 0), vR (some 45), vI (nI i)] [] H2 K := by
  have hcl := Rel_cl R
  have hno := Rel_no hq R
  obtain ⟨v, H1, H2, hx, hm, R', ⟨h1, h1c⟩, hv⟩ := c_taken (sc := (L, xs)) (k0 := xs (i + 1)) (a0 := xs (i + 2)) hq R
  have h1 := h1 hq
  refine ⟨H2, R', fun K => ?_⟩
  rcases hv with hb | hb
  · obtain ⟨-, a, rfl⟩ := hb
    simp (disch := first | omega | assumption) only [rL_law_1398, rL_law_1399, rL_law_1400, rL_law_1401, rL_law_1402, rL_law_1403, rL_law_1404, rL_law_1405, rL_law_1406, rL_law_1407, rL_law_1408, rL_law_1409, rL_law_1412, rL_law_1413, rL_law_1414, rL_law_1415, rL_law_1416, rL_law_1417, rL_law_1418, rL_law_1419, rL_law_1420, rL_law_1421, rL_law_1422, rL_law_1423, rL_law_1426, rL_law_1429, rL_law_1430, sc_rd, hx, hm, oz_some, tpu_some, nI_1, nA2, nI_a3, nA4, lg_self, if_true, not_true_eq_false, if_false]
  · exact absurd hb.1 (by decide)
theorem lw_act (hL : L ≤ 320) (hi : i + 5 ≤ L) (hq : q ≤ 64) (R : Rel q H) : ∃ H2, Rel (q + 1) H2 ∧ ∀ K, tA (L, xs) iL_law 1431 [vR (some 1000000000), vR (some 0), vR (some 45), vI (nI i)] [] H K = tA (L, xs) iL_law 1546 [vR (some 1000000000), vR (some 0), vR (some 45), vI (nI i)] [] H2 K := by
  have hcl := Rel_cl R
  have hno := Rel_no hq R
  obtain ⟨v, H1, H2, hx, hm, R', ⟨h1, h1c⟩, hv⟩ := c_act (sc := (L, xs)) (k0 := xs (i + 1)) (c0 := xs (i + 2)) (x0 := xs (i + 3)) hq R
  have h1 := h1 hq
  refine ⟨H2, R', fun K => ?_⟩
  rcases hv with hb | hb
  · obtain ⟨-, a, rfl⟩ := hb
    simp (disch := first | omega | assumption) only [rL_law_1431, rL_law_1432, rL_law_1433, rL_law_1434, rL_law_1435, rL_law_1436, rL_law_1437, rL_law_1438, rL_law_1439, rL_law_1440, rL_law_1441, rL_law_1442, rL_law_1443, rL_law_1444, rL_law_1445, rL_law_1446, rL_law_1447, rL_law_1450, rL_law_1451, rL_law_1452, rL_law_1453, rL_law_1454, rL_law_1455, rL_law_1456, rL_law_1457, rL_law_1458, rL_law_1459, rL_law_1460, rL_law_1461, rL_law_1462, rL_law_1463, rL_law_1464, rL_law_1465, rL_law_1466, rL_law_1469, rL_law_1472, rL_law_1473, sc_rd, hx, hm, oz_some, tpu_some, nI_1, nA2, nI_a3, nA4, lg_self, if_true, not_true_eq_false, if_false]
  · exact absurd hb.1 (by decide)
theorem lw_trace (hL : L ≤ 320) (hi : i + 5 ≤ L) (hq : q ≤ 64) (R : Rel q H) : ∃ H2, Rel (q + 1) H2 ∧ ∀ K, tA (L, xs) iL_law 1474 [vR (some 1000000000), vR (some 0), vR (some 45), vI (nI i)] [] H K = tA (L, xs) iL_law 1546 [vR (some 1000000000), vR (some 0), vR (some 45), vI (nI i)] [] H2 K := by
  have hcl := Rel_cl R
  have hno := Rel_no hq R
  obtain ⟨v, H1, H2, hx, hm, R', ⟨h1, h1c⟩, hv⟩ := c_trace (sc := (L, xs)) (i := xs (i + 1)) hq R
  have h1 := h1 hq
  refine ⟨H2, R', fun K => ?_⟩
  rcases hv with hb | hb
  · obtain ⟨-, a, rfl⟩ := hb
    simp (disch := first | omega | assumption) only [rL_law_1474, rL_law_1475, rL_law_1476, rL_law_1477, rL_law_1478, rL_law_1479, rL_law_1480, rL_law_1483, rL_law_1484, rL_law_1485, rL_law_1486, rL_law_1487, rL_law_1488, rL_law_1489, rL_law_1492, rL_law_1495, rL_law_1496, sc_rd, hx, hm, oz_some, tpu_some, nI_1, nA2, nI_a3, nA4, lg_self, if_true, not_true_eq_false, if_false]
  · exact absurd hb.1 (by decide)
theorem lw_many (hL : L ≤ 320) (hi : i + 5 ≤ L) (hq : q ≤ 64) (R : Rel q H) : ∃ H2, Rel (q + 1) H2 ∧ ∀ K, tA (L, xs) iL_law 1497 [vR (some 1000000000), vR (some 0), vR (some 45), vI (nI i)] [] H K = tA (L, xs) iL_law 1546 [vR (some 1000000000), vR (some 0), vR (some 45), vI (nI i)] [] H2 K := by
  have hcl := Rel_cl R
  have hno := Rel_no hq R
  obtain ⟨v, H1, H2, hx, hm, R', ⟨h1, h1c⟩, hv⟩ := c_many (sc := (L, xs)) (w := xs (i + 1)) hq R
  have h1 := h1 hq
  refine ⟨H2, R', fun K => ?_⟩
  rcases hv with hb | hb
  · obtain ⟨-, a, rfl⟩ := hb
    simp (disch := first | omega | assumption) only [rL_law_1497, rL_law_1498, rL_law_1499, rL_law_1500, rL_law_1501, rL_law_1502, rL_law_1503, rL_law_1506, rL_law_1507, rL_law_1508, rL_law_1509, rL_law_1510, rL_law_1511, rL_law_1512, rL_law_1515, rL_law_1518, rL_law_1519, sc_rd, hx, hm, oz_some, tpu_some, nI_1, nA2, nI_a3, nA4, lg_self, if_true, not_true_eq_false, if_false]
  · exact absurd hb.1 (by decide)
theorem lw_keep (hL : L ≤ 320) (hi : i + 5 ≤ L) (hq : q ≤ 64) (R : Rel q H) : ∃ H2, Rel (q + 1) H2 ∧ ∀ K, tA (L, xs) iL_law 1520 [vR (some 1000000000), vR (some 0), vR (some 45), vI (nI i)] [] H K = tA (L, xs) iL_law 1546 [vR (some 1000000000), vR (some 0), vR (some 45), vI (nI i)] [] H2 K := by
  have hcl := Rel_cl R
  have hno := Rel_no hq R
  obtain ⟨v, H1, H2, hx, hm, R', ⟨h1, h1c⟩, hv⟩ := c_keep (sc := (L, xs))  hq R
  have h1 := h1 hq
  refine ⟨H2, R', fun K => ?_⟩
  rcases hv with hb | hb
  · obtain ⟨-, a, rfl⟩ := hb
    simp (disch := first | omega | assumption) only [rL_law_1520, rL_law_1521, rL_law_1524, rL_law_1525, rL_law_1528, rL_law_1531, rL_law_1532, sc_rd, hx, hm, oz_some, tpu_some, nI_1, nA2, nI_a3, nA4, lg_self, if_true, not_true_eq_false, if_false]
  · exact absurd hb.1 (by decide)
theorem lw_again (hL : L ≤ 320) (hi : i + 5 ≤ L) (hq : q ≤ 64) (R : Rel q H) : ∃ H2, Rel (q + 1) H2 ∧ ∀ K, tA (L, xs) iL_law 1533 [vR (some 1000000000), vR (some 0), vR (some 45), vI (nI i)] [] H K = tA (L, xs) iL_law 1546 [vR (some 1000000000), vR (some 0), vR (some 45), vI (nI i)] [] H2 K := by
  have hcl := Rel_cl R
  have hno := Rel_no hq R
  obtain ⟨v, H1, H2, hx, hm, R', ⟨h1, h1c⟩, hv⟩ := c_again (sc := (L, xs))  hq R
  have h1 := h1 hq
  refine ⟨H2, R', fun K => ?_⟩
  rcases hv with hb | hb
  · obtain ⟨-, a, rfl⟩ := hb
    simp (disch := first | omega | assumption) only [rL_law_1533, rL_law_1534, rL_law_1537, rL_law_1538, rL_law_1541, rL_law_1544, rL_law_1545, sc_rd, hx, hm, oz_some, tpu_some, nI_1, nA2, nI_a3, nA4, lg_self, if_true, not_true_eq_false, if_false]
  · exact absurd hb.1 (by decide)
/-- the loop -/
theorem law_loop (hL : L ≤ 320) : ∀ (n j : Nat) (H : TH), 5 * (j + n) ≤ L → L < 5 * (j + n) + 5 → Rel j H → ∃ H', H'.2.1 ≤ 600000 ∧ H'.2.2 ≤ 7302250 ∧ ∀ K, tA (L, xs) iL_law 18 [vR (some 1000000000), vR (some 0), vR (some 45), vI (nI (5 * j))] [] H K = K (some (vI 1)) H'
  | 0, j, H, h1, h2, R => by
    have hb := Rel_2 R
    refine ⟨H, by omega, by omega, fun K => ?_⟩
    have hno := Rel_no (by omega) R
    have hl : tlen (L, xs) H 1000000000 = some (nI L) := by
      unfold tlen
      rw [hno]
      rfl
    have hc : (nI L - 5 < nI (5 * j)) = True := by
      apply eq_true
      rw [Int32.lt_iff_toInt_lt, show (5 : Int32) = nI 5 from rfl, pk_sub_toInt (by omega) (by decide), nI_toInt (by omega)]
      omega
    simp only [rL_law_18, rL_law_19, rL_law_20, rL_law_21, rL_law_22, rL_law_23, hl, oz_some, hc, if_true, rL_law_1552, rL_law_1553, or_true, true_and]
  | n + 1, j, H, h1, h2, R => by
    have hno := Rel_no (by omega) R
    have hl : tlen (L, xs) H 1000000000 = some (nI L) := by
      unfold tlen
      rw [hno]
      rfl
    have hc : (nI L - 5 < nI (5 * j)) = False := by
      apply eq_false
      rw [Int32.lt_iff_toInt_lt, show (5 : Int32) = nI 5 from rfl, pk_sub_toInt (by omega) (by decide), nI_toInt (by omega)]
      omega
    have e5 : nI (5 * j) + 5 = nI (5 * (j + 1)) := by
      rw [show (5 : Int32) = nI 5 from rfl, nI_add]
      exact congrArg nI (by omega)
    have rd := sc_rd (xs := xs) hL hno (show 5 * j < L by omega)
    obtain ⟨k, hk, ek⟩ := pk_andE (xs (5 * j)) (m := 63) 6 (by decide)
    have hk : k < 64 := hk
    have st : ∀ K, tA (L, xs) iL_law 18 [vR (some 1000000000), vR (some 0), vR (some 45), vI (nI (5 * j))] [] H K = tA (L, xs) iL_law 32 [vR (some 1000000000), vR (some 0), vR (some 45), vI (nI (5 * j))] [vI (nI k)] H K := by
      intro K
      simp only [rL_law_18, rL_law_19, rL_law_20, rL_law_21, rL_law_22, rL_law_23, rL_law_26, rL_law_27, rL_law_28, rL_law_29, rL_law_31, hl, oz_some, hc, if_false, rd, ek]
    have body : ∃ H2, Rel (j + 1) H2 ∧ ∀ K, tA (L, xs) iL_law 32 [vR (some 1000000000), vR (some 0), vR (some 45), vI (nI (5 * j))] [vI (nI k)] H K = tA (L, xs) iL_law 1546 [vR (some 1000000000), vR (some 0), vR (some 45), vI (nI (5 * j))] [] H2 K := by
      have hi : 5 * j + 5 ≤ L := by omega
      have hq : j ≤ 64 := by omega
      have none : 42 ≤ k → ∃ H2, Rel (j + 1) H2 ∧ ∀ K, tA (L, xs) iL_law 32 [vR (some 1000000000), vR (some 0), vR (some 45), vI (nI (5 * j))] [vI (nI k)] H K = tA (L, xs) iL_law 1546 [vR (some 1000000000), vR (some 0), vR (some 45), vI (nI (5 * j))] [] H2 K := by
        intro h42
        refine ⟨H, ?_, fun K => ?_⟩
        · obtain ⟨D, F, E, M, U, x, G, Y, f, g, y, b, c, cf, cg, tf, tg, rfl, R⟩ := R
          exact ⟨D, F, E, M, U, x, G, Y, f, g, y, b, c, cf, cg, tf, tg, rfl, rS_up R.1, R.2⟩
        · rw [rL_law_32, sw_L_law_d (Or.inr (nI_le h42 (by omega)))]
      by_cases h42 : 42 ≤ k
      · exact none h42
      · clear none
        rcases (show k = 0 ∨ k = 1 ∨ k = 2 ∨ k = 3 ∨ k = 4 ∨ k = 5 ∨ k = 6 ∨ k = 7 ∨ k = 8 ∨ k = 9 ∨ k = 10 ∨ k = 11 ∨ k = 12 ∨ k = 13 ∨ k = 14 ∨ k = 15 ∨ k = 16 ∨ k = 17 ∨ k = 18 ∨ k = 19 ∨ k = 20 ∨ k = 21 ∨ k = 22 ∨ k = 23 ∨ k = 24 ∨ k = 25 ∨ k = 26 ∨ k = 27 ∨ k = 28 ∨ k = 29 ∨ k = 30 ∨ k = 31 ∨ k = 32 ∨ k = 33 ∨ k = 34 ∨ k = 35 ∨ k = 36 ∨ k = 37 ∨ k = 38 ∨ k = 39 ∨ k = 40 ∨ k = 41 by omega) with rfl | rfl | rfl | rfl | rfl | rfl | rfl | rfl | rfl | rfl | rfl | rfl | rfl | rfl | rfl | rfl | rfl | rfl | rfl | rfl | rfl | rfl | rfl | rfl | rfl | rfl | rfl | rfl | rfl | rfl | rfl | rfl | rfl | rfl | rfl | rfl | rfl | rfl | rfl | rfl | rfl | rfl
        · obtain ⟨H2, R2, hB⟩ := lw_feed (xs := xs) hL hi hq R
          exact ⟨H2, R2, fun K => by rw [rL_law_32, sw_L_law_0]; exact hB K⟩
        · obtain ⟨H2, R2, hB⟩ := lw_clerk (xs := xs) hL hi hq R
          exact ⟨H2, R2, fun K => by rw [rL_law_32, sw_L_law_1]; exact hB K⟩
        · obtain ⟨H2, R2, hB⟩ := lw_worth (xs := xs) hL hi hq R
          exact ⟨H2, R2, fun K => by rw [rL_law_32, sw_L_law_2]; exact hB K⟩
        · obtain ⟨H2, R2, hB⟩ := lw_weigh (xs := xs) hL hi hq R
          exact ⟨H2, R2, fun K => by rw [rL_law_32, sw_L_law_3]; exact hB K⟩
        · obtain ⟨H2, R2, hB⟩ := lw_sign (xs := xs) hL hi hq R
          exact ⟨H2, R2, fun K => by rw [rL_law_32, sw_L_law_4]; exact hB K⟩
        · obtain ⟨H2, R2, hB⟩ := lw_dayOf (xs := xs) hL hi hq R
          exact ⟨H2, R2, fun K => by rw [rL_law_32, sw_L_law_5]; exact hB K⟩
        · obtain ⟨H2, R2, hB⟩ := lw_set (xs := xs) hL hi hq R
          exact ⟨H2, R2, fun K => by rw [rL_law_32, sw_L_law_6]; exact hB K⟩
        · obtain ⟨H2, R2, hB⟩ := lw_sayer (xs := xs) hL hi hq R
          exact ⟨H2, R2, fun K => by rw [rL_law_32, sw_L_law_7]; exact hB K⟩
        · obtain ⟨H2, R2, hB⟩ := lw_sayerOf (xs := xs) hL hi hq R
          exact ⟨H2, R2, fun K => by rw [rL_law_32, sw_L_law_8]; exact hB K⟩
        · obtain ⟨H2, R2, hB⟩ := lw_mind (xs := xs) hL hi hq R
          exact ⟨H2, R2, fun K => by rw [rL_law_32, sw_L_law_9]; exact hB K⟩
        · obtain ⟨H2, R2, hB⟩ := lw_purse (xs := xs) hL hi hq R
          exact ⟨H2, R2, fun K => by rw [rL_law_32, sw_L_law_10]; exact hB K⟩
        · obtain ⟨H2, R2, hB⟩ := lw_say (xs := xs) hL hi hq R
          exact ⟨H2, R2, fun K => by rw [rL_law_32, sw_L_law_11]; exact hB K⟩
        · obtain ⟨H2, R2, hB⟩ := lw_sayingOf (xs := xs) hL hi hq R
          exact ⟨H2, R2, fun K => by rw [rL_law_32, sw_L_law_12]; exact hB K⟩
        · obtain ⟨H2, R2, hB⟩ := lw_would (xs := xs) hL hi hq R
          exact ⟨H2, R2, fun K => by rw [rL_law_32, sw_L_law_13]; exact hB K⟩
        · obtain ⟨H2, R2, hB⟩ := lw_morning (xs := xs) hL hi hq R
          exact ⟨H2, R2, fun K => by rw [rL_law_32, sw_L_law_14]; exact hB K⟩
        · obtain ⟨H2, R2, hB⟩ := lw_now (xs := xs) hL hi hq R
          exact ⟨H2, R2, fun K => by rw [rL_law_32, sw_L_law_15]; exact hB K⟩
        · obtain ⟨H2, R2, hB⟩ := lw_owner (xs := xs) hL hi hq R
          exact ⟨H2, R2, fun K => by rw [rL_law_32, sw_L_law_16]; exact hB K⟩
        · obtain ⟨H2, R2, hB⟩ := lw_odds (xs := xs) hL hi hq R
          exact ⟨H2, R2, fun K => by rw [rL_law_32, sw_L_law_17]; exact hB K⟩
        · obtain ⟨H2, R2, hB⟩ := lw_gain (xs := xs) hL hi hq R
          exact ⟨H2, R2, fun K => by rw [rL_law_32, sw_L_law_18]; exact hB K⟩
        · obtain ⟨H2, R2, hB⟩ := lw_waited (xs := xs) hL hi hq R
          exact ⟨H2, R2, fun K => by rw [rL_law_32, sw_L_law_19]; exact hB K⟩
        · obtain ⟨H2, R2, hB⟩ := lw_best (xs := xs) hL hi hq R
          exact ⟨H2, R2, fun K => by rw [rL_law_32, sw_L_law_20]; exact hB K⟩
        · obtain ⟨H2, R2, hB⟩ := lw_whole (xs := xs) hL hi hq R
          exact ⟨H2, R2, fun K => by rw [rL_law_32, sw_L_law_21]; exact hB K⟩
        · obtain ⟨H2, R2, hB⟩ := lw_owed (xs := xs) hL hi hq R
          exact ⟨H2, R2, fun K => by rw [rL_law_32, sw_L_law_22]; exact hB K⟩
        · obtain ⟨H2, R2, hB⟩ := lw_believed (xs := xs) hL hi hq R
          exact ⟨H2, R2, fun K => by rw [rL_law_32, sw_L_law_23]; exact hB K⟩
        · obtain ⟨H2, R2, hB⟩ := lw_whom (xs := xs) hL hi hq R
          exact ⟨H2, R2, fun K => by rw [rL_law_32, sw_L_law_24]; exact hB K⟩
        · obtain ⟨H2, R2, hB⟩ := lw_open (xs := xs) hL hi hq R
          exact ⟨H2, R2, fun K => by rw [rL_law_32, sw_L_law_25]; exact hB K⟩
        · obtain ⟨H2, R2, hB⟩ := lw_seed (xs := xs) hL hi hq R
          exact ⟨H2, R2, fun K => by rw [rL_law_32, sw_L_law_26]; exact hB K⟩
        · obtain ⟨H2, R2, hB⟩ := lw_prove (xs := xs) hL hi hq R
          exact ⟨H2, R2, fun K => by rw [rL_law_32, sw_L_law_27]; exact hB K⟩
        · obtain ⟨H2, R2, hB⟩ := lw_row (xs := xs) hL hi hq R
          exact ⟨H2, R2, fun K => by rw [rL_law_32, sw_L_law_28]; exact hB K⟩
        · obtain ⟨H2, R2, hB⟩ := lw_alterRow (xs := xs) hL hi hq R
          exact ⟨H2, R2, fun K => by rw [rL_law_32, sw_L_law_29]; exact hB K⟩
        · obtain ⟨H2, R2, hB⟩ := lw_judge (xs := xs) hL hi hq R
          exact ⟨H2, R2, fun K => by rw [rL_law_32, sw_L_law_30]; exact hB K⟩
        · obtain ⟨H2, R2, hB⟩ := lw_worths (xs := xs) hL hi hq R
          exact ⟨H2, R2, fun K => by rw [rL_law_32, sw_L_law_31]; exact hB K⟩
        · obtain ⟨H2, R2, hB⟩ := lw_sheet (xs := xs) hL hi hq R
          exact ⟨H2, R2, fun K => by rw [rL_law_32, sw_L_law_32]; exact hB K⟩
        · obtain ⟨H2, R2, hB⟩ := lw_put (xs := xs) hL hi hq R
          exact ⟨H2, R2, fun K => by rw [rL_law_32, sw_L_law_33]; exact hB K⟩
        · obtain ⟨H2, R2, hB⟩ := lw_item (xs := xs) hL hi hq R
          exact ⟨H2, R2, fun K => by rw [rL_law_32, sw_L_law_34]; exact hB K⟩
        · obtain ⟨H2, R2, hB⟩ := lw_shelf (xs := xs) hL hi hq R
          exact ⟨H2, R2, fun K => by rw [rL_law_32, sw_L_law_35]; exact hB K⟩
        · obtain ⟨H2, R2, hB⟩ := lw_taken (xs := xs) hL hi hq R
          exact ⟨H2, R2, fun K => by rw [rL_law_32, sw_L_law_36]; exact hB K⟩
        · obtain ⟨H2, R2, hB⟩ := lw_act (xs := xs) hL hi hq R
          exact ⟨H2, R2, fun K => by rw [rL_law_32, sw_L_law_37]; exact hB K⟩
        · obtain ⟨H2, R2, hB⟩ := lw_trace (xs := xs) hL hi hq R
          exact ⟨H2, R2, fun K => by rw [rL_law_32, sw_L_law_38]; exact hB K⟩
        · obtain ⟨H2, R2, hB⟩ := lw_many (xs := xs) hL hi hq R
          exact ⟨H2, R2, fun K => by rw [rL_law_32, sw_L_law_39]; exact hB K⟩
        · obtain ⟨H2, R2, hB⟩ := lw_keep (xs := xs) hL hi hq R
          exact ⟨H2, R2, fun K => by rw [rL_law_32, sw_L_law_40]; exact hB K⟩
        · obtain ⟨H2, R2, hB⟩ := lw_again (xs := xs) hL hi hq R
          exact ⟨H2, R2, fun K => by rw [rL_law_32, sw_L_law_41]; exact hB K⟩
    obtain ⟨H2, R2, hB⟩ := body
    obtain ⟨H', c1, c2, hL'⟩ := law_loop hL n (j + 1) H2 (by omega) (by omega) R2
    refine ⟨H', c1, c2, fun K => ?_⟩
    rw [st K, hB K, rL_law_1546, rL_law_1549, e5]
    exact hL' K
end S98x
