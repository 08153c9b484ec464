/-! the law: each of its cases -/
section LC
set_option maxHeartbeats 1000000
theorem LC_uplands : LC 208 := by
  intro d L xs i h Q hi hL I K
  obtain ⟨I0, S, m, g, hh, sn, nn, mn, un0, n, c⟩ := I
  have F := CL_f c
  have ho := CL_o c
  have i1 := I0.1
  simp (disch := first | assumption | omega) only [t221_208, t221_209, t221_210, t221_211, t221_212, t221_213, t221_214, i1, aL_3n, nl_add]
  refine X_uplands c (fun h2 c2 f2 => ?_)
  have m2 := MA_frC m f2
  have J0 := Iv_frC I0 f2
  have ho := MA_o m2
  have i2 := J0.1
  simp (disch := first | assumption | omega) only [t221_217, t221_218, t221_219, t221_220, t221_221, t221_222, t221_223, i2, aL_3n, nl_add, rl_s]
  refine M_uplands m2 (fun h3 m3 f3 => ?_)
  simp only [t221_226, rl_s, if_true]
  exact K h3 (Iv_mk J0 c2 m3 f3)
theorem LC_guest : LC 231 := by
  intro d L xs i h Q hi hL I K
  obtain ⟨I0, S, m, g, hh, sn, nn, mn, un0, n, c⟩ := I
  have F := CL_f c
  have ho := CL_o c
  have i1 := I0.1
  simp (disch := first | assumption | omega) only [t221_231, t221_232, t221_233, t221_234, t221_235, t221_236, t221_237, t221_238, t221_239, t221_240, t221_241, t221_242, i1, aL_3n, nl_add]
  refine X_guest c (fun h2 c2 f2 => ?_)
  have m2 := MA_frC m f2
  have J0 := Iv_frC I0 f2
  have ho := MA_o m2
  have i2 := J0.1
  simp (disch := first | assumption | omega) only [t221_245, t221_246, t221_247, t221_248, t221_249, t221_250, t221_251, t221_252, t221_253, t221_254, t221_255, t221_256, i2, aL_3n, nl_add, rl_s]
  refine M_guest m2 F.1.1 F.1.2 (fun h3 m3 f3 => ?_)
  simp only [t221_259, rl_s, if_true]
  exact K h3 (Iv_mk J0 c2 m3 f3)
theorem LC_house : LC 264 := by
  intro d L xs i h Q hi hL I K
  obtain ⟨I0, S, m, g, hh, sn, nn, mn, un0, n, c⟩ := I
  have F := CL_f c
  have ho := CL_o c
  have i1 := I0.1
  simp (disch := first | assumption | omega) only [t221_264, t221_265, t221_266, t221_267, t221_268, t221_269, t221_270, t221_271, t221_272, t221_273, t221_274, t221_275, i1, aL_3n, nl_add]
  refine X_house c (fun h2 c2 f2 => ?_)
  have m2 := MA_frC m f2
  have J0 := Iv_frC I0 f2
  have ho := MA_o m2
  have i2 := J0.1
  simp (disch := first | assumption | omega) only [t221_278, t221_279, t221_280, t221_281, t221_282, t221_283, t221_284, t221_285, t221_286, t221_287, t221_288, t221_289, i2, aL_3n, nl_add, rl_s]
  refine M_house m2 F.2.1.1 F.2.1.2 (fun h3 m3 f3 => ?_)
  simp only [t221_292, rl_s, if_true]
  exact K h3 (Iv_mk J0 c2 m3 f3)
theorem LC_type : LC 297 := by
  intro d L xs i h Q hi hL I K
  obtain ⟨I0, S, m, g, hh, sn, nn, mn, un0, n, c⟩ := I
  have F := CL_f c
  have ho := CL_o c
  have i1 := I0.1
  simp (disch := first | assumption | omega) only [t221_297, t221_298, t221_299, t221_300, t221_301, t221_302, t221_303, i1, aL_3n, nl_add]
  refine X_type c (fun h2 c2 f2 => ?_)
  have m2 := MA_frC m f2
  have J0 := Iv_frC I0 f2
  have ho := MA_o m2
  have i2 := J0.1
  simp (disch := first | assumption | omega) only [t221_306, t221_307, t221_308, t221_309, t221_310, t221_311, t221_312, i2, aL_3n, nl_add, rl_s]
  refine M_type m2 F.2.2.2.2.2.2.1.1 F.2.2.2.2.2.2.1.2 (fun h3 m3 f3 => ?_)
  simp only [t221_315, rl_s, if_true]
  exact K h3 (Iv_mk J0 c2 m3 f3)
theorem LC_clear : LC 320 := by
  intro d L xs i h Q hi hL I K
  obtain ⟨I0, S, m, g, hh, sn, nn, mn, un0, n, c⟩ := I
  have F := CL_f c
  have ho := CL_o c
  have i1 := I0.1
  simp (disch := first | assumption | omega) only [t221_320, t221_321, i1, aL_3n, nl_add]
  refine X_clear c (fun h2 c2 f2 => ?_)
  have m2 := MA_frC m f2
  have J0 := Iv_frC I0 f2
  have ho := MA_o m2
  have i2 := J0.1
  simp (disch := first | assumption | omega) only [t221_324, t221_325, i2, aL_3n, nl_add, rl_s]
  refine M_clear m2 (fun h3 m3 f3 => ?_)
  simp only [t221_328, rl_s, if_true]
  exact K h3 (Iv_mk J0 c2 m3 f3)
theorem LC_calls : LC 346 := by
  intro d L xs i h Q hi hL I K
  obtain ⟨I0, S, m, g, hh, sn, nn, mn, un0, n, c⟩ := I
  have F := CL_f c
  have ho := CL_o c
  have i1 := I0.1
  simp (disch := first | assumption | omega) only [t221_346, t221_347, t221_348, t221_349, t221_350, t221_351, t221_352, t221_353, t221_354, t221_355, t221_356, t221_357, i1, aL_3n, nl_add]
  refine X_calls c (fun h2 c2 f2 => ?_)
  have m2 := MA_frC m f2
  have J0 := Iv_frC I0 f2
  have ho := MA_o m2
  have i2 := J0.1
  simp (disch := first | assumption | omega) only [t221_360, t221_361, t221_362, t221_363, t221_364, t221_365, t221_366, t221_367, t221_368, t221_369, t221_370, t221_371, i2, aL_3n, nl_add, rl_s]
  refine M_calls m2 F.1.1 F.1.2 F.2.1.1 F.2.1.2 F.2.2.2.2.2.1.1 F.2.2.2.2.2.1.2 (fun h3 m3 f3 => ?_)
  simp only [t221_374, rl_s, if_true]
  exact K h3 (Iv_mk J0 c2 m3 f3)
theorem LC_leaves : LC 379 := by
  intro d L xs i h Q hi hL I K
  obtain ⟨I0, S, m, g, hh, sn, nn, mn, un0, n, c⟩ := I
  have F := CL_f c
  have ho := CL_o c
  have i1 := I0.1
  simp (disch := first | assumption | omega) only [t221_379, t221_380, t221_381, t221_382, t221_383, t221_384, t221_385, i1, aL_3n, nl_add]
  refine X_leaves c (fun h2 c2 f2 => ?_)
  have m2 := MA_frC m f2
  have J0 := Iv_frC I0 f2
  have ho := MA_o m2
  have i2 := J0.1
  simp (disch := first | assumption | omega) only [t221_388, t221_389, t221_390, t221_391, t221_392, t221_393, t221_394, i2, aL_3n, nl_add, rl_s]
  refine M_leaves m2 F.1.1 F.1.2 F.2.2.2.2.2.1.1 F.2.2.2.2.2.1.2 (fun h3 m3 f3 => ?_)
  simp only [t221_397, rl_s, if_true]
  exact K h3 (Iv_mk J0 c2 m3 f3)
theorem LC_wets : LC 402 := by
  intro d L xs i h Q hi hL I K
  obtain ⟨I0, S, m, g, hh, sn, nn, mn, un0, n, c⟩ := I
  have F := CL_f c
  have ho := CL_o c
  have i1 := I0.1
  simp (disch := first | assumption | omega) only [t221_402, t221_403, t221_404, t221_405, t221_406, t221_407, t221_408, i1, aL_3n, nl_add]
  refine X_wets c (fun h2 c2 f2 => ?_)
  have m2 := MA_frC m f2
  have J0 := Iv_frC I0 f2
  have ho := MA_o m2
  have i2 := J0.1
  simp (disch := first | assumption | omega) only [t221_411, t221_412, t221_413, t221_414, t221_415, t221_416, t221_417, i2, aL_3n, nl_add, rl_s]
  refine M_wets m2 F.2.2.2.2.2.1.1 F.2.2.2.2.2.1.2 (fun h3 m3 f3 => ?_)
  simp only [t221_420, rl_s, if_true]
  exact K h3 (Iv_mk J0 c2 m3 f3)
theorem LC_evenings : LC 425 := by
  intro d L xs i h Q hi hL I K
  obtain ⟨I0, S, m, g, hh, sn, nn, mn, un0, n, c⟩ := I
  have F := CL_f c
  have ho := CL_o c
  have i1 := I0.1
  simp (disch := first | assumption | omega) only [t221_425, t221_426, t221_427, t221_428, t221_429, t221_430, t221_431, i1, aL_3n, nl_add]
  refine X_evenings c (fun h2 c2 f2 => ?_)
  have m2 := MA_frC m f2
  have J0 := Iv_frC I0 f2
  have ho := MA_o m2
  have i2 := J0.1
  simp (disch := first | assumption | omega) only [t221_434, t221_435, t221_436, t221_437, t221_438, t221_439, t221_440, i2, aL_3n, nl_add, rl_s]
  refine M_evenings m2 F.1.1 F.1.2 F.2.1.1 F.2.1.2 F.2.2.2.2.2.1.1 F.2.2.2.2.2.1.2 (fun h3 m3 f3 => ?_)
  simp only [t221_443, rl_s, if_true]
  exact K h3 (Iv_mk J0 c2 m3 f3)
theorem LC_undo : LC 448 := by
  intro d L xs i h Q hi hL I K
  obtain ⟨I0, S, m, g, hh, sn, nn, mn, un0, n, c⟩ := I
  have F := CL_f c
  have ho := CL_o c
  have i1 := I0.1
  simp (disch := first | assumption | omega) only [t221_448, t221_449, i1, aL_3n, nl_add]
  refine X_undo c (fun h2 c2 f2 => ?_)
  have m2 := MA_frC m f2
  have J0 := Iv_frC I0 f2
  have ho := MA_o m2
  have i2 := J0.1
  simp (disch := first | assumption | omega) only [t221_452, t221_453, i2, aL_3n, nl_add, rl_s]
  refine M_undo m2 F.2.2.2.2.2.1.1 F.2.2.2.2.2.1.2 (fun h3 m3 f3 => ?_)
  simp only [t221_456, rl_s, if_true]
  exact K h3 (Iv_mk J0 c2 m3 f3)
theorem LC_of : LC 461 := by
  intro d L xs i h Q hi hL I K
  obtain ⟨I0, S, m, g, hh, sn, nn, mn, un0, n, c⟩ := I
  have F := CL_f c
  have ho := CL_o c
  have i1 := I0.1
  simp (disch := first | assumption | omega) only [t221_461, t221_462, t221_463, t221_464, t221_465, t221_466, t221_467, t221_468, t221_469, t221_470, t221_471, t221_472, i1, aL_3n, nl_add]
  refine X_of c (fun h2 c2 f2 => ?_)
  have m2 := MA_frC m f2
  have J0 := Iv_frC I0 f2
  have ho := MA_o m2
  have i2 := J0.1
  simp (disch := first | assumption | omega) only [t221_475, t221_476, t221_477, t221_478, t221_479, t221_480, t221_481, t221_482, t221_483, t221_484, t221_485, t221_486, i2, aL_3n, nl_add, rl_s]
  refine M_of m2 F.1.1 F.1.2 F.2.2.2.2.2.2.2.2 (fun h3 m3 f3 => ?_)
  simp only [t221_489, rl_s, if_true]
  exact K h3 (Iv_mk J0 c2 m3 f3)
theorem LC_about : LC 494 := by
  intro d L xs i h Q hi hL I K
  obtain ⟨I0, S, m, g, hh, sn, nn, mn, un0, n, c⟩ := I
  have F := CL_f c
  have ho := CL_o c
  have i1 := I0.1
  simp (disch := first | assumption | omega) only [t221_494, t221_495, t221_496, t221_497, t221_498, t221_499, t221_500, t221_501, t221_502, t221_503, t221_504, t221_505, i1, aL_3n, nl_add]
  refine X_about c (fun h2 c2 f2 => ?_)
  have m2 := MA_frC m f2
  have J0 := Iv_frC I0 f2
  have ho := MA_o m2
  have i2 := J0.1
  simp (disch := first | assumption | omega) only [t221_508, t221_509, t221_510, t221_511, t221_512, t221_513, t221_514, t221_515, t221_516, t221_517, t221_518, t221_519, i2, aL_3n, nl_add, rl_s]
  refine M_about m2 F.1.1 F.1.2 F.2.1.1 F.2.1.2 (fun h3 m3 f3 => ?_)
  simp only [t221_522, rl_s, if_true]
  exact K h3 (Iv_mk J0 c2 m3 f3)
theorem LC_great : LC 527 := by
  intro d L xs i h Q hi hL I K
  obtain ⟨I0, S, m, g, hh, sn, nn, mn, un0, n, c⟩ := I
  have F := CL_f c
  have ho := CL_o c
  have i1 := I0.1
  simp (disch := first | assumption | omega) only [t221_527, t221_528, t221_529, t221_530, t221_531, t221_532, t221_533, t221_534, t221_535, t221_536, t221_537, t221_538, i1, aL_3n, nl_add]
  refine X_great c (fun h2 c2 f2 => ?_)
  have m2 := MA_frC m f2
  have J0 := Iv_frC I0 f2
  have ho := MA_o m2
  have i2 := J0.1
  simp (disch := first | assumption | omega) only [t221_541, t221_542, t221_543, t221_544, t221_545, t221_546, t221_547, t221_548, t221_549, t221_550, t221_551, t221_552, i2, aL_3n, nl_add, rl_s]
  refine M_great m2 F.1.1 F.1.2 (fun h3 m3 f3 => ?_)
  simp only [t221_555, rl_s, if_true]
  exact K h3 (Iv_mk J0 c2 m3 f3)
theorem LC_stays : LC 560 := by
  intro d L xs i h Q hi hL I K
  obtain ⟨I0, S, m, g, hh, sn, nn, mn, un0, n, c⟩ := I
  have F := CL_f c
  have ho := CL_o c
  have i1 := I0.1
  simp (disch := first | assumption | omega) only [t221_560, t221_561, t221_562, t221_563, t221_564, t221_565, t221_566, t221_567, t221_568, t221_569, t221_570, t221_571, i1, aL_3n, nl_add]
  refine X_stays c (fun h2 c2 f2 => ?_)
  have m2 := MA_frC m f2
  have J0 := Iv_frC I0 f2
  have ho := MA_o m2
  have i2 := J0.1
  simp (disch := first | assumption | omega) only [t221_574, t221_575, t221_576, t221_577, t221_578, t221_579, t221_580, t221_581, t221_582, t221_583, t221_584, t221_585, i2, aL_3n, nl_add, rl_s]
  refine M_stays m2 F.1.1 F.1.2 F.2.1.1 F.2.1.2 (fun h3 m3 f3 => ?_)
  simp only [t221_588, rl_s, if_true]
  exact K h3 (Iv_mk J0 c2 m3 f3)
theorem LC_then : LC 593 := by
  intro d L xs i h Q hi hL I K
  obtain ⟨I0, S, m, g, hh, sn, nn, mn, un0, n, c⟩ := I
  have F := CL_f c
  have ho := CL_o c
  have i1 := I0.1
  simp (disch := first | assumption | omega) only [t221_593, t221_594, t221_595, t221_596, t221_597, t221_598, t221_599, t221_600, t221_601, t221_602, t221_603, t221_604, i1, aL_3n, nl_add]
  refine X_then c (fun h2 c2 f2 => ?_)
  have m2 := MA_frC m f2
  have J0 := Iv_frC I0 f2
  have ho := MA_o m2
  have i2 := J0.1
  simp (disch := first | assumption | omega) only [t221_607, t221_608, t221_609, t221_610, t221_611, t221_612, t221_613, t221_614, t221_615, t221_616, t221_617, t221_618, i2, aL_3n, nl_add, rl_s]
  refine M_then m2 F.1.1 F.1.2 F.2.1.1 F.2.1.2 (fun h3 m3 f3 => ?_)
  simp only [t221_621, rl_s, if_true]
  exact K h3 (Iv_mk J0 c2 m3 f3)
theorem LC_when : LC 626 := by
  intro d L xs i h Q hi hL I K
  obtain ⟨I0, S, m, g, hh, sn, nn, mn, un0, n, c⟩ := I
  have F := CL_f c
  have ho := CL_o c
  have i1 := I0.1
  simp (disch := first | assumption | omega) only [t221_626, t221_627, t221_628, t221_629, t221_630, t221_631, t221_632, t221_633, t221_634, t221_635, t221_636, t221_637, i1, aL_3n, nl_add]
  refine X_when c (fun h2 c2 f2 => ?_)
  have m2 := MA_frC m f2
  have J0 := Iv_frC I0 f2
  have ho := MA_o m2
  have i2 := J0.1
  simp (disch := first | assumption | omega) only [t221_640, t221_641, t221_642, t221_643, t221_644, t221_645, t221_646, t221_647, t221_648, t221_649, t221_650, t221_651, i2, aL_3n, nl_add, rl_s]
  refine M_when m2 F.1.1 F.1.2 F.2.1.1 F.2.1.2 (fun h3 m3 f3 => ?_)
  simp only [t221_654, rl_s, if_true]
  exact K h3 (Iv_mk J0 c2 m3 f3)
theorem LC_most : LC 659 := by
  intro d L xs i h Q hi hL I K
  obtain ⟨I0, S, m, g, hh, sn, nn, mn, un0, n, c⟩ := I
  have F := CL_f c
  have ho := CL_o c
  have i1 := I0.1
  simp (disch := first | assumption | omega) only [t221_659, t221_660, t221_661, t221_662, t221_663, t221_664, t221_665, t221_666, t221_667, t221_668, t221_669, t221_670, i1, aL_3n, nl_add]
  refine X_most c (fun h2 c2 f2 => ?_)
  have m2 := MA_frC m f2
  have J0 := Iv_frC I0 f2
  have ho := MA_o m2
  have i2 := J0.1
  simp (disch := first | assumption | omega) only [t221_673, t221_674, t221_675, t221_676, t221_677, t221_678, t221_679, t221_680, t221_681, t221_682, t221_683, t221_684, i2, aL_3n, nl_add, rl_s]
  refine M_most m2 F.1.1 F.1.2 F.2.1.1 F.2.1.2 (fun h3 m3 f3 => ?_)
  simp only [t221_687, rl_s, if_true]
  exact K h3 (Iv_mk J0 c2 m3 f3)
theorem LC_round : LC 692 := by
  intro d L xs i h Q hi hL I K
  obtain ⟨I0, S, m, g, hh, sn, nn, mn, un0, n, c⟩ := I
  have F := CL_f c
  have ho := CL_o c
  have i1 := I0.1
  simp (disch := first | assumption | omega) only [t221_692, t221_693, t221_694, t221_695, t221_696, t221_697, t221_698, i1, aL_3n, nl_add]
  refine X_round c (fun h2 c2 f2 => ?_)
  have m2 := MA_frC m f2
  have J0 := Iv_frC I0 f2
  have ho := MA_o m2
  have i2 := J0.1
  simp (disch := first | assumption | omega) only [t221_701, t221_702, t221_703, t221_704, t221_705, t221_706, t221_707, i2, aL_3n, nl_add, rl_s]
  refine M_round m2 F.1.1 F.1.2 F.2.1.1 F.2.1.2 (fun h3 m3 f3 => ?_)
  simp only [t221_710, rl_s, if_true]
  exact K h3 (Iv_mk J0 c2 m3 f3)
theorem LC_mesh : LC 715 := by
  intro d L xs i h Q hi hL I K
  obtain ⟨I0, S, m, g, hh, sn, nn, mn, un0, n, c⟩ := I
  have F := CL_f c
  have ho := CL_o c
  have i1 := I0.1
  simp (disch := first | assumption | omega) only [t221_715, t221_716, t221_717, t221_718, t221_719, t221_720, t221_721, t221_722, t221_723, t221_724, t221_725, t221_726, t221_727, t221_728, t221_729, t221_730, t221_731, i1, aL_3n, nl_add]
  refine X_mesh c (fun h2 c2 f2 => ?_)
  have m2 := MA_frC m f2
  have J0 := Iv_frC I0 f2
  have ho := MA_o m2
  have i2 := J0.1
  simp (disch := first | assumption | omega) only [t221_734, t221_735, t221_736, t221_737, t221_738, t221_739, t221_740, t221_741, t221_742, t221_743, t221_744, t221_745, t221_746, t221_747, t221_748, t221_749, t221_750, i2, aL_3n, nl_add, rl_s]
  refine M_mesh m2 F.1.1 F.1.2 F.2.1.1 F.2.1.2 (fun h3 m3 f3 => ?_)
  simp only [t221_753, rl_s, if_true]
  exact K h3 (Iv_mk J0 c2 m3 f3)
theorem LC_seen : LC 781 := by
  intro d L xs i h Q hi hL I K
  obtain ⟨I0, S, m, g, hh, sn, nn, mn, un0, n, c⟩ := I
  have F := CL_f c
  have ho := CL_o c
  have i1 := I0.1
  simp (disch := first | assumption | omega) only [t221_781, t221_782, t221_783, t221_784, t221_785, t221_786, t221_787, t221_788, t221_789, t221_790, t221_791, t221_792, t221_793, t221_794, t221_795, t221_796, t221_797, t221_798, t221_799, t221_800, t221_801, t221_802, i1, aL_3n, nl_add]
  refine X_seen c (fun h2 c2 f2 => ?_)
  have m2 := MA_frC m f2
  have J0 := Iv_frC I0 f2
  have ho := MA_o m2
  have i2 := J0.1
  simp (disch := first | assumption | omega) only [t221_805, t221_806, t221_807, t221_808, t221_809, t221_810, t221_811, t221_812, t221_813, t221_814, t221_815, t221_816, t221_817, t221_818, t221_819, t221_820, t221_821, t221_822, t221_823, t221_824, t221_825, t221_826, i2, aL_3n, nl_add, rl_s]
  refine M_seen m2 F.1.1 F.1.2 F.2.1.1 F.2.1.2 F.2.2.1.1 F.2.2.1.2 (fun h3 m3 f3 => ?_)
  simp only [t221_829, rl_s, if_true]
  exact K h3 (Iv_mk J0 c2 m3 f3)
theorem LC_sizes : LC 834 := by
  intro d L xs i h Q hi hL I K
  obtain ⟨I0, S, m, g, hh, sn, nn, mn, un0, n, c⟩ := I
  have F := CL_f c
  have ho := CL_o c
  have i1 := I0.1
  simp (disch := first | assumption | omega) only [t221_834, t221_835, t221_836, t221_837, t221_838, t221_839, t221_840, t221_841, t221_842, t221_843, t221_844, t221_845, i1, aL_3n, nl_add]
  refine X_sizes c (fun h2 c2 f2 => ?_)
  have m2 := MA_frC m f2
  have J0 := Iv_frC I0 f2
  have ho := MA_o m2
  have i2 := J0.1
  simp (disch := first | assumption | omega) only [t221_848, t221_849, t221_850, t221_851, t221_852, t221_853, t221_854, t221_855, t221_856, t221_857, t221_858, t221_859, i2, aL_3n, nl_add, rl_s]
  refine M_sizes m2 F.1.1 F.1.2 F.2.1.2 F.2.2.1.1 F.2.2.1.2 F.2.2.2.2.2.2.2.1 (fun h3 m3 f3 => ?_)
  simp only [t221_862, rl_s, if_true]
  exact K h3 (Iv_mk J0 c2 m3 f3)
theorem LC_tell : LC 867 := by
  intro d L xs i h Q hi hL I K
  obtain ⟨I0, S, m, g, hh, sn, nn, mn, un0, n, c⟩ := I
  have F := CL_f c
  have ho := CL_o c
  have i1 := I0.1
  simp (disch := first | assumption | omega) only [t221_867, t221_868, t221_869, t221_870, t221_871, t221_872, t221_873, i1, aL_3n, nl_add]
  refine X_tell c (fun h2 c2 f2 => ?_)
  have m2 := MA_frC m f2
  have J0 := Iv_frC I0 f2
  have ho := MA_o m2
  have i2 := J0.1
  simp (disch := first | assumption | omega) only [t221_876, t221_877, t221_878, t221_879, t221_880, t221_881, t221_882, i2, aL_3n, nl_add, rl_s]
  refine M_tell m2 F.1.1 F.1.2 F.2.1.1 F.2.1.2 F.2.2.1.1 F.2.2.1.2 F.2.2.2.2.2.2.2.1 (fun h3 m3 f3 => ?_)
  simp only [t221_885, rl_s, if_true]
  exact K h3 (Iv_mk J0 c2 m3 f3)
theorem LC_note : LC 890 := by
  intro d L xs i h Q hi hL I K
  obtain ⟨I0, S, m, g, hh, sn, nn, mn, un0, n, c⟩ := I
  have F := CL_f c
  have ho := CL_o c
  have i1 := I0.1
  simp (disch := first | assumption | omega) only [t221_890, t221_891, t221_892, t221_893, t221_894, t221_895, t221_896, t221_897, t221_898, t221_899, t221_900, t221_901, t221_902, t221_903, t221_904, t221_905, t221_906, t221_907, t221_908, t221_909, t221_910, t221_911, i1, aL_3n, nl_add]
  refine X_note c (fun h2 c2 f2 => ?_)
  have m2 := MA_frC m f2
  have J0 := Iv_frC I0 f2
  have ho := MA_o m2
  have i2 := J0.1
  simp (disch := first | assumption | omega) only [t221_914, t221_915, t221_916, t221_917, t221_918, t221_919, t221_920, t221_921, t221_922, t221_923, t221_924, t221_925, t221_926, t221_927, t221_928, t221_929, t221_930, t221_931, t221_932, t221_933, t221_934, t221_935, i2, aL_3n, nl_add, rl_s]
  refine M_note m2 F.1.1 F.1.2 F.2.2.2.1.1 F.2.2.2.1.2 (fun h3 m3 f3 => ?_)
  simp only [t221_938, rl_s, if_true]
  exact K h3 (Iv_mk J0 c2 m3 f3)
theorem LC_mark : LC 943 := by
  intro d L xs i h Q hi hL I K
  obtain ⟨I0, S, m, g, hh, sn, nn, mn, un0, n, c⟩ := I
  have F := CL_f c
  have ho := CL_o c
  have i1 := I0.1
  simp (disch := first | assumption | omega) only [t221_943, t221_944, t221_945, t221_946, t221_947, t221_948, t221_949, t221_950, t221_951, t221_952, t221_953, t221_954, t221_955, t221_956, t221_957, t221_958, t221_959, t221_960, t221_961, t221_962, t221_963, t221_964, t221_965, t221_966, t221_967, t221_968, t221_969, i1, aL_3n, nl_add]
  refine X_mark c (fun h2 c2 f2 => ?_)
  have m2 := MA_frC m f2
  have J0 := Iv_frC I0 f2
  have ho := MA_o m2
  have i2 := J0.1
  simp (disch := first | assumption | omega) only [t221_972, t221_973, t221_974, t221_975, t221_976, t221_977, t221_978, t221_979, t221_980, t221_981, t221_982, t221_983, t221_984, t221_985, t221_986, t221_987, t221_988, t221_989, t221_990, t221_991, t221_992, t221_993, t221_994, t221_995, t221_996, t221_997, t221_998, i2, aL_3n, nl_add, rl_s]
  refine M_mark m2 F.2.1.1 F.2.1.2 F.2.2.2.2.1.1 F.2.2.2.2.1.2 (fun h3 m3 f3 => ?_)
  simp only [t221_1001, rl_s, if_true]
  exact K h3 (Iv_mk J0 c2 m3 f3)
theorem LC_forget : LC 1006 := by
  intro d L xs i h Q hi hL I K
  obtain ⟨I0, S, m, g, hh, sn, nn, mn, un0, n, c⟩ := I
  have F := CL_f c
  have ho := CL_o c
  have i1 := I0.1
  simp (disch := first | assumption | omega) only [t221_1006, t221_1007, t221_1008, t221_1009, t221_1010, t221_1011, t221_1012, i1, aL_3n, nl_add]
  refine X_forget c (fun h2 c2 f2 => ?_)
  have m2 := MA_frC m f2
  have J0 := Iv_frC I0 f2
  have ho := MA_o m2
  have i2 := J0.1
  simp (disch := first | assumption | omega) only [t221_1015, t221_1016, t221_1017, t221_1018, t221_1019, t221_1020, t221_1021, i2, aL_3n, nl_add, rl_s]
  refine M_forget m2 (fun h3 m3 f3 => ?_)
  simp only [t221_1024, rl_s, if_true]
  exact K h3 (Iv_mk J0 c2 m3 f3)
theorem LC_is : LC 1029 := by
  intro d L xs i h Q hi hL I K
  obtain ⟨I0, S, m, g, hh, sn, nn, mn, un0, n, c⟩ := I
  have F := CL_f c
  have ho := CL_o c
  have i1 := I0.1
  simp (disch := first | assumption | omega) only [t221_1029, t221_1030, t221_1031, t221_1032, t221_1033, t221_1034, t221_1035, i1, aL_3n, nl_add]
  refine X_is c (fun h2 c2 f2 => ?_)
  have m2 := MA_frC m f2
  have J0 := Iv_frC I0 f2
  have ho := MA_o m2
  have i2 := J0.1
  simp (disch := first | assumption | omega) only [t221_1038, t221_1039, t221_1040, t221_1041, t221_1042, t221_1043, t221_1044, i2, aL_3n, nl_add, rl_s]
  refine M_is m2 F.1.1 F.1.2 F.2.2.2.1.1 F.2.2.2.1.2 (fun h3 m3 f3 => ?_)
  simp only [t221_1047, rl_s, if_true]
  exact K h3 (Iv_mk J0 c2 m3 f3)
theorem LC_look : LC 1052 := by
  intro d L xs i h Q hi hL I K
  obtain ⟨I0, S, m, g, hh, sn, nn, mn, un0, n, c⟩ := I
  have F := CL_f c
  have ho := CL_o c
  have i1 := I0.1
  simp (disch := first | assumption | omega) only [t221_1052, t221_1053, t221_1054, t221_1055, t221_1056, t221_1057, t221_1058, i1, aL_3n, nl_add]
  refine X_look c (fun h2 c2 f2 => ?_)
  have m2 := MA_frC m f2
  have J0 := Iv_frC I0 f2
  have ho := MA_o m2
  have i2 := J0.1
  simp (disch := first | assumption | omega) only [t221_1061, t221_1062, t221_1063, t221_1064, t221_1065, t221_1066, t221_1067, i2, aL_3n, nl_add, rl_s]
  refine M_look m2 F.1.1 F.1.2 F.2.2.2.1.1 F.2.2.2.1.2 (fun h3 m3 f3 => ?_)
  simp only [t221_1070, rl_s, if_true]
  exact K h3 (Iv_mk J0 c2 m3 f3)
theorem LC_kinds : LC 1075 := by
  intro d L xs i h Q hi hL I K
  obtain ⟨I0, S, m, g, hh, sn, nn, mn, un0, n, c⟩ := I
  have F := CL_f c
  have ho := CL_o c
  have i1 := I0.1
  simp (disch := first | assumption | omega) only [t221_1075, t221_1076, t221_1077, t221_1078, t221_1079, t221_1080, t221_1081, i1, aL_3n, nl_add]
  refine X_kinds c (fun h2 c2 f2 => ?_)
  have m2 := MA_frC m f2
  have J0 := Iv_frC I0 f2
  have ho := MA_o m2
  have i2 := J0.1
  simp (disch := first | assumption | omega) only [t221_1084, t221_1085, t221_1086, t221_1087, t221_1088, t221_1089, t221_1090, i2, aL_3n, nl_add, rl_s]
  refine M_kinds m2 F.2.1.1 F.2.1.2 F.2.2.2.2.1.1 F.2.2.2.2.1.2 (fun h3 m3 f3 => ?_)
  simp only [t221_1093, rl_s, if_true]
  exact K h3 (Iv_mk J0 c2 m3 f3)
theorem LC_ask : LC 1098 := by
  intro d L xs i h Q hi hL I K
  obtain ⟨I0, S, m, g, hh, sn, nn, mn, un0, n, c⟩ := I
  have F := CL_f c
  have ho := CL_o c
  have i1 := I0.1
  simp (disch := first | assumption | omega) only [t221_1098, t221_1099, t221_1100, t221_1101, t221_1102, t221_1103, t221_1104, i1, aL_3n, nl_add]
  refine X_ask c (fun h2 c2 f2 => ?_)
  have m2 := MA_frC m f2
  have J0 := Iv_frC I0 f2
  have ho := MA_o m2
  have i2 := J0.1
  simp (disch := first | assumption | omega) only [t221_1107, t221_1108, t221_1109, t221_1110, t221_1111, t221_1112, t221_1113, i2, aL_3n, nl_add, rl_s]
  refine M_ask m2 F.2.1.1 F.2.1.2 F.2.2.2.2.1.1 F.2.2.2.2.1.2 (fun h3 m3 f3 => ?_)
  simp only [t221_1116, rl_s, if_true]
  exact K h3 (Iv_mk J0 c2 m3 f3)
theorem LC_rivals : LC 1121 := by
  intro d L xs i h Q hi hL I K
  obtain ⟨I0, S, m, g, hh, sn, nn, mn, un0, n, c⟩ := I
  have F := CL_f c
  have ho := CL_o c
  have i1 := I0.1
  simp (disch := first | assumption | omega) only [t221_1121, t221_1122, t221_1123, t221_1124, t221_1125, t221_1126, t221_1127, t221_1128, t221_1129, t221_1130, t221_1131, t221_1132, t221_1133, t221_1134, t221_1135, t221_1136, t221_1137, t221_1138, t221_1139, t221_1140, t221_1141, t221_1142, i1, aL_3n, nl_add]
  refine X_rivals c (fun h2 c2 f2 => ?_)
  have m2 := MA_frC m f2
  have J0 := Iv_frC I0 f2
  have ho := MA_o m2
  have i2 := J0.1
  simp (disch := first | assumption | omega) only [t221_1145, t221_1146, t221_1147, t221_1148, t221_1149, t221_1150, t221_1151, t221_1152, t221_1153, t221_1154, t221_1155, t221_1156, t221_1157, t221_1158, t221_1159, t221_1160, t221_1161, t221_1162, t221_1163, t221_1164, t221_1165, t221_1166, i2, aL_3n, nl_add, rl_s]
  refine M_rivals m2 F.1.1 F.1.2 F.2.1.1 F.2.1.2 (fun h3 m3 f3 => ?_)
  simp only [t221_1169, rl_s, if_true]
  exact K h3 (Iv_mk J0 c2 m3 f3)
theorem LC_rain : LC 1174 := by
  intro d L xs i h Q hi hL I K
  obtain ⟨I0, S, m, g, hh, sn, nn, mn, un0, n, c⟩ := I
  have F := CL_f c
  have ho := CL_o c
  have i1 := I0.1
  simp (disch := first | assumption | omega) only [t221_1174, t221_1175, t221_1176, t221_1177, t221_1178, t221_1179, t221_1180, t221_1181, t221_1182, t221_1183, t221_1184, t221_1185, i1, aL_3n, nl_add]
  refine X_rain c (fun h2 c2 f2 => ?_)
  have m2 := MA_frC m f2
  have J0 := Iv_frC I0 f2
  have ho := MA_o m2
  have i2 := J0.1
  simp (disch := first | assumption | omega) only [t221_1188, t221_1189, t221_1190, t221_1191, t221_1192, t221_1193, t221_1194, t221_1195, t221_1196, t221_1197, t221_1198, t221_1199, i2, aL_3n, nl_add, rl_s]
  refine M_rain m2 F.1.1 F.1.2 F.2.1.1 F.2.1.2 (fun h3 m3 f3 => ?_)
  simp only [t221_1202, rl_s, if_true]
  exact K h3 (Iv_mk J0 c2 m3 f3)
theorem LC_years : LC 1207 := by
  intro d L xs i h Q hi hL I K
  obtain ⟨I0, S, m, g, hh, sn, nn, mn, un0, n, c⟩ := I
  have F := CL_f c
  have ho := CL_o c
  have i1 := I0.1
  simp (disch := first | assumption | omega) only [t221_1207, t221_1208, t221_1209, t221_1210, t221_1211, t221_1212, t221_1213, t221_1214, t221_1215, t221_1216, t221_1217, t221_1218, i1, aL_3n, nl_add]
  refine X_years c (fun h2 c2 f2 => ?_)
  have m2 := MA_frC m f2
  have J0 := Iv_frC I0 f2
  have ho := MA_o m2
  have i2 := J0.1
  simp (disch := first | assumption | omega) only [t221_1221, t221_1222, t221_1223, t221_1224, t221_1225, t221_1226, t221_1227, t221_1228, t221_1229, t221_1230, t221_1231, t221_1232, i2, aL_3n, nl_add, rl_s]
  refine M_years m2 F.1.1 F.1.2 F.2.1.1 F.2.1.2 (fun h3 m3 f3 => ?_)
  simp only [t221_1235, rl_s, if_true]
  exact K h3 (Iv_mk J0 c2 m3 f3)
theorem LC_part : LC 1240 := by
  intro d L xs i h Q hi hL I K
  obtain ⟨I0, S, m, g, hh, sn, nn, mn, un0, n, c⟩ := I
  have F := CL_f c
  have ho := CL_o c
  have i1 := I0.1
  simp (disch := first | assumption | omega) only [t221_1240, t221_1241, t221_1242, t221_1243, t221_1244, t221_1245, t221_1246, i1, aL_3n, nl_add]
  refine X_part c (fun h2 c2 f2 => ?_)
  have m2 := MA_frC m f2
  have J0 := Iv_frC I0 f2
  have ho := MA_o m2
  have i2 := J0.1
  simp (disch := first | assumption | omega) only [t221_1249, t221_1250, t221_1251, t221_1252, t221_1253, t221_1254, t221_1255, i2, aL_3n, nl_add, rl_s]
  refine M_part m2 (fun h3 m3 f3 => ?_)
  simp only [t221_1258, t221_1259, rl_s, if_true, lg_same]
  exact K h3 (Iv_mk J0 c2 m3 f3)
theorem LC_image : LC 1264 := by
  intro d L xs i h Q hi hL I K
  obtain ⟨I0, S, m, g, hh, sn, nn, mn, un0, n, c⟩ := I
  have F := CL_f c
  have ho := CL_o c
  have i1 := I0.1
  simp (disch := first | assumption | omega) only [t221_1264, t221_1265, t221_1266, t221_1267, t221_1268, t221_1269, t221_1270, i1, aL_3n, nl_add]
  refine X_image c (fun h2 c2 f2 => ?_)
  have m2 := MA_frC m f2
  have J0 := Iv_frC I0 f2
  have ho := MA_o m2
  have i2 := J0.1
  simp (disch := first | assumption | omega) only [t221_1273, t221_1274, t221_1275, t221_1276, t221_1277, t221_1278, t221_1279, i2, aL_3n, nl_add, rl_s]
  refine M_image m2 (fun h3 m3 f3 => ?_)
  simp only [t221_1282, rl_s, if_true]
  exact K h3 (Iv_mk J0 c2 m3 f3)
theorem LC_from : LC 1287 := by
  intro d L xs i h Q hi hL I K
  obtain ⟨I0, S, m, g, hh, sn, nn, mn, un0, n, c⟩ := I
  have F := CL_f c
  have ho := CL_o c
  have i1 := I0.1
  simp (disch := first | assumption | omega) only [t221_1287, t221_1288, t221_1289, t221_1290, t221_1291, t221_1292, t221_1293, i1, aL_3n, nl_add]
  refine X_from c (fun h2 c2 f2 => ?_)
  have m2 := MA_frC m f2
  have J0 := Iv_frC I0 f2
  have ho := MA_o m2
  have i2 := J0.1
  simp (disch := first | assumption | omega) only [t221_1296, t221_1297, t221_1298, t221_1299, t221_1300, t221_1301, t221_1302, i2, aL_3n, nl_add, rl_s]
  refine M_from m2 (fun h3 m3 f3 => ?_)
  simp only [t221_1305, rl_s, if_true]
  exact K h3 (Iv_mk J0 c2 m3 f3)
theorem LC_status : LC 1310 := by
  intro d L xs i h Q hi hL I K
  obtain ⟨I0, S, m, g, hh, sn, nn, mn, un0, n, c⟩ := I
  have F := CL_f c
  have ho := CL_o c
  have i1 := I0.1
  simp (disch := first | assumption | omega) only [t221_1310, t221_1311, t221_1312, t221_1313, t221_1314, t221_1315, t221_1316, i1, aL_3n, nl_add]
  refine X_status c (fun h2 c2 f2 => ?_)
  have m2 := MA_frC m f2
  have J0 := Iv_frC I0 f2
  have ho := MA_o m2
  have i2 := J0.1
  simp (disch := first | assumption | omega) only [t221_1319, t221_1320, t221_1321, t221_1322, t221_1323, t221_1324, t221_1325, i2, aL_3n, nl_add, rl_s]
  refine M_status m2 (fun h3 m3 f3 => ?_)
  simp only [t221_1328, rl_s, if_true]
  exact K h3 (Iv_mk J0 c2 m3 f3)
theorem LC_count : LC 1333 := by
  intro d L xs i h Q hi hL I K
  obtain ⟨I0, S, m, g, hh, sn, nn, mn, un0, n, c⟩ := I
  have F := CL_f c
  have ho := CL_o c
  have i1 := I0.1
  simp (disch := first | assumption | omega) only [t221_1333, t221_1334, t221_1335, t221_1336, t221_1337, t221_1338, t221_1339, i1, aL_3n, nl_add]
  refine X_count c (fun h2 c2 f2 => ?_)
  have m2 := MA_frC m f2
  have J0 := Iv_frC I0 f2
  have ho := MA_o m2
  have i2 := J0.1
  simp (disch := first | assumption | omega) only [t221_1342, t221_1343, t221_1344, t221_1345, t221_1346, t221_1347, t221_1348, i2, aL_3n, nl_add, rl_s]
  refine M_count m2 F.1.1 F.1.2 (fun h3 m3 f3 => ?_)
  simp only [t221_1351, rl_s, if_true]
  exact K h3 (Iv_mk J0 c2 m3 f3)
theorem LC_digest : LC 1356 := by
  intro d L xs i h Q hi hL I K
  obtain ⟨I0, S, m, g, hh, sn, nn, mn, un0, n, c⟩ := I
  have F := CL_f c
  have ho := CL_o c
  have i1 := I0.1
  simp (disch := first | assumption | omega) only [t221_1356, t221_1357, i1, aL_3n, nl_add]
  refine X_digest c (fun h2 c2 f2 => ?_)
  have m2 := MA_frC m f2
  have J0 := Iv_frC I0 f2
  have ho := MA_o m2
  have i2 := J0.1
  simp (disch := first | assumption | omega) only [t221_1360, t221_1361, i2, aL_3n, nl_add, rl_s]
  refine M_digest m2 F.1.1 F.1.2 F.2.1.1 F.2.1.2 F.2.2.1.1 F.2.2.1.2 F.2.2.2.1.1 F.2.2.2.1.2 F.2.2.2.2.1.1 F.2.2.2.2.1.2 (fun h3 m3 f3 => ?_)
  simp only [t221_1364, t221_1365, rl_s, if_true, lg_same]
  exact K h3 (Iv_mk J0 c2 m3 f3)
end LC
