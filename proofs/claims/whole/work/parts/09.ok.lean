/-! the methods' rooms, and what a call of each needs of the tables -/
def rm_J9_abs_067f4 : Room := { frames := 0, cells := 0, slots := 0, locals := 0 }
theorem ok_J9_abs_067f4 : CalOk yJ9_abs_067f4 cJ9_abs_067f4 2 (some .long) 1 := ⟨⟨by decide +kernel, by decide +kernel⟩, by decide +kernel, q_776, q_15⟩
def rm_J9_abs_0f7a4 : Room := { frames := 0, cells := 0, slots := 0, locals := 0 }
theorem ok_J9_abs_0f7a4 : CalOk yJ9_abs_0f7a4 cJ9_abs_0f7a4 1 (some .int) 1 := ⟨⟨by decide +kernel, by decide +kernel⟩, by decide +kernel, q_363, q_15⟩
def rm_J9_floorDiv_f86c9 : Room := { frames := 0, cells := 0, slots := 0, locals := 0 }
theorem ok_J9_floorDiv_f86c9 : CalOk yJ9_floorDiv_f86c9 cJ9_floorDiv_f86c9 6 (some .long) 2 := ⟨⟨by decide +kernel, by decide +kernel⟩, by decide +kernel, q_360, q_15⟩
def rm_J9_max_7cf53 : Room := { frames := 0, cells := 0, slots := 0, locals := 0 }
theorem ok_J9_max_7cf53 : CalOk yJ9_max_7cf53 cJ9_max_7cf53 2 (some .int) 2 := ⟨⟨by decide +kernel, by decide +kernel⟩, by decide +kernel, q_366, q_15⟩
def rm_J9_max_f86c9 : Room := { frames := 0, cells := 0, slots := 0, locals := 0 }
theorem ok_J9_max_f86c9 : CalOk yJ9_max_f86c9 cJ9_max_f86c9 4 (some .long) 2 := ⟨⟨by decide +kernel, by decide +kernel⟩, by decide +kernel, q_416, q_15⟩
def rm_J9_min_7cf53 : Room := { frames := 0, cells := 0, slots := 0, locals := 0 }
theorem ok_J9_min_7cf53 : CalOk yJ9_min_7cf53 cJ9_min_7cf53 2 (some .int) 2 := ⟨⟨by decide +kernel, by decide +kernel⟩, by decide +kernel, q_374, q_15⟩
def rm_J9_min_f86c9 : Room := { frames := 0, cells := 0, slots := 0, locals := 0 }
theorem ok_J9_min_f86c9 : CalOk yJ9_min_f86c9 cJ9_min_f86c9 4 (some .long) 2 := ⟨⟨by decide +kernel, by decide +kernel⟩, by decide +kernel, q_419, q_15⟩
def rm_X0_around : Room := { frames := 0, cells := 0, slots := 0, locals := 0 }
theorem ok_X0_around : CalOk yX0_around cX0_around 2 (some .int) 1 := ⟨⟨by decide +kernel, by decide +kernel⟩, by decide +kernel, q_663, q_3⟩
theorem vi_X0_around : VirOk yX0_around := ⟨q_662, qs_14⟩
def rm_X0_becomeTurned : Room := { frames := 1, cells := 0, slots := 0, locals := 21 }
theorem ok_X0_becomeTurned : CalOk yX0_becomeTurned cX0_becomeTurned 8 (none) 2 := ⟨⟨by decide +kernel, by decide +kernel⟩, by decide +kernel, q_606, q_3⟩
theorem vi_X0_becomeTurned : VirOk yX0_becomeTurned := ⟨q_604, q_605⟩
def rm_X0_closingError : Room := { frames := 0, cells := 0, slots := 0, locals := 0 }
theorem ok_X0_closingError : CalOk yX0_closingError cX0_closingError 2 (some .int) 1 := ⟨⟨by decide +kernel, by decide +kernel⟩, by decide +kernel, q_353, q_3⟩
theorem vi_X0_closingError : VirOk yX0_closingError := ⟨q_351, q_352⟩
def rm_X0_copyFrom : Room := { frames := 1, cells := 0, slots := 0, locals := 68 }
theorem ok_X0_copyFrom : CalOk yX0_copyFrom cX0_copyFrom 3 (none) 1 := ⟨⟨by decide +kernel, by decide +kernel⟩, by decide +kernel, q_246, q_3⟩
theorem vi_X0_copyFrom : VirOk yX0_copyFrom := ⟨q_244, q_245⟩
def rm_X0_greatestOpposite : Room := { frames := 1, cells := 0, slots := 0, locals := 23 }
theorem ok_X0_greatestOpposite : CalOk yX0_greatestOpposite cX0_greatestOpposite 4 (some .int) 0 := ⟨⟨by decide +kernel, by decide +kernel⟩, by decide +kernel, q_690, q_3⟩
theorem vi_X0_greatestOpposite : VirOk yX0_greatestOpposite := ⟨q_688, q_689⟩
def rm_X0_greatestPitch : Room := { frames := 3, cells := 0, slots := 0, locals := 71 }
theorem ok_X0_greatestPitch : CalOk yX0_greatestPitch cX0_greatestPitch 6 (some .int) 1 := ⟨⟨by decide +kernel, by decide +kernel⟩, by decide +kernel, q_345, q_3⟩
theorem vi_X0_greatestPitch : VirOk yX0_greatestPitch := ⟨q_343, q_344⟩
def rm_X0_greatestSpan : Room := { frames := 3, cells := 0, slots := 0, locals := 71 }
theorem ok_X0_greatestSpan : CalOk yX0_greatestSpan cX0_greatestSpan 6 (some .int) 2 := ⟨⟨by decide +kernel, by decide +kernel⟩, by decide +kernel, q_659, q_3⟩
theorem vi_X0_greatestSpan : VirOk yX0_greatestSpan := ⟨q_657, q_658⟩
def rm_X0_indexAt : Room := { frames := 2, cells := 0, slots := 0, locals := 48 }
theorem ok_X0_indexAt : CalOk yX0_indexAt cX0_indexAt 4 (some .int) 2 := ⟨⟨by decide +kernel, by decide +kernel⟩, by decide +kernel, q_349, q_3⟩
theorem vi_X0_indexAt : VirOk yX0_indexAt := ⟨q_347, q_348⟩
def rm_X0_indexRange : Room := { frames := 3, cells := 0, slots := 0, locals := 71 }
theorem ok_X0_indexRange : CalOk yX0_indexRange cX0_indexRange 6 (some .int) 1 := ⟨⟨by decide +kernel, by decide +kernel⟩, by decide +kernel, q_371, q_3⟩
theorem vi_X0_indexRange : VirOk yX0_indexRange := ⟨q_369, q_370⟩
def rm_X0_init : Room := { frames := 0, cells := 0, slots := 0, locals := 0 }
theorem ok_X0_init : CalOk yX0_init cX0_init 1 (none) 0 := ⟨⟨by decide +kernel, by decide +kernel⟩, by decide +kernel, q_37, q_3⟩
def rm_X0_isInRange : Room := { frames := 1, cells := 0, slots := 0, locals := 21 }
theorem ok_X0_isInRange : CalOk yX0_isInRange cX0_isInRange 3 (some .boolean) 0 := ⟨⟨by decide +kernel, by decide +kernel⟩, by decide +kernel, q_610, q_3⟩
theorem vi_X0_isInRange : VirOk yX0_isInRange := ⟨q_608, q_609⟩
def rm_X0_reset : Room := { frames := 0, cells := 0, slots := 0, locals := 0 }
theorem ok_X0_reset : CalOk yX0_reset cX0_reset 5 (none) 2 := ⟨⟨by decide +kernel, by decide +kernel⟩, by decide +kernel, q_281, q_3⟩
theorem vi_X0_reset : VirOk yX0_reset := ⟨q_279, q_280⟩
def rm_X0_runout : Room := { frames := 1, cells := 0, slots := 0, locals := 23 }
theorem ok_X0_runout : CalOk yX0_runout cX0_runout 4 (some .int) 0 := ⟨⟨by decide +kernel, by decide +kernel⟩, by decide +kernel, q_378, q_3⟩
theorem vi_X0_runout : VirOk yX0_runout := ⟨q_376, q_377⟩
def rm_X0_scatter : Room := { frames := 1, cells := 0, slots := 0, locals := 21 }
theorem ok_X0_scatter : CalOk yX0_scatter cX0_scatter 7 (none) 2 := ⟨⟨by decide +kernel, by decide +kernel⟩, by decide +kernel, q_589, q_3⟩
theorem vi_X0_scatter : VirOk yX0_scatter := ⟨q_587, q_588⟩
def rm_X0_sizeOf : Room := { frames := 0, cells := 0, slots := 0, locals := 0 }
theorem ok_X0_sizeOf : CalOk yX0_sizeOf cX0_sizeOf 2 (some .int) 1 := ⟨⟨by decide +kernel, by decide +kernel⟩, by decide +kernel, q_250, q_3⟩
theorem vi_X0_sizeOf : VirOk yX0_sizeOf := ⟨q_248, q_249⟩
def rm_X0_thicknessAt : Room := { frames := 3, cells := 0, slots := 0, locals := 71 }
theorem ok_X0_thicknessAt : CalOk yX0_thicknessAt cX0_thicknessAt 2 (some .int) 1 := ⟨⟨by decide +kernel, by decide +kernel⟩, by decide +kernel, q_678, q_3⟩
theorem vi_X0_thicknessAt : VirOk yX0_thicknessAt := ⟨q_676, q_677⟩
def rm_X0_thicknessRange : Room := { frames := 4, cells := 0, slots := 0, locals := 92 }
theorem ok_X0_thicknessRange : CalOk yX0_thicknessRange cX0_thicknessRange 5 (some .int) 0 := ⟨⟨by decide +kernel, by decide +kernel⟩, by decide +kernel, q_674, q_3⟩
theorem vi_X0_thicknessRange : VirOk yX0_thicknessRange := ⟨q_672, q_673⟩
def rm_X1_copyFrom : Room := { frames := 1, cells := 0, slots := 0, locals := 68 }
theorem ok_X1_copyFrom : CalOk yX1_copyFrom cX1_copyFrom 2 (none) 1 := ⟨⟨by decide +kernel, by decide +kernel⟩, by decide +kernel, q_257, q_4⟩
theorem vi_X1_copyFrom : VirOk yX1_copyFrom := ⟨q_255, q_256⟩
def rm_X1_denominator : Room := { frames := 0, cells := 0, slots := 0, locals := 0 }
theorem ok_X1_denominator : CalOk yX1_denominator cX1_denominator 1 (some .long) 0 := ⟨⟨by decide +kernel, by decide +kernel⟩, by decide +kernel, q_404, q_4⟩
theorem vi_X1_denominator : VirOk yX1_denominator := ⟨q_402, q_403⟩
def rm_X1_deviationOf : Room := { frames := 2, cells := 0, slots := 0, locals := 56 }
theorem ok_X1_deviationOf : CalOk yX1_deviationOf cX1_deviationOf 2 (some .int) 1 := ⟨⟨by decide +kernel, by decide +kernel⟩, by decide +kernel, q_390, q_4⟩
theorem vi_X1_deviationOf : VirOk yX1_deviationOf := ⟨q_388, q_389⟩
def rm_X1_formNumerator : Room := { frames := 1, cells := 0, slots := 0, locals := 23 }
theorem ok_X1_formNumerator : CalOk yX1_formNumerator cX1_formNumerator 14 (some .long) 0 := ⟨⟨by decide +kernel, by decide +kernel⟩, by decide +kernel, q_409, q_4⟩
theorem vi_X1_formNumerator : VirOk yX1_formNumerator := ⟨q_408, qs_11⟩
def rm_X1_init : Room := { frames := 0, cells := 0, slots := 0, locals := 0 }
theorem ok_X1_init : CalOk yX1_init cX1_init 1 (none) 0 := ⟨⟨by decide +kernel, by decide +kernel⟩, by decide +kernel, q_60, q_4⟩
def rm_X1_interceptNumerator : Room := { frames := 0, cells := 0, slots := 0, locals := 0 }
theorem ok_X1_interceptNumerator : CalOk yX1_interceptNumerator cX1_interceptNumerator 1 (some .long) 0 := ⟨⟨by decide +kernel, by decide +kernel⟩, by decide +kernel, q_413, q_4⟩
theorem vi_X1_interceptNumerator : VirOk yX1_interceptNumerator := ⟨q_411, q_412⟩
def rm_X1_isMeasured : Room := { frames := 0, cells := 0, slots := 0, locals := 0 }
theorem ok_X1_isMeasured : CalOk yX1_isMeasured cX1_isMeasured 1 (some .boolean) 0 := ⟨⟨by decide +kernel, by decide +kernel⟩, by decide +kernel, q_386, q_4⟩
theorem vi_X1_isMeasured : VirOk yX1_isMeasured := ⟨q_384, q_385⟩
def rm_X1_push : Room := { frames := 0, cells := 0, slots := 0, locals := 0 }
theorem ok_X1_push : CalOk yX1_push cX1_push 2 (none) 1 := ⟨⟨by decide +kernel, by decide +kernel⟩, by decide +kernel, q_310, q_4⟩
theorem vi_X1_push : VirOk yX1_push := ⟨q_308, q_309⟩
def rm_X1_reset : Room := { frames := 0, cells := 0, slots := 0, locals := 0 }
theorem ok_X1_reset : CalOk yX1_reset cX1_reset 3 (none) 2 := ⟨⟨by decide +kernel, by decide +kernel⟩, by decide +kernel, q_306, q_4⟩
theorem vi_X1_reset : VirOk yX1_reset := ⟨q_304, q_305⟩
def rm_X1_slopeNumerator : Room := { frames := 0, cells := 0, slots := 0, locals := 0 }
theorem ok_X1_slopeNumerator : CalOk yX1_slopeNumerator cX1_slopeNumerator 1 (some .long) 0 := ⟨⟨by decide +kernel, by decide +kernel⟩, by decide +kernel, q_400, q_4⟩
theorem vi_X1_slopeNumerator : VirOk yX1_slopeNumerator := ⟨q_398, q_399⟩
def rm_X1_totalDeviation : Room := { frames := 1, cells := 0, slots := 0, locals := 23 }
theorem ok_X1_totalDeviation : CalOk yX1_totalDeviation cX1_totalDeviation 4 (some .int) 0 := ⟨⟨by decide +kernel, by decide +kernel⟩, by decide +kernel, q_394, q_4⟩
theorem vi_X1_totalDeviation : VirOk yX1_totalDeviation := ⟨q_393, qs_10⟩
def rm_X2_engage : Room := { frames := 4, cells := 0, slots := 0, locals := 98 }
theorem ok_X2_engage : CalOk yX2_engage cX2_engage 4 (none) 3 := ⟨⟨by decide +kernel, by decide +kernel⟩, by decide +kernel, q_815, q_6⟩
theorem vi_X2_engage : VirOk yX2_engage := ⟨q_813, q_814⟩
def rm_X2_errorAt : Room := { frames := 1, cells := 0, slots := 0, locals := 23 }
theorem ok_X2_errorAt : CalOk yX2_errorAt cX2_errorAt 6 (some .int) 1 := ⟨⟨by decide +kernel, by decide +kernel⟩, by decide +kernel, q_827, q_6⟩
theorem vi_X2_errorAt : VirOk yX2_errorAt := ⟨q_825, q_826⟩
def rm_X2_init : Room := { frames := 0, cells := 0, slots := 0, locals := 0 }
theorem ok_X2_init : CalOk yX2_init cX2_init 1 (none) 0 := ⟨⟨by decide +kernel, by decide +kernel⟩, by decide +kernel, q_151, q_6⟩
def rm_X2_phaseOfSmallest : Room := { frames := 2, cells := 0, slots := 0, locals := 48 }
theorem ok_X2_phaseOfSmallest : CalOk yX2_phaseOfSmallest cX2_phaseOfSmallest 5 (some .int) 0 := ⟨⟨by decide +kernel, by decide +kernel⟩, by decide +kernel, q_838, q_6⟩
theorem vi_X2_phaseOfSmallest : VirOk yX2_phaseOfSmallest := ⟨q_836, q_837⟩
def rm_X2_sort : Room := { frames := 3, cells := 0, slots := 0, locals := 71 }
theorem ok_X2_sort : CalOk yX2_sort cX2_sort 8 (none) 4 := ⟨⟨by decide +kernel, by decide +kernel⟩, by decide +kernel, q_821, q_6⟩
theorem vi_X2_sort : VirOk yX2_sort := ⟨q_820, qs_16⟩
def rm_X3_carryOut : Room := { frames := 3, cells := 0, slots := 0, locals := 91 }
theorem ok_X3_carryOut : CalOk yX3_carryOut cX3_carryOut 2 (some .boolean) 1 := ⟨⟨by decide +kernel, by decide +kernel⟩, by decide +kernel, q_270, q_2⟩
theorem vi_X3_carryOut : VirOk yX3_carryOut := ⟨q_268, q_269⟩
def rm_X3_copyFrom : Room := { frames := 2, cells := 0, slots := 0, locals := 90 }
theorem ok_X3_copyFrom : CalOk yX3_copyFrom cX3_copyFrom 3 (none) 1 := ⟨⟨by decide +kernel, by decide +kernel⟩, by decide +kernel, q_242, q_2⟩
theorem vi_X3_copyFrom : VirOk yX3_copyFrom := ⟨q_240, q_241⟩
def rm_X3_deviationOf : Room := { frames := 4, cells := 0, slots := 0, locals := 103 }
theorem ok_X3_deviationOf : CalOk yX3_deviationOf cX3_deviationOf 4 (some .int) 2 := ⟨⟨by decide +kernel, by decide +kernel⟩, by decide +kernel, q_341, q_2⟩
theorem vi_X3_deviationOf : VirOk yX3_deviationOf := ⟨q_339, q_340⟩
def rm_X3_dropGear : Room := { frames := 1, cells := 0, slots := 0, locals := 23 }
theorem ok_X3_dropGear : CalOk yX3_dropGear cX3_dropGear 5 (some .int) 1 := ⟨⟨by decide +kernel, by decide +kernel⟩, by decide +kernel, q_558, q_2⟩
theorem vi_X3_dropGear : VirOk yX3_dropGear := ⟨q_556, q_557⟩
def rm_X3_dropLine : Room := { frames := 0, cells := 0, slots := 0, locals := 0 }
theorem ok_X3_dropLine : CalOk yX3_dropLine cX3_dropLine 4 (none) 1 := ⟨⟨by decide +kernel, by decide +kernel⟩, by decide +kernel, q_562, q_2⟩
theorem vi_X3_dropLine : VirOk yX3_dropLine := ⟨q_560, q_561⟩
def rm_X3_greatestOfLines : Room := { frames := 3, cells := 0, slots := 0, locals := 77 }
theorem ok_X3_greatestOfLines : CalOk yX3_greatestOfLines cX3_greatestOfLines 7 (some .int) 3 := ⟨⟨by decide +kernel, by decide +kernel⟩, by decide +kernel, q_382, q_2⟩
theorem vi_X3_greatestOfLines : VirOk yX3_greatestOfLines := ⟨q_381, qs_9⟩
def rm_X3_init : Room := { frames := 1, cells := 0, slots := 0, locals := 20 }
theorem ok_X3_init : CalOk yX3_init cX3_init 2 (none) 0 := ⟨⟨by decide +kernel, by decide +kernel⟩, by decide +kernel, q_28, q_2⟩
def rm_X3_linesOf : Room := { frames := 0, cells := 0, slots := 0, locals := 0 }
theorem ok_X3_linesOf : CalOk yX3_linesOf cX3_linesOf 4 (some .int) 1 := ⟨⟨by decide +kernel, by decide +kernel⟩, by decide +kernel, q_327, q_2⟩
theorem vi_X3_linesOf : VirOk yX3_linesOf := ⟨q_325, q_326⟩
def rm_X3_newGear : Room := { frames := 1, cells := 0, slots := 0, locals := 24 }
theorem ok_X3_newGear : CalOk yX3_newGear cX3_newGear 3 (some .int) 2 := ⟨⟨by decide +kernel, by decide +kernel⟩, by decide +kernel, q_277, q_2⟩
theorem vi_X3_newGear : VirOk yX3_newGear := ⟨q_275, q_276⟩
def rm_X3_newLine : Room := { frames := 1, cells := 0, slots := 0, locals := 22 }
theorem ok_X3_newLine : CalOk yX3_newLine cX3_newLine 3 (some .int) 2 := ⟨⟨by decide +kernel, by decide +kernel⟩, by decide +kernel, q_302, q_2⟩
theorem vi_X3_newLine : VirOk yX3_newLine := ⟨q_300, q_301⟩
def rm_X3_takeLine : Room := { frames := 2, cells := 0, slots := 0, locals := 44 }
theorem ok_X3_takeLine : CalOk yX3_takeLine cX3_takeLine 5 (some .boolean) 2 := ⟨⟨by decide +kernel, by decide +kernel⟩, by decide +kernel, q_298, q_2⟩
theorem vi_X3_takeLine : VirOk yX3_takeLine := ⟨q_297, qs_6⟩
def rm_X3_takeSeries : Room := { frames := 2, cells := 0, slots := 0, locals := 68 }
theorem ok_X3_takeSeries : CalOk yX3_takeSeries cX3_takeSeries 4 (some .boolean) 2 := ⟨⟨by decide +kernel, by decide +kernel⟩, by decide +kernel, q_285, q_2⟩
theorem vi_X3_takeSeries : VirOk yX3_takeSeries := ⟨q_284, qs_5⟩
def rm_X4_init : Room := { frames := 0, cells := 0, slots := 0, locals := 0 }
theorem ok_X4_init : CalOk yX4_init cX4_init 1 (none) 0 := ⟨⟨by decide +kernel, by decide +kernel⟩, by decide +kernel, q_115, q_5⟩
def rm_X4_isInRange : Room := { frames := 1, cells := 0, slots := 0, locals := 20 }
theorem ok_X4_isInRange : CalOk yX4_isInRange cX4_isInRange 2 (some .boolean) 0 := ⟨⟨by decide +kernel, by decide +kernel⟩, by decide +kernel, q_289, q_5⟩
theorem vi_X4_isInRange : VirOk yX4_isInRange := ⟨q_287, q_288⟩
def rm_X4_isPossible : Room := { frames := 1, cells := 0, slots := 0, locals := 20 }
theorem ok_X4_isPossible : CalOk yX4_isPossible cX4_isPossible 2 (some .boolean) 1 := ⟨⟨by decide +kernel, by decide +kernel⟩, by decide +kernel, q_222, q_5⟩
theorem vi_X4_isPossible : VirOk yX4_isPossible := ⟨q_221, qs_0⟩
def rm_X4_leastNumbers : Room := { frames := 0, cells := 0, slots := 0, locals := 0 }
theorem ok_X4_leastNumbers : CalOk yX4_leastNumbers cX4_leastNumbers 1 (some .int) 0 := ⟨⟨by decide +kernel, by decide +kernel⟩, by decide +kernel, q_230, q_5⟩
theorem vi_X4_leastNumbers : VirOk yX4_leastNumbers := ⟨q_229, qs_2⟩
def rm_X4_mostNumbers : Room := { frames := 0, cells := 0, slots := 0, locals := 0 }
theorem ok_X4_mostNumbers : CalOk yX4_mostNumbers cX4_mostNumbers 1 (some .int) 0 := ⟨⟨by decide +kernel, by decide +kernel⟩, by decide +kernel, q_226, q_5⟩
theorem vi_X4_mostNumbers : VirOk yX4_mostNumbers := ⟨q_225, qs_1⟩
def rm_X4_readCommand : Room := { frames := 2, cells := 0, slots := 0, locals := 42 }
theorem ok_X4_readCommand : CalOk yX4_readCommand cX4_readCommand 2 (some .boolean) 0 := ⟨⟨by decide +kernel, by decide +kernel⟩, by decide +kernel, q_266, q_5⟩
theorem vi_X4_readCommand : VirOk yX4_readCommand := ⟨q_264, q_265⟩
def rm_X4_rewind : Room := { frames := 0, cells := 0, slots := 0, locals := 0 }
theorem ok_X4_rewind : CalOk yX4_rewind cX4_rewind 1 (none) 0 := ⟨⟨by decide +kernel, by decide +kernel⟩, by decide +kernel, q_262, q_5⟩
theorem vi_X4_rewind : VirOk yX4_rewind := ⟨q_260, q_261⟩
def rm_X4_startNumber : Room := { frames := 0, cells := 0, slots := 0, locals := 0 }
theorem ok_X4_startNumber : CalOk yX4_startNumber cX4_startNumber 1 (none) 0 := ⟨⟨by decide +kernel, by decide +kernel⟩, by decide +kernel, q_238, q_5⟩
theorem vi_X4_startNumber : VirOk yX4_startNumber := ⟨q_237, qs_4⟩
def rm_X4_syntaxError : Room := { frames := 2, cells := 0, slots := 0, locals := 42 }
theorem ok_X4_syntaxError : CalOk yX4_syntaxError cX4_syntaxError 2 (some .int) 0 := ⟨⟨by decide +kernel, by decide +kernel⟩, by decide +kernel, q_218, q_5⟩
theorem vi_X4_syntaxError : VirOk yX4_syntaxError := ⟨q_216, q_217⟩
def rm_X4_take : Room := { frames := 1, cells := 0, slots := 0, locals := 20 }
theorem ok_X4_take : CalOk yX4_take cX4_take 3 (none) 1 := ⟨⟨by decide +kernel, by decide +kernel⟩, by decide +kernel, q_234, q_5⟩
theorem vi_X4_take : VirOk yX4_take := ⟨q_233, qs_3⟩
def rm_X5_addGear : Room := { frames := 4, cells := 0, slots := 0, locals := 134 }
theorem ok_X5_addGear : CalOk yX5_addGear cX5_addGear 3 (some .int) 2 := ⟨⟨by decide +kernel, by decide +kernel⟩, by decide +kernel, q_440, q_1⟩
theorem vi_X5_addGear : VirOk yX5_addGear := ⟨q_438, q_439⟩
def rm_X5_addLine : Room := { frames := 4, cells := 0, slots := 0, locals := 134 }
theorem ok_X5_addLine : CalOk yX5_addLine cX5_addLine 3 (some .int) 2 := ⟨⟨by decide +kernel, by decide +kernel⟩, by decide +kernel, q_708, q_1⟩
theorem vi_X5_addLine : VirOk yX5_addLine := ⟨q_706, q_707⟩
def rm_X5_addPoint : Room := { frames := 4, cells := 0, slots := 0, locals := 134 }
theorem ok_X5_addPoint : CalOk yX5_addPoint cX5_addPoint 4 (some .int) 2 := ⟨⟨by decide +kernel, by decide +kernel⟩, by decide +kernel, q_718, q_1⟩
theorem vi_X5_addPoint : VirOk yX5_addPoint := ⟨q_716, q_717⟩
def rm_X5_append : Room := { frames := 0, cells := 0, slots := 0, locals := 0 }
theorem ok_X5_append : CalOk yX5_append cX5_append 2 (some .int) 1 := ⟨⟨by decide +kernel, by decide +kernel⟩, by decide +kernel, q_876, q_1⟩
theorem vi_X5_append : VirOk yX5_append := ⟨q_874, q_875⟩
def rm_X5_baseTolerance : Room := { frames := 1, cells := 0, slots := 0, locals := 22 }
theorem ok_X5_baseTolerance : CalOk yX5_baseTolerance cX5_baseTolerance 7 (some .int) 2 := ⟨⟨by decide +kernel, by decide +kernel⟩, by decide +kernel, q_334, q_1⟩
def rm_X5_best : Room := { frames := 2, cells := 0, slots := 0, locals := 53 }
theorem ok_X5_best : CalOk yX5_best cX5_best 11 (some .long) 3 := ⟨⟨by decide +kernel, by decide +kernel⟩, by decide +kernel, q_766, q_1⟩
theorem vi_X5_best : VirOk yX5_best := ⟨q_764, q_765⟩
def rm_X5_bestPhase : Room := { frames := 5, cells := 0, slots := 0, locals := 121 }
theorem ok_X5_bestPhase : CalOk yX5_bestPhase cX5_bestPhase 6 (some .int) 3 := ⟨⟨by decide +kernel, by decide +kernel⟩, by decide +kernel, q_834, q_1⟩
theorem vi_X5_bestPhase : VirOk yX5_bestPhase := ⟨q_832, q_833⟩
def rm_X5_classOf : Room := { frames := 1, cells := 0, slots := 0, locals := 23 }
theorem ok_X5_classOf : CalOk yX5_classOf cX5_classOf 3 (some .int) 2 := ⟨⟨by decide +kernel, by decide +kernel⟩, by decide +kernel, q_423, q_1⟩
def rm_X5_classOfGear : Room := { frames := 5, cells := 0, slots := 0, locals := 126 }
theorem ok_X5_classOfGear : CalOk yX5_classOfGear cX5_classOfGear 5 (some .int) 1 := ⟨⟨by decide +kernel, by decide +kernel⟩, by decide +kernel, q_331, q_1⟩
theorem vi_X5_classOfGear : VirOk yX5_classOfGear := ⟨q_330, qs_8⟩
def rm_X5_clearText : Room := { frames := 0, cells := 0, slots := 0, locals := 0 }
theorem ok_X5_clearText : CalOk yX5_clearText cX5_clearText 2 (some .int) 0 := ⟨⟨by decide +kernel, by decide +kernel⟩, by decide +kernel, q_210, q_1⟩
theorem vi_X5_clearText : VirOk yX5_clearText := ⟨q_208, q_209⟩
def rm_X5_commonDivisor : Room := { frames := 1, cells := 0, slots := 0, locals := 23 }
theorem ok_X5_commonDivisor : CalOk yX5_commonDivisor cX5_commonDivisor 11 (some .long) 2 := ⟨⟨by decide +kernel, by decide +kernel⟩, by decide +kernel, q_773, q_1⟩
def rm_X5_decide : Room := { frames := 5, cells := 0, slots := 0, locals := 126 }
theorem ok_X5_decide : CalOk yX5_decide cX5_decide 8 (some .int) 3 := ⟨⟨by decide +kernel, by decide +kernel⟩, by decide +kernel, q_802, q_1⟩
theorem vi_X5_decide : VirOk yX5_decide := ⟨q_800, q_801⟩
def rm_X5_deviation : Room := { frames := 5, cells := 0, slots := 0, locals := 126 }
theorem ok_X5_deviation : CalOk yX5_deviation cX5_deviation 3 (some .int) 2 := ⟨⟨by decide +kernel, by decide +kernel⟩, by decide +kernel, q_698, q_1⟩
theorem vi_X5_deviation : VirOk yX5_deviation := ⟨q_696, q_697⟩
def rm_X5_digest : Room := { frames := 6, cells := 0, slots := 0, locals := 150 }
theorem ok_X5_digest : CalOk yX5_digest cX5_digest 7 (some .long) 0 := ⟨⟨by decide +kernel, by decide +kernel⟩, by decide +kernel, q_318, q_1⟩
theorem vi_X5_digest : VirOk yX5_digest := ⟨q_316, q_317⟩
def rm_X5_eccentricity : Room := { frames := 2, cells := 0, slots := 0, locals := 46 }
theorem ok_X5_eccentricity : CalOk yX5_eccentricity cX5_eccentricity 3 (some .double) 1 := ⟨⟨by decide +kernel, by decide +kernel⟩, by decide +kernel, q_686, q_1⟩
theorem vi_X5_eccentricity : VirOk yX5_eccentricity := ⟨q_684, q_685⟩
def rm_X5_fill : Room := { frames := 4, cells := 0, slots := 0, locals := 134 }
theorem ok_X5_fill : CalOk yX5_fill cX5_fill 5 (some .int) 3 := ⟨⟨by decide +kernel, by decide +kernel⟩, by decide +kernel, q_583, q_1⟩
theorem vi_X5_fill : VirOk yX5_fill := ⟨q_581, q_582⟩
def rm_X5_gear : Room := { frames := 6, cells := 0, slots := 0, locals := 150 }
theorem ok_X5_gear : CalOk yX5_gear cX5_gear 4 (some .int) 2 := ⟨⟨by decide +kernel, by decide +kernel⟩, by decide +kernel, q_620, q_1⟩
theorem vi_X5_gear : VirOk yX5_gear := ⟨q_618, q_619⟩
def rm_X5_gears : Room := { frames := 0, cells := 0, slots := 0, locals := 0 }
theorem ok_X5_gears : CalOk yX5_gears cX5_gears 1 (some .int) 0 := ⟨⟨by decide +kernel, by decide +kernel⟩, by decide +kernel, q_202, q_1⟩
theorem vi_X5_gears : VirOk yX5_gears := ⟨q_200, q_201⟩
def rm_X5_index : Room := { frames := 3, cells := 0, slots := 0, locals := 71 }
theorem ok_X5_index : CalOk yX5_index cX5_index 5 (some .int) 3 := ⟨⟨by decide +kernel, by decide +kernel⟩, by decide +kernel, q_635, q_1⟩
theorem vi_X5_index : VirOk yX5_index := ⟨q_633, q_634⟩
def rm_X5_init : Room := { frames := 2, cells := 0, slots := 0, locals := 41 }
theorem ok_X5_init : CalOk yX5_init cX5_init 2 (none) 0 := ⟨⟨by decide +kernel, by decide +kernel⟩, by decide +kernel, q_20, q_1⟩
def rm_X5_isDeviation : Room := { frames := 0, cells := 0, slots := 0, locals := 0 }
theorem ok_X5_isDeviation : CalOk yX5_isDeviation cX5_isDeviation 1 (some .boolean) 1 := ⟨⟨by decide +kernel, by decide +kernel⟩, by decide +kernel, q_292, q_1⟩
def rm_X5_isGear : Room := { frames := 0, cells := 0, slots := 0, locals := 0 }
theorem ok_X5_isGear : CalOk yX5_isGear cX5_isGear 2 (some .boolean) 2 := ⟨⟨by decide +kernel, by decide +kernel⟩, by decide +kernel, q_273, q_1⟩
def rm_X5_line : Room := { frames := 1, cells := 0, slots := 0, locals := 21 }
theorem ok_X5_line : CalOk yX5_line cX5_line 4 (some .int) 2 := ⟨⟨by decide +kernel, by decide +kernel⟩, by decide +kernel, q_740, q_1⟩
theorem vi_X5_line : VirOk yX5_line := ⟨q_738, q_739⟩
def rm_X5_lineDeviation : Room := { frames := 3, cells := 0, slots := 0, locals := 77 }
theorem ok_X5_lineDeviation : CalOk yX5_lineDeviation cX5_lineDeviation 4 (some .int) 2 := ⟨⟨by decide +kernel, by decide +kernel⟩, by decide +kernel, q_755, q_1⟩
theorem vi_X5_lineDeviation : VirOk yX5_lineDeviation := ⟨q_753, q_754⟩
def rm_X5_lines : Room := { frames := 0, cells := 0, slots := 0, locals := 0 }
theorem ok_X5_lines : CalOk yX5_lines cX5_lines 1 (some .int) 0 := ⟨⟨by decide +kernel, by decide +kernel⟩, by decide +kernel, q_206, q_1⟩
theorem vi_X5_lines : VirOk yX5_lines := ⟨q_204, q_205⟩
def rm_X5_mean : Room := { frames := 5, cells := 0, slots := 0, locals := 126 }
theorem ok_X5_mean : CalOk yX5_mean cX5_mean 4 (some .double) 1 := ⟨⟨by decide +kernel, by decide +kernel⟩, by decide +kernel, q_853, q_1⟩
theorem vi_X5_mean : VirOk yX5_mean := ⟨q_851, q_852⟩
def rm_X5_mesh : Room := { frames := 5, cells := 0, slots := 0, locals := 121 }
theorem ok_X5_mesh : CalOk yX5_mesh cX5_mesh 7 (some .int) 4 := ⟨⟨by decide +kernel, by decide +kernel⟩, by decide +kernel, q_810, q_1⟩
theorem vi_X5_mesh : VirOk yX5_mesh := ⟨q_808, q_809⟩
def rm_X5_mixed : Room := { frames := 0, cells := 0, slots := 0, locals := 0 }
theorem ok_X5_mixed : CalOk yX5_mixed cX5_mixed 3 (some .long) 2 := ⟨⟨by decide +kernel, by decide +kernel⟩, by decide +kernel, q_322, q_1⟩
def rm_X5_ofClass : Room := { frames := 0, cells := 0, slots := 0, locals := 0 }
theorem ok_X5_ofClass : CalOk yX5_ofClass cX5_ofClass 4 (some .int) 2 := ⟨⟨by decide +kernel, by decide +kernel⟩, by decide +kernel, q_426, q_1⟩
def rm_X5_parse : Room := { frames := 4, cells := 0, slots := 0, locals := 134 }
theorem ok_X5_parse : CalOk yX5_parse cX5_parse 4 (some .int) 0 := ⟨⟨by decide +kernel, by decide +kernel⟩, by decide +kernel, q_214, q_1⟩
theorem vi_X5_parse : VirOk yX5_parse := ⟨q_212, q_213⟩
def rm_X5_partner : Room := { frames := 5, cells := 0, slots := 0, locals := 121 }
theorem ok_X5_partner : CalOk yX5_partner cX5_partner 8 (some .int) 2 := ⟨⟨by decide +kernel, by decide +kernel⟩, by decide +kernel, q_846, q_1⟩
theorem vi_X5_partner : VirOk yX5_partner := ⟨q_844, q_845⟩
def rm_X5_pitch : Room := { frames := 3, cells := 0, slots := 0, locals := 71 }
theorem ok_X5_pitch : CalOk yX5_pitch cX5_pitch 5 (some .int) 3 := ⟨⟨by decide +kernel, by decide +kernel⟩, by decide +kernel, q_647, q_1⟩
theorem vi_X5_pitch : VirOk yX5_pitch := ⟨q_645, q_646⟩
def rm_X5_placeOf : Room := { frames := 1, cells := 0, slots := 0, locals := 22 }
theorem ok_X5_placeOf : CalOk yX5_placeOf cX5_placeOf 4 (some .int) 1 := ⟨⟨by decide +kernel, by decide +kernel⟩, by decide +kernel, q_865, q_1⟩
theorem vi_X5_placeOf : VirOk yX5_placeOf := ⟨q_864, qs_17⟩
def rm_X5_point : Room := { frames := 1, cells := 0, slots := 0, locals := 21 }
theorem ok_X5_point : CalOk yX5_point cX5_point 4 (some .int) 2 := ⟨⟨by decide +kernel, by decide +kernel⟩, by decide +kernel, q_747, q_1⟩
theorem vi_X5_point : VirOk yX5_point := ⟨q_745, q_746⟩
def rm_X5_quality : Room := { frames := 6, cells := 0, slots := 0, locals := 150 }
theorem ok_X5_quality : CalOk yX5_quality cX5_quality 4 (some .int) 2 := ⟨⟨by decide +kernel, by decide +kernel⟩, by decide +kernel, q_795, q_1⟩
theorem vi_X5_quality : VirOk yX5_quality := ⟨q_793, q_794⟩
def rm_X5_ranked : Room := { frames := 6, cells := 0, slots := 0, locals := 150 }
theorem ok_X5_ranked : CalOk yX5_ranked cX5_ranked 4 (some .int) 1 := ⟨⟨by decide +kernel, by decide +kernel⟩, by decide +kernel, q_860, q_1⟩
theorem vi_X5_ranked : VirOk yX5_ranked := ⟨q_858, q_859⟩
def rm_X5_ranksBefore : Room := { frames := 0, cells := 0, slots := 0, locals := 0 }
theorem ok_X5_ranksBefore : CalOk yX5_ranksBefore cX5_ranksBefore 3 (some .boolean) 2 := ⟨⟨by decide +kernel, by decide +kernel⟩, by decide +kernel, q_869, q_1⟩
theorem vi_X5_ranksBefore : VirOk yX5_ranksBefore := ⟨q_868, qs_18⟩
def rm_X5_reading : Room := { frames := 2, cells := 0, slots := 0, locals := 43 }
theorem ok_X5_reading : CalOk yX5_reading cX5_reading 5 (some .int) 3 := ⟨⟨by decide +kernel, by decide +kernel⟩, by decide +kernel, q_628, q_1⟩
theorem vi_X5_reading : VirOk yX5_reading := ⟨q_626, q_627⟩
def rm_X5_removeGear : Room := { frames := 4, cells := 0, slots := 0, locals := 134 }
theorem ok_X5_removeGear : CalOk yX5_removeGear cX5_removeGear 2 (some .int) 1 := ⟨⟨by decide +kernel, by decide +kernel⟩, by decide +kernel, q_534, q_1⟩
theorem vi_X5_removeGear : VirOk yX5_removeGear := ⟨q_532, q_533⟩
def rm_X5_removeLine : Room := { frames := 4, cells := 0, slots := 0, locals := 134 }
theorem ok_X5_removeLine : CalOk yX5_removeLine cX5_removeLine 2 (some .int) 1 := ⟨⟨by decide +kernel, by decide +kernel⟩, by decide +kernel, q_732, q_1⟩
theorem vi_X5_removeLine : VirOk yX5_removeLine := ⟨q_730, q_731⟩
def rm_X5_requireClass : Room := { frames := 0, cells := 0, slots := 0, locals := 0 }
theorem ok_X5_requireClass : CalOk yX5_requireClass cX5_requireClass 1 (none) 1 := ⟨⟨by decide +kernel, by decide +kernel⟩, by decide +kernel, q_787, q_1⟩
def rm_X5_requireFlank : Room := { frames := 0, cells := 0, slots := 0, locals := 0 }
theorem ok_X5_requireFlank : CalOk yX5_requireFlank cX5_requireFlank 1 (none) 1 := ⟨⟨by decide +kernel, by decide +kernel⟩, by decide +kernel, q_638, q_1⟩
def rm_X5_requireGear : Room := { frames := 0, cells := 0, slots := 0, locals := 0 }
theorem ok_X5_requireGear : CalOk yX5_requireGear cX5_requireGear 2 ((some (.object "GearGauge$Gear"))) 1 := ⟨⟨by decide +kernel, by decide +kernel⟩, by decide +kernel, q_538, q_1⟩
theorem vi_X5_requireGear : VirOk yX5_requireGear := ⟨q_537, qs_13⟩
def rm_X5_requireLine : Room := { frames := 0, cells := 0, slots := 0, locals := 0 }
theorem ok_X5_requireLine : CalOk yX5_requireLine cX5_requireLine 2 ((some (.object "GearGauge$Line"))) 1 := ⟨⟨by decide +kernel, by decide +kernel⟩, by decide +kernel, q_722, q_1⟩
theorem vi_X5_requireLine : VirOk yX5_requireLine := ⟨q_721, qs_15⟩
def rm_X5_requirePoints : Room := { frames := 1, cells := 0, slots := 0, locals := 20 }
theorem ok_X5_requirePoints : CalOk yX5_requirePoints cX5_requirePoints 1 (none) 1 := ⟨⟨by decide +kernel, by decide +kernel⟩, by decide +kernel, q_758, q_1⟩
def rm_X5_requireReading : Room := { frames := 1, cells := 0, slots := 0, locals := 21 }
theorem ok_X5_requireReading : CalOk yX5_requireReading cX5_requireReading 3 (none) 3 := ⟨⟨by decide +kernel, by decide +kernel⟩, by decide +kernel, q_572, q_1⟩
def rm_X5_requireWhat : Room := { frames := 0, cells := 0, slots := 0, locals := 0 }
theorem ok_X5_requireWhat : CalOk yX5_requireWhat cX5_requireWhat 1 (none) 1 := ⟨⟨by decide +kernel, by decide +kernel⟩, by decide +kernel, q_701, q_1⟩
def rm_X5_root : Room := { frames := 0, cells := 0, slots := 0, locals := 0 }
theorem ok_X5_root : CalOk yX5_root cX5_root 3 (some .int) 1 := ⟨⟨by decide +kernel, by decide +kernel⟩, by decide +kernel, q_337, q_1⟩
def rm_X5_rounded : Room := { frames := 1, cells := 0, slots := 0, locals := 25 }
theorem ok_X5_rounded : CalOk yX5_rounded cX5_rounded 4 (some .int) 2 := ⟨⟨by decide +kernel, by decide +kernel⟩, by decide +kernel, q_356, q_1⟩
def rm_X5_save : Room := { frames := 3, cells := 0, slots := 0, locals := 112 }
theorem ok_X5_save : CalOk yX5_save cX5_save 3 (none) 0 := ⟨⟨by decide +kernel, by decide +kernel⟩, by decide +kernel, q_314, q_1⟩
theorem vi_X5_save : VirOk yX5_save := ⟨q_313, qs_7⟩
def rm_X5_setReading : Room := { frames := 4, cells := 0, slots := 0, locals := 134 }
theorem ok_X5_setReading : CalOk yX5_setReading cX5_setReading 7 (some .int) 4 := ⟨⟨by decide +kernel, by decide +kernel⟩, by decide +kernel, q_569, q_1⟩
theorem vi_X5_setReading : VirOk yX5_setReading := ⟨q_567, q_568⟩
def rm_X5_span : Room := { frames := 4, cells := 0, slots := 0, locals := 96 }
theorem ok_X5_span : CalOk yX5_span cX5_span 5 (some .int) 3 := ⟨⟨by decide +kernel, by decide +kernel⟩, by decide +kernel, q_654, q_1⟩
theorem vi_X5_span : VirOk yX5_span := ⟨q_652, q_653⟩
def rm_X5_thickness : Room := { frames := 5, cells := 0, slots := 0, locals := 116 }
theorem ok_X5_thickness : CalOk yX5_thickness cX5_thickness 4 (some .int) 2 := ⟨⟨by decide +kernel, by decide +kernel⟩, by decide +kernel, q_670, q_1⟩
theorem vi_X5_thickness : VirOk yX5_thickness := ⟨q_668, q_669⟩
def rm_X5_tolerance : Room := { frames := 2, cells := 0, slots := 0, locals := 48 }
theorem ok_X5_tolerance : CalOk yX5_tolerance cX5_tolerance 5 (some .int) 3 := ⟨⟨by decide +kernel, by decide +kernel⟩, by decide +kernel, q_784, q_1⟩
theorem vi_X5_tolerance : VirOk yX5_tolerance := ⟨q_782, q_783⟩
def rm_X5_turn : Room := { frames := 4, cells := 0, slots := 0, locals := 134 }
theorem ok_X5_turn : CalOk yX5_turn cX5_turn 4 (some .int) 2 := ⟨⟨by decide +kernel, by decide +kernel⟩, by decide +kernel, q_601, q_1⟩
theorem vi_X5_turn : VirOk yX5_turn := ⟨q_599, q_600⟩
def rm_X5_undo : Room := { frames := 3, cells := 0, slots := 0, locals := 112 }
theorem ok_X5_undo : CalOk yX5_undo cX5_undo 1 (some .int) 0 := ⟨⟨by decide +kernel, by decide +kernel⟩, by decide +kernel, q_884, q_1⟩
theorem vi_X5_undo : VirOk yX5_undo := ⟨q_882, q_883⟩
def rm_X6_addGear : Room := { frames := 2, cells := 0, slots := 0, locals := 46 }
theorem ok_X6_addGear : CalOk yX6_addGear cX6_addGear 3 (some .int) 2 := ⟨⟨by decide +kernel, by decide +kernel⟩, by decide +kernel, q_954, q_7⟩
theorem vi_X6_addGear : VirOk yX6_addGear := ⟨q_952, q_953⟩
def rm_X6_addLine : Room := { frames := 2, cells := 0, slots := 0, locals := 46 }
theorem ok_X6_addLine : CalOk yX6_addLine cX6_addLine 3 (some .int) 2 := ⟨⟨by decide +kernel, by decide +kernel⟩, by decide +kernel, q_1179, q_7⟩
theorem vi_X6_addLine : VirOk yX6_addLine := ⟨q_1177, q_1178⟩
def rm_X6_addPoint : Room := { frames := 2, cells := 0, slots := 0, locals := 46 }
theorem ok_X6_addPoint : CalOk yX6_addPoint cX6_addPoint 3 (some .int) 2 := ⟨⟨by decide +kernel, by decide +kernel⟩, by decide +kernel, q_1187, q_7⟩
theorem vi_X6_addPoint : VirOk yX6_addPoint := ⟨q_1185, q_1186⟩
def rm_X6_append : Room := { frames := 1, cells := 0, slots := 0, locals := 25 }
theorem ok_X6_append : CalOk yX6_append cX6_append 2 (some .int) 1 := ⟨⟨by decide +kernel, by decide +kernel⟩, by decide +kernel, q_1279, q_7⟩
theorem vi_X6_append : VirOk yX6_append := ⟨q_1277, q_1278⟩
def rm_X6_best : Room := { frames := 2, cells := 0, slots := 0, locals := 54 }
theorem ok_X6_best : CalOk yX6_best cX6_best 10 (some .long) 3 := ⟨⟨by decide +kernel, by decide +kernel⟩, by decide +kernel, q_1219, q_7⟩
theorem vi_X6_best : VirOk yX6_best := ⟨q_1217, q_1218⟩
def rm_X6_bestPhase : Room := { frames := 6, cells := 0, slots := 0, locals := 139 }
theorem ok_X6_bestPhase : CalOk yX6_bestPhase cX6_bestPhase 4 (some .int) 3 := ⟨⟨by decide +kernel, by decide +kernel⟩, by decide +kernel, q_1255, q_7⟩
theorem vi_X6_bestPhase : VirOk yX6_bestPhase := ⟨q_1253, q_1254⟩
def rm_X6_classOf : Room := { frames := 7, cells := 0, slots := 0, locals := 160 }
theorem ok_X6_classOf : CalOk yX6_classOf cX6_classOf 7 (some .int) 2 := ⟨⟨by decide +kernel, by decide +kernel⟩, by decide +kernel, q_1077, q_7⟩
theorem vi_X6_classOf : VirOk yX6_classOf := ⟨q_1076, qs_37⟩
def rm_X6_clearText : Room := { frames := 1, cells := 0, slots := 0, locals := 21 }
theorem ok_X6_clearText : CalOk yX6_clearText cX6_clearText 2 (some .int) 0 := ⟨⟨by decide +kernel, by decide +kernel⟩, by decide +kernel, q_1284, q_7⟩
theorem vi_X6_clearText : VirOk yX6_clearText := ⟨q_1282, q_1283⟩
def rm_X6_closing : Room := { frames := 2, cells := 0, slots := 0, locals := 45 }
theorem ok_X6_closing : CalOk yX6_closing cX6_closing 3 (some .int) 2 := ⟨⟨by decide +kernel, by decide +kernel⟩, by decide +kernel, q_1041, q_7⟩
theorem vi_X6_closing : VirOk yX6_closing := ⟨q_1040, qs_31⟩
def rm_X6_common : Room := { frames := 1, cells := 0, slots := 0, locals := 29 }
theorem ok_X6_common : CalOk yX6_common cX6_common 2 (some .int) 2 := ⟨⟨by decide +kernel, by decide +kernel⟩, by decide +kernel, q_1251, q_7⟩
def rm_X6_decide : Room := { frames := 7, cells := 0, slots := 0, locals := 160 }
theorem ok_X6_decide : CalOk yX6_decide cX6_decide 9 (some .int) 3 := ⟨⟨by decide +kernel, by decide +kernel⟩, by decide +kernel, q_1235, q_7⟩
theorem vi_X6_decide : VirOk yX6_decide := ⟨q_1233, q_1234⟩
def rm_X6_deviation : Room := { frames := 7, cells := 0, slots := 0, locals := 160 }
theorem ok_X6_deviation : CalOk yX6_deviation cX6_deviation 3 (some .int) 2 := ⟨⟨by decide +kernel, by decide +kernel⟩, by decide +kernel, q_1171, q_7⟩
theorem vi_X6_deviation : VirOk yX6_deviation := ⟨q_1169, q_1170⟩
def rm_X6_deviationOf : Room := { frames := 6, cells := 0, slots := 0, locals := 138 }
theorem ok_X6_deviationOf : CalOk yX6_deviationOf cX6_deviationOf 3 (some .int) 2 := ⟨⟨by decide +kernel, by decide +kernel⟩, by decide +kernel, q_1081, q_7⟩
theorem vi_X6_deviationOf : VirOk yX6_deviationOf := ⟨q_1080, qs_38⟩
def rm_X6_digest : Room := { frames := 10, cells := 0, slots := 0, locals := 231 }
theorem ok_X6_digest : CalOk yX6_digest cX6_digest 3 (some .long) 0 := ⟨⟨by decide +kernel, by decide +kernel⟩, by decide +kernel, q_1320, q_7⟩
theorem vi_X6_digest : VirOk yX6_digest := ⟨q_1318, q_1319⟩
def rm_X6_divisor : Room := { frames := 0, cells := 0, slots := 0, locals := 0 }
theorem ok_X6_divisor : CalOk yX6_divisor cX6_divisor 10 (some .long) 2 := ⟨⟨by decide +kernel, by decide +kernel⟩, by decide +kernel, q_1222, q_7⟩
def rm_X6_dropsLine : Room := { frames := 0, cells := 0, slots := 0, locals := 0 }
theorem ok_X6_dropsLine : CalOk yX6_dropsLine cX6_dropsLine 3 (none) 1 := ⟨⟨by decide +kernel, by decide +kernel⟩, by decide +kernel, q_999, q_7⟩
theorem vi_X6_dropsLine : VirOk yX6_dropsLine := ⟨q_998, qs_26⟩
def rm_X6_eccentricity : Room := { frames := 2, cells := 0, slots := 0, locals := 46 }
theorem ok_X6_eccentricity : CalOk yX6_eccentricity cX6_eccentricity 6 (some .double) 1 := ⟨⟨by decide +kernel, by decide +kernel⟩, by decide +kernel, q_1166, q_7⟩
theorem vi_X6_eccentricity : VirOk yX6_eccentricity := ⟨q_1164, q_1165⟩
def rm_X6_ends : Room := { frames := 1, cells := 0, slots := 0, locals := 21 }
theorem ok_X6_ends : CalOk yX6_ends cX6_ends 3 (some .int) 1 := ⟨⟨by decide +kernel, by decide +kernel⟩, by decide +kernel, q_979, q_7⟩
theorem vi_X6_ends : VirOk yX6_ends := ⟨q_978, qs_22⟩
def rm_X6_errorAt : Room := { frames := 2, cells := 0, slots := 0, locals := 50 }
theorem ok_X6_errorAt : CalOk yX6_errorAt cX6_errorAt 9 (some .int) 3 := ⟨⟨by decide +kernel, by decide +kernel⟩, by decide +kernel, q_1248, q_7⟩
theorem vi_X6_errorAt : VirOk yX6_errorAt := ⟨q_1247, qs_55⟩
def rm_X6_fails : Room := { frames := 0, cells := 0, slots := 0, locals := 0 }
theorem ok_X6_fails : CalOk yX6_fails cX6_fails 2 (some .int) 1 := ⟨⟨by decide +kernel, by decide +kernel⟩, by decide +kernel, q_967, q_7⟩
theorem vi_X6_fails : VirOk yX6_fails := ⟨q_966, qs_19⟩
def rm_X6_fewest : Room := { frames := 0, cells := 0, slots := 0, locals := 0 }
theorem ok_X6_fewest : CalOk yX6_fewest cX6_fewest 1 (some .int) 1 := ⟨⟨by decide +kernel, by decide +kernel⟩, by decide +kernel, q_1308, q_7⟩
def rm_X6_fill : Room := { frames := 3, cells := 0, slots := 0, locals := 67 }
theorem ok_X6_fill : CalOk yX6_fill cX6_fill 8 (some .int) 3 := ⟨⟨by decide +kernel, by decide +kernel⟩, by decide +kernel, q_1032, q_7⟩
theorem vi_X6_fill : VirOk yX6_fill := ⟨q_1030, q_1031⟩
def rm_X6_fits : Room := { frames := 1, cells := 0, slots := 0, locals := 22 }
theorem ok_X6_fits : CalOk yX6_fits cX6_fits 13 (none) 1 := ⟨⟨by decide +kernel, by decide +kernel⟩, by decide +kernel, q_1122, q_7⟩
theorem vi_X6_fits : VirOk yX6_fits := ⟨q_1121, qs_46⟩
def rm_X6_floor : Room := { frames := 0, cells := 0, slots := 0, locals := 0 }
theorem ok_X6_floor : CalOk yX6_floor cX6_floor 6 (some .long) 2 := ⟨⟨by decide +kernel, by decide +kernel⟩, by decide +kernel, q_1099, q_7⟩
def rm_X6_gear : Room := { frames := 9, cells := 0, slots := 0, locals := 208 }
theorem ok_X6_gear : CalOk yX6_gear cX6_gear 3 (some .int) 2 := ⟨⟨by decide +kernel, by decide +kernel⟩, by decide +kernel, q_1061, q_7⟩
theorem vi_X6_gear : VirOk yX6_gear := ⟨q_1059, q_1060⟩
def rm_X6_gears : Room := { frames := 1, cells := 0, slots := 0, locals := 21 }
theorem ok_X6_gears : CalOk yX6_gears cX6_gears 1 (some .int) 0 := ⟨⟨by decide +kernel, by decide +kernel⟩, by decide +kernel, q_1057, q_7⟩
theorem vi_X6_gears : VirOk yX6_gears := ⟨q_1055, q_1056⟩
def rm_X6_goes : Room := { frames := 2, cells := 0, slots := 0, locals := 45 }
theorem ok_X6_goes : CalOk yX6_goes cX6_goes 10 (some .boolean) 3 := ⟨⟨by decide +kernel, by decide +kernel⟩, by decide +kernel, q_1049, q_7⟩
theorem vi_X6_goes : VirOk yX6_goes := ⟨q_1048, qs_32⟩
def rm_X6_greatestOfLines : Room := { frames := 3, cells := 0, slots := 0, locals := 84 }
theorem ok_X6_greatestOfLines : CalOk yX6_greatestOfLines cX6_greatestOfLines 7 (some .int) 3 := ⟨⟨by decide +kernel, by decide +kernel⟩, by decide +kernel, q_1114, q_7⟩
theorem vi_X6_greatestOfLines : VirOk yX6_greatestOfLines := ⟨q_1113, qs_44⟩
def rm_X6_greatestPitch : Room := { frames := 5, cells := 0, slots := 0, locals := 113 }
theorem ok_X6_greatestPitch : CalOk yX6_greatestPitch cX6_greatestPitch 6 (some .int) 1 := ⟨⟨by decide +kernel, by decide +kernel⟩, by decide +kernel, q_1085, q_7⟩
theorem vi_X6_greatestPitch : VirOk yX6_greatestPitch := ⟨q_1084, qs_39⟩
def rm_X6_here : Room := { frames := 0, cells := 0, slots := 0, locals := 0 }
theorem ok_X6_here : CalOk yX6_here cX6_here 1 (some .int) 0 := ⟨⟨by decide +kernel, by decide +kernel⟩, by decide +kernel, q_1296, q_7⟩
theorem vi_X6_here : VirOk yX6_here := ⟨q_1295, qs_59⟩
def rm_X6_hold : Room := { frames := 0, cells := 0, slots := 0, locals := 0 }
theorem ok_X6_hold : CalOk yX6_hold cX6_hold 2 (none) 0 := ⟨⟨by decide +kernel, by decide +kernel⟩, by decide +kernel, q_971, q_7⟩
theorem vi_X6_hold : VirOk yX6_hold := ⟨q_970, qs_20⟩
def rm_X6_in : Room := { frames := 0, cells := 0, slots := 0, locals := 0 }
theorem ok_X6_in : CalOk yX6_in cX6_in 6 (some .boolean) 3 := ⟨⟨by decide +kernel, by decide +kernel⟩, by decide +kernel, q_962, q_7⟩
def rm_X6_index : Room := { frames := 4, cells := 0, slots := 0, locals := 90 }
theorem ok_X6_index : CalOk yX6_index cX6_index 4 (some .int) 3 := ⟨⟨by decide +kernel, by decide +kernel⟩, by decide +kernel, q_1141, q_7⟩
theorem vi_X6_index : VirOk yX6_index := ⟨q_1139, q_1140⟩
def rm_X6_indexOf : Room := { frames := 3, cells := 0, slots := 0, locals := 67 }
theorem ok_X6_indexOf : CalOk yX6_indexOf cX6_indexOf 4 (some .int) 3 := ⟨⟨by decide +kernel, by decide +kernel⟩, by decide +kernel, q_1093, q_7⟩
theorem vi_X6_indexOf : VirOk yX6_indexOf := ⟨q_1092, qs_41⟩
def rm_X6_indexRange : Room := { frames := 4, cells := 0, slots := 0, locals := 90 }
theorem ok_X6_indexRange : CalOk yX6_indexRange cX6_indexRange 7 (some .int) 2 := ⟨⟨by decide +kernel, by decide +kernel⟩, by decide +kernel, q_1106, q_7⟩
theorem vi_X6_indexRange : VirOk yX6_indexRange := ⟨q_1105, qs_42⟩
def rm_X6_init : Room := { frames := 0, cells := 0, slots := 0, locals := 0 }
theorem ok_X6_init : CalOk yX6_init cX6_init 1 (none) 0 := ⟨⟨by decide +kernel, by decide +kernel⟩, by decide +kernel, q_890, q_7⟩
def rm_X6_isAhead : Room := { frames := 8, cells := 0, slots := 0, locals := 186 }
theorem ok_X6_isAhead : CalOk yX6_isAhead cX6_isAhead 7 (some .boolean) 2 := ⟨⟨by decide +kernel, by decide +kernel⟩, by decide +kernel, q_1275, q_7⟩
theorem vi_X6_isAhead : VirOk yX6_isAhead := ⟨q_1274, qs_57⟩
def rm_X6_isCommand : Room := { frames := 2, cells := 0, slots := 0, locals := 48 }
theorem ok_X6_isCommand : CalOk yX6_isCommand cX6_isCommand 2 (some .boolean) 0 := ⟨⟨by decide +kernel, by decide +kernel⟩, by decide +kernel, q_1292, q_7⟩
theorem vi_X6_isCommand : VirOk yX6_isCommand := ⟨q_1291, qs_58⟩
def rm_X6_isDeviation : Room := { frames := 1, cells := 0, slots := 0, locals := 25 }
theorem ok_X6_isDeviation : CalOk yX6_isDeviation cX6_isDeviation 1 (some .boolean) 1 := ⟨⟨by decide +kernel, by decide +kernel⟩, by decide +kernel, q_1174, q_7⟩
def rm_X6_isDone : Room := { frames := 2, cells := 0, slots := 0, locals := 46 }
theorem ok_X6_isDone : CalOk yX6_isDone cX6_isDone 5 (some .boolean) 0 := ⟨⟨by decide +kernel, by decide +kernel⟩, by decide +kernel, q_1312, q_7⟩
theorem vi_X6_isDone : VirOk yX6_isDone := ⟨q_1311, qs_61⟩
def rm_X6_isFlank : Room := { frames := 2, cells := 0, slots := 0, locals := 46 }
theorem ok_X6_isFlank : CalOk yX6_isFlank cX6_isFlank 3 (some .boolean) 2 := ⟨⟨by decide +kernel, by decide +kernel⟩, by decide +kernel, q_1145, q_7⟩
theorem vi_X6_isFlank : VirOk yX6_isFlank := ⟨q_1144, qs_49⟩
def rm_X6_isGear : Room := { frames := 1, cells := 0, slots := 0, locals := 25 }
theorem ok_X6_isGear : CalOk yX6_isGear cX6_isGear 2 (some .boolean) 1 := ⟨⟨by decide +kernel, by decide +kernel⟩, by decide +kernel, q_991, q_7⟩
theorem vi_X6_isGear : VirOk yX6_isGear := ⟨q_990, qs_24⟩
def rm_X6_isLine : Room := { frames := 1, cells := 0, slots := 0, locals := 25 }
theorem ok_X6_isLine : CalOk yX6_isLine cX6_isLine 2 (some .boolean) 1 := ⟨⟨by decide +kernel, by decide +kernel⟩, by decide +kernel, q_1191, q_7⟩
theorem vi_X6_isLine : VirOk yX6_isLine := ⟨q_1190, qs_52⟩
def rm_X6_isNumber : Room := { frames := 1, cells := 0, slots := 0, locals := 25 }
theorem ok_X6_isNumber : CalOk yX6_isNumber cX6_isNumber 4 (some .boolean) 0 := ⟨⟨by decide +kernel, by decide +kernel⟩, by decide +kernel, q_1300, q_7⟩
theorem vi_X6_isNumber : VirOk yX6_isNumber := ⟨q_1299, qs_60⟩
def rm_X6_isReading : Room := { frames := 2, cells := 0, slots := 0, locals := 46 }
theorem ok_X6_isReading : CalOk yX6_isReading cX6_isReading 4 (some .boolean) 3 := ⟨⟨by decide +kernel, by decide +kernel⟩, by decide +kernel, q_1007, q_7⟩
theorem vi_X6_isReading : VirOk yX6_isReading := ⟨q_1006, qs_27⟩
def rm_X6_isSize : Room := { frames := 1, cells := 0, slots := 0, locals := 25 }
theorem ok_X6_isSize : CalOk yX6_isSize cX6_isSize 2 (some .boolean) 2 := ⟨⟨by decide +kernel, by decide +kernel⟩, by decide +kernel, q_957, q_7⟩
def rm_X6_isValue : Room := { frames := 1, cells := 0, slots := 0, locals := 25 }
theorem ok_X6_isValue : CalOk yX6_isValue cX6_isValue 1 (some .boolean) 1 := ⟨⟨by decide +kernel, by decide +kernel⟩, by decide +kernel, q_1019, q_7⟩
def rm_X6_lays : Room := { frames := 4, cells := 0, slots := 0, locals := 90 }
theorem ok_X6_lays : CalOk yX6_lays cX6_lays 5 (none) 3 := ⟨⟨by decide +kernel, by decide +kernel⟩, by decide +kernel, q_1244, q_7⟩
theorem vi_X6_lays : VirOk yX6_lays := ⟨q_1243, qs_54⟩
def rm_X6_line : Room := { frames := 2, cells := 0, slots := 0, locals := 46 }
theorem ok_X6_line : CalOk yX6_line cX6_line 3 (some .int) 2 := ⟨⟨by decide +kernel, by decide +kernel⟩, by decide +kernel, q_1207, q_7⟩
theorem vi_X6_line : VirOk yX6_line := ⟨q_1205, q_1206⟩
def rm_X6_lineDeviation : Room := { frames := 3, cells := 0, slots := 0, locals := 84 }
theorem ok_X6_lineDeviation : CalOk yX6_lineDeviation cX6_lineDeviation 3 (some .int) 2 := ⟨⟨by decide +kernel, by decide +kernel⟩, by decide +kernel, q_1215, q_7⟩
theorem vi_X6_lineDeviation : VirOk yX6_lineDeviation := ⟨q_1213, q_1214⟩
def rm_X6_lineValue : Room := { frames := 2, cells := 0, slots := 0, locals := 54 }
theorem ok_X6_lineValue : CalOk yX6_lineValue cX6_lineValue 11 (some .int) 2 := ⟨⟨by decide +kernel, by decide +kernel⟩, by decide +kernel, q_1118, q_7⟩
theorem vi_X6_lineValue : VirOk yX6_lineValue := ⟨q_1117, qs_45⟩
def rm_X6_lines : Room := { frames := 1, cells := 0, slots := 0, locals := 21 }
theorem ok_X6_lines : CalOk yX6_lines cX6_lines 1 (some .int) 0 := ⟨⟨by decide +kernel, by decide +kernel⟩, by decide +kernel, q_1203, q_7⟩
theorem vi_X6_lines : VirOk yX6_lines := ⟨q_1201, q_1202⟩
def rm_X6_linesOf : Room := { frames := 1, cells := 0, slots := 0, locals := 22 }
theorem ok_X6_linesOf : CalOk yX6_linesOf cX6_linesOf 4 (some .int) 1 := ⟨⟨by decide +kernel, by decide +kernel⟩, by decide +kernel, q_1073, q_7⟩
theorem vi_X6_linesOf : VirOk yX6_linesOf := ⟨q_1072, qs_36⟩
def rm_X6_longOf : Room := { frames := 1, cells := 0, slots := 0, locals := 21 }
theorem ok_X6_longOf : CalOk yX6_longOf cX6_longOf 3 (some .int) 2 := ⟨⟨by decide +kernel, by decide +kernel⟩, by decide +kernel, q_1012, q_7⟩
theorem vi_X6_longOf : VirOk yX6_longOf := ⟨q_1011, qs_28⟩
def rm_X6_mean : Room := { frames := 7, cells := 0, slots := 0, locals := 160 }
theorem ok_X6_mean : CalOk yX6_mean cX6_mean 4 (some .double) 1 := ⟨⟨by decide +kernel, by decide +kernel⟩, by decide +kernel, q_1267, q_7⟩
theorem vi_X6_mean : VirOk yX6_mean := ⟨q_1265, q_1266⟩
def rm_X6_mesh : Room := { frames := 5, cells := 0, slots := 0, locals := 114 }
theorem ok_X6_mesh : CalOk yX6_mesh cX6_mesh 5 (some .int) 4 := ⟨⟨by decide +kernel, by decide +kernel⟩, by decide +kernel, q_1240, q_7⟩
theorem vi_X6_mesh : VirOk yX6_mesh := ⟨q_1238, q_1239⟩
def rm_X6_mix : Room := { frames := 0, cells := 0, slots := 0, locals := 0 }
theorem ok_X6_mix : CalOk yX6_mix cX6_mix 3 (none) 1 := ⟨⟨by decide +kernel, by decide +kernel⟩, by decide +kernel, q_1325, q_7⟩
theorem vi_X6_mix : VirOk yX6_mix := ⟨q_1324, qs_62⟩
def rm_X6_mixGear : Room := { frames := 9, cells := 0, slots := 0, locals := 208 }
theorem ok_X6_mixGear : CalOk yX6_mixGear cX6_mixGear 4 (none) 1 := ⟨⟨by decide +kernel, by decide +kernel⟩, by decide +kernel, q_1330, q_7⟩
theorem vi_X6_mixGear : VirOk yX6_mixGear := ⟨q_1329, qs_63⟩
def rm_X6_moduleOf : Room := { frames := 0, cells := 0, slots := 0, locals := 0 }
theorem ok_X6_moduleOf : CalOk yX6_moduleOf cX6_moduleOf 2 (some .int) 1 := ⟨⟨by decide +kernel, by decide +kernel⟩, by decide +kernel, q_1069, q_7⟩
theorem vi_X6_moduleOf : VirOk yX6_moduleOf := ⟨q_1068, qs_35⟩
def rm_X6_most : Room := { frames := 0, cells := 0, slots := 0, locals := 0 }
theorem ok_X6_most : CalOk yX6_most cX6_most 1 (some .int) 1 := ⟨⟨by decide +kernel, by decide +kernel⟩, by decide +kernel, q_1305, q_7⟩
def rm_X6_of : Room := { frames := 0, cells := 0, slots := 0, locals := 0 }
theorem ok_X6_of : CalOk yX6_of cX6_of 3 (some .int) 2 := ⟨⟨by decide +kernel, by decide +kernel⟩, by decide +kernel, q_995, q_7⟩
theorem vi_X6_of : VirOk yX6_of := ⟨q_994, qs_25⟩
def rm_X6_parse : Room := { frames := 3, cells := 0, slots := 0, locals := 70 }
theorem ok_X6_parse : CalOk yX6_parse cX6_parse 3 (some .int) 0 := ⟨⟨by decide +kernel, by decide +kernel⟩, by decide +kernel, q_1288, q_7⟩
theorem vi_X6_parse : VirOk yX6_parse := ⟨q_1286, q_1287⟩
def rm_X6_partner : Room := { frames := 6, cells := 0, slots := 0, locals := 139 }
theorem ok_X6_partner : CalOk yX6_partner cX6_partner 8 (some .int) 2 := ⟨⟨by decide +kernel, by decide +kernel⟩, by decide +kernel, q_1263, q_7⟩
theorem vi_X6_partner : VirOk yX6_partner := ⟨q_1261, q_1262⟩
def rm_X6_phaseOf : Room := { frames := 5, cells := 0, slots := 0, locals := 114 }
theorem ok_X6_phaseOf : CalOk yX6_phaseOf cX6_phaseOf 6 (some .int) 3 := ⟨⟨by decide +kernel, by decide +kernel⟩, by decide +kernel, q_1259, q_7⟩
theorem vi_X6_phaseOf : VirOk yX6_phaseOf := ⟨q_1258, qs_56⟩
def rm_X6_pitch : Room := { frames := 5, cells := 0, slots := 0, locals := 113 }
theorem ok_X6_pitch : CalOk yX6_pitch cX6_pitch 4 (some .int) 3 := ⟨⟨by decide +kernel, by decide +kernel⟩, by decide +kernel, q_1149, q_7⟩
theorem vi_X6_pitch : VirOk yX6_pitch := ⟨q_1147, q_1148⟩
def rm_X6_pitchOf : Room := { frames := 4, cells := 0, slots := 0, locals := 90 }
theorem ok_X6_pitchOf : CalOk yX6_pitchOf cX6_pitchOf 4 (some .int) 3 := ⟨⟨by decide +kernel, by decide +kernel⟩, by decide +kernel, q_1089, q_7⟩
theorem vi_X6_pitchOf : VirOk yX6_pitchOf := ⟨q_1088, qs_40⟩
def rm_X6_placeOf : Room := { frames := 0, cells := 0, slots := 0, locals := 0 }
theorem ok_X6_placeOf : CalOk yX6_placeOf cX6_placeOf 3 (some .int) 3 := ⟨⟨by decide +kernel, by decide +kernel⟩, by decide +kernel, q_1028, q_7⟩
def rm_X6_point : Room := { frames := 2, cells := 0, slots := 0, locals := 46 }
theorem ok_X6_point : CalOk yX6_point cX6_point 3 (some .int) 2 := ⟨⟨by decide +kernel, by decide +kernel⟩, by decide +kernel, q_1211, q_7⟩
theorem vi_X6_point : VirOk yX6_point := ⟨q_1209, q_1210⟩
def rm_X6_putsGear : Room := { frames := 0, cells := 0, slots := 0, locals := 0 }
theorem ok_X6_putsGear : CalOk yX6_putsGear cX6_putsGear 5 (none) 2 := ⟨⟨by decide +kernel, by decide +kernel⟩, by decide +kernel, q_975, q_7⟩
theorem vi_X6_putsGear : VirOk yX6_putsGear := ⟨q_974, qs_21⟩
def rm_X6_putsLine : Room := { frames := 0, cells := 0, slots := 0, locals := 0 }
theorem ok_X6_putsLine : CalOk yX6_putsLine cX6_putsLine 4 (none) 2 := ⟨⟨by decide +kernel, by decide +kernel⟩, by decide +kernel, q_1183, q_7⟩
theorem vi_X6_putsLine : VirOk yX6_putsLine := ⟨q_1182, qs_51⟩
def rm_X6_putsPoint : Room := { frames := 0, cells := 0, slots := 0, locals := 0 }
theorem ok_X6_putsPoint : CalOk yX6_putsPoint cX6_putsPoint 4 (none) 2 := ⟨⟨by decide +kernel, by decide +kernel⟩, by decide +kernel, q_1195, q_7⟩
theorem vi_X6_putsPoint : VirOk yX6_putsPoint := ⟨q_1194, qs_53⟩
def rm_X6_quality : Room := { frames := 8, cells := 0, slots := 0, locals := 186 }
theorem ok_X6_quality : CalOk yX6_quality cX6_quality 3 (some .int) 2 := ⟨⟨by decide +kernel, by decide +kernel⟩, by decide +kernel, q_1231, q_7⟩
theorem vi_X6_quality : VirOk yX6_quality := ⟨q_1229, q_1230⟩
def rm_X6_ranked : Room := { frames := 9, cells := 0, slots := 0, locals := 212 }
theorem ok_X6_ranked : CalOk yX6_ranked cX6_ranked 6 (some .int) 1 := ⟨⟨by decide +kernel, by decide +kernel⟩, by decide +kernel, q_1271, q_7⟩
theorem vi_X6_ranked : VirOk yX6_ranked := ⟨q_1269, q_1270⟩
def rm_X6_reading : Room := { frames := 3, cells := 0, slots := 0, locals := 69 }
theorem ok_X6_reading : CalOk yX6_reading cX6_reading 4 (some .int) 3 := ⟨⟨by decide +kernel, by decide +kernel⟩, by decide +kernel, q_1137, q_7⟩
theorem vi_X6_reading : VirOk yX6_reading := ⟨q_1135, q_1136⟩
def rm_X6_readingOf : Room := { frames := 1, cells := 0, slots := 0, locals := 22 }
theorem ok_X6_readingOf : CalOk yX6_readingOf cX6_readingOf 4 (some .int) 3 := ⟨⟨by decide +kernel, by decide +kernel⟩, by decide +kernel, q_1025, q_7⟩
theorem vi_X6_readingOf : VirOk yX6_readingOf := ⟨q_1024, qs_30⟩
def rm_X6_removeGear : Room := { frames := 2, cells := 0, slots := 0, locals := 46 }
theorem ok_X6_removeGear : CalOk yX6_removeGear cX6_removeGear 4 (some .int) 1 := ⟨⟨by decide +kernel, by decide +kernel⟩, by decide +kernel, q_987, q_7⟩
theorem vi_X6_removeGear : VirOk yX6_removeGear := ⟨q_985, q_986⟩
def rm_X6_removeLine : Room := { frames := 2, cells := 0, slots := 0, locals := 46 }
theorem ok_X6_removeLine : CalOk yX6_removeLine cX6_removeLine 2 (some .int) 1 := ⟨⟨by decide +kernel, by decide +kernel⟩, by decide +kernel, q_1199, q_7⟩
theorem vi_X6_removeLine : VirOk yX6_removeLine := ⟨q_1197, q_1198⟩
def rm_X6_restore : Room := { frames := 0, cells := 0, slots := 0, locals := 0 }
theorem ok_X6_restore : CalOk yX6_restore cX6_restore 2 (none) 0 := ⟨⟨by decide +kernel, by decide +kernel⟩, by decide +kernel, q_1053, q_7⟩
theorem vi_X6_restore : VirOk yX6_restore := ⟨q_1052, qs_33⟩
def rm_X6_root : Room := { frames := 0, cells := 0, slots := 0, locals := 0 }
theorem ok_X6_root : CalOk yX6_root cX6_root 2 (some .int) 1 := ⟨⟨by decide +kernel, by decide +kernel⟩, by decide +kernel, q_1133, q_7⟩
def rm_X6_round : Room := { frames := 1, cells := 0, slots := 0, locals := 25 }
theorem ok_X6_round : CalOk yX6_round cX6_round 4 (some .int) 2 := ⟨⟨by decide +kernel, by decide +kernel⟩, by decide +kernel, q_1096, q_7⟩
def rm_X6_runout : Room := { frames := 2, cells := 0, slots := 0, locals := 45 }
theorem ok_X6_runout : CalOk yX6_runout cX6_runout 6 (some .int) 1 := ⟨⟨by decide +kernel, by decide +kernel⟩, by decide +kernel, q_1110, q_7⟩
theorem vi_X6_runout : VirOk yX6_runout := ⟨q_1109, qs_43⟩
def rm_X6_setReading : Room := { frames := 3, cells := 0, slots := 0, locals := 69 }
theorem ok_X6_setReading : CalOk yX6_setReading cX6_setReading 6 (some .int) 4 := ⟨⟨by decide +kernel, by decide +kernel⟩, by decide +kernel, q_1003, q_7⟩
theorem vi_X6_setReading : VirOk yX6_setReading := ⟨q_1001, q_1002⟩
def rm_X6_size : Room := { frames := 0, cells := 0, slots := 0, locals := 0 }
theorem ok_X6_size : CalOk yX6_size cX6_size 1 (some .int) 1 := ⟨⟨by decide +kernel, by decide +kernel⟩, by decide +kernel, q_1102, q_7⟩
def rm_X6_span : Room := { frames := 5, cells := 0, slots := 0, locals := 113 }
theorem ok_X6_span : CalOk yX6_span cX6_span 9 (some .int) 3 := ⟨⟨by decide +kernel, by decide +kernel⟩, by decide +kernel, q_1153, q_7⟩
theorem vi_X6_span : VirOk yX6_span := ⟨q_1151, q_1152⟩
def rm_X6_teeth : Room := { frames := 0, cells := 0, slots := 0, locals := 0 }
theorem ok_X6_teeth : CalOk yX6_teeth cX6_teeth 2 (some .int) 1 := ⟨⟨by decide +kernel, by decide +kernel⟩, by decide +kernel, q_1016, q_7⟩
theorem vi_X6_teeth : VirOk yX6_teeth := ⟨q_1015, qs_29⟩
def rm_X6_tells : Room := { frames := 0, cells := 0, slots := 0, locals := 0 }
theorem ok_X6_tells : CalOk yX6_tells cX6_tells 2 (some .int) 1 := ⟨⟨by decide +kernel, by decide +kernel⟩, by decide +kernel, q_983, q_7⟩
theorem vi_X6_tells : VirOk yX6_tells := ⟨q_982, qs_23⟩
def rm_X6_thick : Room := { frames := 4, cells := 0, slots := 0, locals := 90 }
theorem ok_X6_thick : CalOk yX6_thick cX6_thick 3 (some .int) 2 := ⟨⟨by decide +kernel, by decide +kernel⟩, by decide +kernel, q_1162, q_7⟩
theorem vi_X6_thick : VirOk yX6_thick := ⟨q_1161, qs_50⟩
def rm_X6_thickness : Room := { frames := 5, cells := 0, slots := 0, locals := 112 }
theorem ok_X6_thickness : CalOk yX6_thickness cX6_thickness 7 (some .int) 2 := ⟨⟨by decide +kernel, by decide +kernel⟩, by decide +kernel, q_1157, q_7⟩
theorem vi_X6_thickness : VirOk yX6_thickness := ⟨q_1155, q_1156⟩
def rm_X6_thrown : Room := { frames := 0, cells := 0, slots := 0, locals := 0 }
theorem ok_X6_thrown : CalOk yX6_thrown cX6_thrown 1 (some .int) 0 := ⟨⟨by decide +kernel, by decide +kernel⟩, by decide +kernel, q_950, q_7⟩
theorem vi_X6_thrown : VirOk yX6_thrown := ⟨q_948, q_949⟩
def rm_X6_told : Room := { frames := 8, cells := 0, slots := 0, locals := 186 }
theorem ok_X6_told : CalOk yX6_told cX6_told 3 (some .int) 2 := ⟨⟨by decide +kernel, by decide +kernel⟩, by decide +kernel, q_1065, q_7⟩
theorem vi_X6_told : VirOk yX6_told := ⟨q_1064, qs_34⟩
def rm_X6_tolerance : Room := { frames := 3, cells := 0, slots := 0, locals := 70 }
theorem ok_X6_tolerance : CalOk yX6_tolerance cX6_tolerance 4 (some .int) 3 := ⟨⟨by decide +kernel, by decide +kernel⟩, by decide +kernel, q_1226, q_7⟩
theorem vi_X6_tolerance : VirOk yX6_tolerance := ⟨q_1224, q_1225⟩
def rm_X6_toleranceOf : Room := { frames := 2, cells := 0, slots := 0, locals := 45 }
theorem ok_X6_toleranceOf : CalOk yX6_toleranceOf cX6_toleranceOf 6 (some .int) 3 := ⟨⟨by decide +kernel, by decide +kernel⟩, by decide +kernel, q_1126, q_7⟩
theorem vi_X6_toleranceOf : VirOk yX6_toleranceOf := ⟨q_1125, qs_47⟩
def rm_X6_toleranceOfFive : Room := { frames := 1, cells := 0, slots := 0, locals := 21 }
theorem ok_X6_toleranceOfFive : CalOk yX6_toleranceOfFive cX6_toleranceOfFive 5 (some .int) 2 := ⟨⟨by decide +kernel, by decide +kernel⟩, by decide +kernel, q_1130, q_7⟩
theorem vi_X6_toleranceOfFive : VirOk yX6_toleranceOfFive := ⟨q_1129, qs_48⟩
def rm_X6_turn : Room := { frames := 3, cells := 0, slots := 0, locals := 74 }
theorem ok_X6_turn : CalOk yX6_turn cX6_turn 6 (some .int) 2 := ⟨⟨by decide +kernel, by decide +kernel⟩, by decide +kernel, q_1045, q_7⟩
theorem vi_X6_turn : VirOk yX6_turn := ⟨q_1043, q_1044⟩
def rm_X6_undo : Room := { frames := 1, cells := 0, slots := 0, locals := 21 }
theorem ok_X6_undo : CalOk yX6_undo cX6_undo 2 (some .int) 0 := ⟨⟨by decide +kernel, by decide +kernel⟩, by decide +kernel, q_1316, q_7⟩
theorem vi_X6_undo : VirOk yX6_undo := ⟨q_1314, q_1315⟩
section R
variable {l : Launch} {G : Gs} {X : Cx} {cc : ByteArray} {nL : Nat} {own : String} {rm0 : Room} {ret0 : Option FieldType} {k n : Nat} {Q : State → Prop} {M : Mem} {pc : Nat} {lv : List (Nat × Value)} {st : List Value}
/-- an answer, and nothing changed -/
abbrev Rd (e : Int) (M : Mem) : Int → Mem → Prop := fun r M' => r = e ∧ M' = M
theorem WM.nm (h : ∀ M', M' = M → WM G X k n Q M' pc lv st) : WM G X k n Q M pc lv st := h M rfl
theorem r_nmi {x : Int} (h : ∀ z, z = x → WM G X k n Q M pc lv (.int (iI z) :: st)) : WM G X k n Q M pc lv (.int (iI x) :: st) := h x rfl
theorem r_nml {x : Int} (h : ∀ z, z = x → WM G X k n Q M pc lv (.long (lI z) :: st)) : WM G X k n Q M pc lv (.long (lI x) :: st) := h x rfl
theorem r_vi {x y : Int} (h : x = y) (kk : WM G X k n Q M pc lv (.int (iI y) :: st)) : WM G X k n Q M pc lv (.int (iI x) :: st) := h ▸ kk
theorem r_vl {x y : Int} (h : x = y) (kk : WM G X k n Q M pc lv (.long (lI y) :: st)) : WM G X k n Q M pc lv (.long (lI x) :: st) := h ▸ kk
theorem r_va {x y : Nat} (h : x = y) (kk : WM G X k n Q M pc lv (.ref y :: st)) : WM G X k n Q M pc lv (.ref x :: st) := h ▸ kk
theorem r_pVi0 (B : Bx l G X cc nL own rm0 ret0) {y : MethodName} {bytes : ByteArray} {mL i mc ms : Nat} {rm : Room} {b ci N : Nat} {T : u_T} {e : Int} (hM : Ct l G y bytes mL (some .int) rm [.ref b] M (PoI G (Rd e M)) mc ms) (hM0 : rm.cells = mc ∧ rm.slots = ms) (ok : CalOk y bytes mL (some .int) 0) (vi : VirOk y) (w : Cond.methodLink own i y ∈ tG) (hb0 : At G b ci 0) (hc : vwCl[ci]? = some (y.cls, T, N)) (he : ∀ M, ent G.2.2 M b (ci, 0) = .inr (ci, flds ci b M)) (hf : Fits rm rm0 mL st) (hL : Lft k n rm0 mc ms) (hdg : decode cc pc = .ok (.invokevirtual i, 3)) (kk : WM G X (k + mc) (n + ms) Q M (pc + 3) lv (.int (iI e) :: st)) : WM G X k n Q M pc lv (.ref b :: st) :=
  r_Vi0 B hM hM0 ok vi w hb0 hc he hf hL hdg (fun r M' h => by rw [h.1, h.2]; exact kk)
theorem r_pVi1 (B : Bx l G X cc nL own rm0 ret0) {y : MethodName} {bytes : ByteArray} {mL i mc ms : Nat} {rm : Room} {b ci N : Nat} {T : u_T} {a0 : Value} {e : Int} (hM : Ct l G y bytes mL (some .int) rm [.ref b, a0] M (PoI G (Rd e M)) mc ms) (hM0 : rm.cells = mc ∧ rm.slots = ms) (ok : CalOk y bytes mL (some .int) 1) (vi : VirOk y) (w : Cond.methodLink own i y ∈ tG) (hb0 : At G b ci 0) (hc : vwCl[ci]? = some (y.cls, T, N)) (he : ∀ M, ent G.2.2 M b (ci, 0) = .inr (ci, flds ci b M)) (hf : Fits rm rm0 mL st) (hL : Lft k n rm0 mc ms) (hdg : decode cc pc = .ok (.invokevirtual i, 3)) (kk : WM G X (k + mc) (n + ms) Q M (pc + 3) lv (.int (iI e) :: st)) : WM G X k n Q M pc lv (a0 :: .ref b :: st) :=
  r_Vi1 B hM hM0 ok vi w hb0 hc he hf hL hdg (fun r M' h => by rw [h.1, h.2]; exact kk)
theorem r_pVi2 (B : Bx l G X cc nL own rm0 ret0) {y : MethodName} {bytes : ByteArray} {mL i mc ms : Nat} {rm : Room} {b ci N : Nat} {T : u_T} {a0 a1 : Value} {e : Int} (hM : Ct l G y bytes mL (some .int) rm [.ref b, a0, a1] M (PoI G (Rd e M)) mc ms) (hM0 : rm.cells = mc ∧ rm.slots = ms) (ok : CalOk y bytes mL (some .int) 2) (vi : VirOk y) (w : Cond.methodLink own i y ∈ tG) (hb0 : At G b ci 0) (hc : vwCl[ci]? = some (y.cls, T, N)) (he : ∀ M, ent G.2.2 M b (ci, 0) = .inr (ci, flds ci b M)) (hf : Fits rm rm0 mL st) (hL : Lft k n rm0 mc ms) (hdg : decode cc pc = .ok (.invokevirtual i, 3)) (kk : WM G X (k + mc) (n + ms) Q M (pc + 3) lv (.int (iI e) :: st)) : WM G X k n Q M pc lv (a1 :: a0 :: .ref b :: st) :=
  r_Vi2 B hM hM0 ok vi w hb0 hc he hf hL hdg (fun r M' h => by rw [h.1, h.2]; exact kk)
theorem r_pVi3 (B : Bx l G X cc nL own rm0 ret0) {y : MethodName} {bytes : ByteArray} {mL i mc ms : Nat} {rm : Room} {b ci N : Nat} {T : u_T} {a0 a1 a2 : Value} {e : Int} (hM : Ct l G y bytes mL (some .int) rm [.ref b, a0, a1, a2] M (PoI G (Rd e M)) mc ms) (hM0 : rm.cells = mc ∧ rm.slots = ms) (ok : CalOk y bytes mL (some .int) 3) (vi : VirOk y) (w : Cond.methodLink own i y ∈ tG) (hb0 : At G b ci 0) (hc : vwCl[ci]? = some (y.cls, T, N)) (he : ∀ M, ent G.2.2 M b (ci, 0) = .inr (ci, flds ci b M)) (hf : Fits rm rm0 mL st) (hL : Lft k n rm0 mc ms) (hdg : decode cc pc = .ok (.invokevirtual i, 3)) (kk : WM G X (k + mc) (n + ms) Q M (pc + 3) lv (.int (iI e) :: st)) : WM G X k n Q M pc lv (a2 :: a1 :: a0 :: .ref b :: st) :=
  r_Vi3 B hM hM0 ok vi w hb0 hc he hf hL hdg (fun r M' h => by rw [h.1, h.2]; exact kk)
theorem r_pVi4 (B : Bx l G X cc nL own rm0 ret0) {y : MethodName} {bytes : ByteArray} {mL i mc ms : Nat} {rm : Room} {b ci N : Nat} {T : u_T} {a0 a1 a2 a3 : Value} {e : Int} (hM : Ct l G y bytes mL (some .int) rm [.ref b, a0, a1, a2, a3] M (PoI G (Rd e M)) mc ms) (hM0 : rm.cells = mc ∧ rm.slots = ms) (ok : CalOk y bytes mL (some .int) 4) (vi : VirOk y) (w : Cond.methodLink own i y ∈ tG) (hb0 : At G b ci 0) (hc : vwCl[ci]? = some (y.cls, T, N)) (he : ∀ M, ent G.2.2 M b (ci, 0) = .inr (ci, flds ci b M)) (hf : Fits rm rm0 mL st) (hL : Lft k n rm0 mc ms) (hdg : decode cc pc = .ok (.invokevirtual i, 3)) (kk : WM G X (k + mc) (n + ms) Q M (pc + 3) lv (.int (iI e) :: st)) : WM G X k n Q M pc lv (a3 :: a2 :: a1 :: a0 :: .ref b :: st) :=
  r_Vi4 B hM hM0 ok vi w hb0 hc he hf hL hdg (fun r M' h => by rw [h.1, h.2]; exact kk)
theorem r_pVi5 (B : Bx l G X cc nL own rm0 ret0) {y : MethodName} {bytes : ByteArray} {mL i mc ms : Nat} {rm : Room} {b ci N : Nat} {T : u_T} {a0 a1 a2 a3 a4 : Value} {e : Int} (hM : Ct l G y bytes mL (some .int) rm [.ref b, a0, a1, a2, a3, a4] M (PoI G (Rd e M)) mc ms) (hM0 : rm.cells = mc ∧ rm.slots = ms) (ok : CalOk y bytes mL (some .int) 5) (vi : VirOk y) (w : Cond.methodLink own i y ∈ tG) (hb0 : At G b ci 0) (hc : vwCl[ci]? = some (y.cls, T, N)) (he : ∀ M, ent G.2.2 M b (ci, 0) = .inr (ci, flds ci b M)) (hf : Fits rm rm0 mL st) (hL : Lft k n rm0 mc ms) (hdg : decode cc pc = .ok (.invokevirtual i, 3)) (kk : WM G X (k + mc) (n + ms) Q M (pc + 3) lv (.int (iI e) :: st)) : WM G X k n Q M pc lv (a4 :: a3 :: a2 :: a1 :: a0 :: .ref b :: st) :=
  r_Vi5 B hM hM0 ok vi w hb0 hc he hf hL hdg (fun r M' h => by rw [h.1, h.2]; exact kk)
theorem r_pVz0 (B : Bx l G X cc nL own rm0 ret0) {y : MethodName} {bytes : ByteArray} {mL i mc ms : Nat} {rm : Room} {b ci N : Nat} {T : u_T} {e : Int} (hM : Ct l G y bytes mL (some .boolean) rm [.ref b] M (PoI G (Rd e M)) mc ms) (hM0 : rm.cells = mc ∧ rm.slots = ms) (ok : CalOk y bytes mL (some .boolean) 0) (vi : VirOk y) (w : Cond.methodLink own i y ∈ tG) (hb0 : At G b ci 0) (hc : vwCl[ci]? = some (y.cls, T, N)) (he : ∀ M, ent G.2.2 M b (ci, 0) = .inr (ci, flds ci b M)) (hf : Fits rm rm0 mL st) (hL : Lft k n rm0 mc ms) (hdg : decode cc pc = .ok (.invokevirtual i, 3)) (kk : WM G X (k + mc) (n + ms) Q M (pc + 3) lv (.int (iI e) :: st)) : WM G X k n Q M pc lv (.ref b :: st) :=
  r_Vz0 B hM hM0 ok vi w hb0 hc he hf hL hdg (fun r M' h => by rw [h.1, h.2]; exact kk)
theorem r_pVz1 (B : Bx l G X cc nL own rm0 ret0) {y : MethodName} {bytes : ByteArray} {mL i mc ms : Nat} {rm : Room} {b ci N : Nat} {T : u_T} {a0 : Value} {e : Int} (hM : Ct l G y bytes mL (some .boolean) rm [.ref b, a0] M (PoI G (Rd e M)) mc ms) (hM0 : rm.cells = mc ∧ rm.slots = ms) (ok : CalOk y bytes mL (some .boolean) 1) (vi : VirOk y) (w : Cond.methodLink own i y ∈ tG) (hb0 : At G b ci 0) (hc : vwCl[ci]? = some (y.cls, T, N)) (he : ∀ M, ent G.2.2 M b (ci, 0) = .inr (ci, flds ci b M)) (hf : Fits rm rm0 mL st) (hL : Lft k n rm0 mc ms) (hdg : decode cc pc = .ok (.invokevirtual i, 3)) (kk : WM G X (k + mc) (n + ms) Q M (pc + 3) lv (.int (iI e) :: st)) : WM G X k n Q M pc lv (a0 :: .ref b :: st) :=
  r_Vz1 B hM hM0 ok vi w hb0 hc he hf hL hdg (fun r M' h => by rw [h.1, h.2]; exact kk)
theorem r_pVz2 (B : Bx l G X cc nL own rm0 ret0) {y : MethodName} {bytes : ByteArray} {mL i mc ms : Nat} {rm : Room} {b ci N : Nat} {T : u_T} {a0 a1 : Value} {e : Int} (hM : Ct l G y bytes mL (some .boolean) rm [.ref b, a0, a1] M (PoI G (Rd e M)) mc ms) (hM0 : rm.cells = mc ∧ rm.slots = ms) (ok : CalOk y bytes mL (some .boolean) 2) (vi : VirOk y) (w : Cond.methodLink own i y ∈ tG) (hb0 : At G b ci 0) (hc : vwCl[ci]? = some (y.cls, T, N)) (he : ∀ M, ent G.2.2 M b (ci, 0) = .inr (ci, flds ci b M)) (hf : Fits rm rm0 mL st) (hL : Lft k n rm0 mc ms) (hdg : decode cc pc = .ok (.invokevirtual i, 3)) (kk : WM G X (k + mc) (n + ms) Q M (pc + 3) lv (.int (iI e) :: st)) : WM G X k n Q M pc lv (a1 :: a0 :: .ref b :: st) :=
  r_Vz2 B hM hM0 ok vi w hb0 hc he hf hL hdg (fun r M' h => by rw [h.1, h.2]; exact kk)
theorem r_pVz3 (B : Bx l G X cc nL own rm0 ret0) {y : MethodName} {bytes : ByteArray} {mL i mc ms : Nat} {rm : Room} {b ci N : Nat} {T : u_T} {a0 a1 a2 : Value} {e : Int} (hM : Ct l G y bytes mL (some .boolean) rm [.ref b, a0, a1, a2] M (PoI G (Rd e M)) mc ms) (hM0 : rm.cells = mc ∧ rm.slots = ms) (ok : CalOk y bytes mL (some .boolean) 3) (vi : VirOk y) (w : Cond.methodLink own i y ∈ tG) (hb0 : At G b ci 0) (hc : vwCl[ci]? = some (y.cls, T, N)) (he : ∀ M, ent G.2.2 M b (ci, 0) = .inr (ci, flds ci b M)) (hf : Fits rm rm0 mL st) (hL : Lft k n rm0 mc ms) (hdg : decode cc pc = .ok (.invokevirtual i, 3)) (kk : WM G X (k + mc) (n + ms) Q M (pc + 3) lv (.int (iI e) :: st)) : WM G X k n Q M pc lv (a2 :: a1 :: a0 :: .ref b :: st) :=
  r_Vz3 B hM hM0 ok vi w hb0 hc he hf hL hdg (fun r M' h => by rw [h.1, h.2]; exact kk)
theorem r_pVz4 (B : Bx l G X cc nL own rm0 ret0) {y : MethodName} {bytes : ByteArray} {mL i mc ms : Nat} {rm : Room} {b ci N : Nat} {T : u_T} {a0 a1 a2 a3 : Value} {e : Int} (hM : Ct l G y bytes mL (some .boolean) rm [.ref b, a0, a1, a2, a3] M (PoI G (Rd e M)) mc ms) (hM0 : rm.cells = mc ∧ rm.slots = ms) (ok : CalOk y bytes mL (some .boolean) 4) (vi : VirOk y) (w : Cond.methodLink own i y ∈ tG) (hb0 : At G b ci 0) (hc : vwCl[ci]? = some (y.cls, T, N)) (he : ∀ M, ent G.2.2 M b (ci, 0) = .inr (ci, flds ci b M)) (hf : Fits rm rm0 mL st) (hL : Lft k n rm0 mc ms) (hdg : decode cc pc = .ok (.invokevirtual i, 3)) (kk : WM G X (k + mc) (n + ms) Q M (pc + 3) lv (.int (iI e) :: st)) : WM G X k n Q M pc lv (a3 :: a2 :: a1 :: a0 :: .ref b :: st) :=
  r_Vz4 B hM hM0 ok vi w hb0 hc he hf hL hdg (fun r M' h => by rw [h.1, h.2]; exact kk)
theorem r_pVz5 (B : Bx l G X cc nL own rm0 ret0) {y : MethodName} {bytes : ByteArray} {mL i mc ms : Nat} {rm : Room} {b ci N : Nat} {T : u_T} {a0 a1 a2 a3 a4 : Value} {e : Int} (hM : Ct l G y bytes mL (some .boolean) rm [.ref b, a0, a1, a2, a3, a4] M (PoI G (Rd e M)) mc ms) (hM0 : rm.cells = mc ∧ rm.slots = ms) (ok : CalOk y bytes mL (some .boolean) 5) (vi : VirOk y) (w : Cond.methodLink own i y ∈ tG) (hb0 : At G b ci 0) (hc : vwCl[ci]? = some (y.cls, T, N)) (he : ∀ M, ent G.2.2 M b (ci, 0) = .inr (ci, flds ci b M)) (hf : Fits rm rm0 mL st) (hL : Lft k n rm0 mc ms) (hdg : decode cc pc = .ok (.invokevirtual i, 3)) (kk : WM G X (k + mc) (n + ms) Q M (pc + 3) lv (.int (iI e) :: st)) : WM G X k n Q M pc lv (a4 :: a3 :: a2 :: a1 :: a0 :: .ref b :: st) :=
  r_Vz5 B hM hM0 ok vi w hb0 hc he hf hL hdg (fun r M' h => by rw [h.1, h.2]; exact kk)
theorem r_pVl0 (B : Bx l G X cc nL own rm0 ret0) {y : MethodName} {bytes : ByteArray} {mL i mc ms : Nat} {rm : Room} {b ci N : Nat} {T : u_T} {e : Int} (hM : Ct l G y bytes mL (some .long) rm [.ref b] M (PoL G (Rd e M)) mc ms) (hM0 : rm.cells = mc ∧ rm.slots = ms) (ok : CalOk y bytes mL (some .long) 0) (vi : VirOk y) (w : Cond.methodLink own i y ∈ tG) (hb0 : At G b ci 0) (hc : vwCl[ci]? = some (y.cls, T, N)) (he : ∀ M, ent G.2.2 M b (ci, 0) = .inr (ci, flds ci b M)) (hf : Fits rm rm0 mL st) (hL : Lft k n rm0 mc ms) (hdg : decode cc pc = .ok (.invokevirtual i, 3)) (kk : WM G X (k + mc) (n + ms) Q M (pc + 3) lv (.long (lI e) :: st)) : WM G X k n Q M pc lv (.ref b :: st) :=
  r_Vl0 B hM hM0 ok vi w hb0 hc he hf hL hdg (fun r M' h => by rw [h.1, h.2]; exact kk)
theorem r_pVl1 (B : Bx l G X cc nL own rm0 ret0) {y : MethodName} {bytes : ByteArray} {mL i mc ms : Nat} {rm : Room} {b ci N : Nat} {T : u_T} {a0 : Value} {e : Int} (hM : Ct l G y bytes mL (some .long) rm [.ref b, a0] M (PoL G (Rd e M)) mc ms) (hM0 : rm.cells = mc ∧ rm.slots = ms) (ok : CalOk y bytes mL (some .long) 1) (vi : VirOk y) (w : Cond.methodLink own i y ∈ tG) (hb0 : At G b ci 0) (hc : vwCl[ci]? = some (y.cls, T, N)) (he : ∀ M, ent G.2.2 M b (ci, 0) = .inr (ci, flds ci b M)) (hf : Fits rm rm0 mL st) (hL : Lft k n rm0 mc ms) (hdg : decode cc pc = .ok (.invokevirtual i, 3)) (kk : WM G X (k + mc) (n + ms) Q M (pc + 3) lv (.long (lI e) :: st)) : WM G X k n Q M pc lv (a0 :: .ref b :: st) :=
  r_Vl1 B hM hM0 ok vi w hb0 hc he hf hL hdg (fun r M' h => by rw [h.1, h.2]; exact kk)
theorem r_pVl2 (B : Bx l G X cc nL own rm0 ret0) {y : MethodName} {bytes : ByteArray} {mL i mc ms : Nat} {rm : Room} {b ci N : Nat} {T : u_T} {a0 a1 : Value} {e : Int} (hM : Ct l G y bytes mL (some .long) rm [.ref b, a0, a1] M (PoL G (Rd e M)) mc ms) (hM0 : rm.cells = mc ∧ rm.slots = ms) (ok : CalOk y bytes mL (some .long) 2) (vi : VirOk y) (w : Cond.methodLink own i y ∈ tG) (hb0 : At G b ci 0) (hc : vwCl[ci]? = some (y.cls, T, N)) (he : ∀ M, ent G.2.2 M b (ci, 0) = .inr (ci, flds ci b M)) (hf : Fits rm rm0 mL st) (hL : Lft k n rm0 mc ms) (hdg : decode cc pc = .ok (.invokevirtual i, 3)) (kk : WM G X (k + mc) (n + ms) Q M (pc + 3) lv (.long (lI e) :: st)) : WM G X k n Q M pc lv (a1 :: a0 :: .ref b :: st) :=
  r_Vl2 B hM hM0 ok vi w hb0 hc he hf hL hdg (fun r M' h => by rw [h.1, h.2]; exact kk)
theorem r_pVl3 (B : Bx l G X cc nL own rm0 ret0) {y : MethodName} {bytes : ByteArray} {mL i mc ms : Nat} {rm : Room} {b ci N : Nat} {T : u_T} {a0 a1 a2 : Value} {e : Int} (hM : Ct l G y bytes mL (some .long) rm [.ref b, a0, a1, a2] M (PoL G (Rd e M)) mc ms) (hM0 : rm.cells = mc ∧ rm.slots = ms) (ok : CalOk y bytes mL (some .long) 3) (vi : VirOk y) (w : Cond.methodLink own i y ∈ tG) (hb0 : At G b ci 0) (hc : vwCl[ci]? = some (y.cls, T, N)) (he : ∀ M, ent G.2.2 M b (ci, 0) = .inr (ci, flds ci b M)) (hf : Fits rm rm0 mL st) (hL : Lft k n rm0 mc ms) (hdg : decode cc pc = .ok (.invokevirtual i, 3)) (kk : WM G X (k + mc) (n + ms) Q M (pc + 3) lv (.long (lI e) :: st)) : WM G X k n Q M pc lv (a2 :: a1 :: a0 :: .ref b :: st) :=
  r_Vl3 B hM hM0 ok vi w hb0 hc he hf hL hdg (fun r M' h => by rw [h.1, h.2]; exact kk)
theorem r_pVl4 (B : Bx l G X cc nL own rm0 ret0) {y : MethodName} {bytes : ByteArray} {mL i mc ms : Nat} {rm : Room} {b ci N : Nat} {T : u_T} {a0 a1 a2 a3 : Value} {e : Int} (hM : Ct l G y bytes mL (some .long) rm [.ref b, a0, a1, a2, a3] M (PoL G (Rd e M)) mc ms) (hM0 : rm.cells = mc ∧ rm.slots = ms) (ok : CalOk y bytes mL (some .long) 4) (vi : VirOk y) (w : Cond.methodLink own i y ∈ tG) (hb0 : At G b ci 0) (hc : vwCl[ci]? = some (y.cls, T, N)) (he : ∀ M, ent G.2.2 M b (ci, 0) = .inr (ci, flds ci b M)) (hf : Fits rm rm0 mL st) (hL : Lft k n rm0 mc ms) (hdg : decode cc pc = .ok (.invokevirtual i, 3)) (kk : WM G X (k + mc) (n + ms) Q M (pc + 3) lv (.long (lI e) :: st)) : WM G X k n Q M pc lv (a3 :: a2 :: a1 :: a0 :: .ref b :: st) :=
  r_Vl4 B hM hM0 ok vi w hb0 hc he hf hL hdg (fun r M' h => by rw [h.1, h.2]; exact kk)
theorem r_pVl5 (B : Bx l G X cc nL own rm0 ret0) {y : MethodName} {bytes : ByteArray} {mL i mc ms : Nat} {rm : Room} {b ci N : Nat} {T : u_T} {a0 a1 a2 a3 a4 : Value} {e : Int} (hM : Ct l G y bytes mL (some .long) rm [.ref b, a0, a1, a2, a3, a4] M (PoL G (Rd e M)) mc ms) (hM0 : rm.cells = mc ∧ rm.slots = ms) (ok : CalOk y bytes mL (some .long) 5) (vi : VirOk y) (w : Cond.methodLink own i y ∈ tG) (hb0 : At G b ci 0) (hc : vwCl[ci]? = some (y.cls, T, N)) (he : ∀ M, ent G.2.2 M b (ci, 0) = .inr (ci, flds ci b M)) (hf : Fits rm rm0 mL st) (hL : Lft k n rm0 mc ms) (hdg : decode cc pc = .ok (.invokevirtual i, 3)) (kk : WM G X (k + mc) (n + ms) Q M (pc + 3) lv (.long (lI e) :: st)) : WM G X k n Q M pc lv (a4 :: a3 :: a2 :: a1 :: a0 :: .ref b :: st) :=
  r_Vl5 B hM hM0 ok vi w hb0 hc he hf hL hdg (fun r M' h => by rw [h.1, h.2]; exact kk)
theorem r_pSi0 (B : Bx l G X cc nL own rm0 ret0) {y : MethodName} {bytes : ByteArray} {mL i mc ms : Nat} {rm : Room} {e : Int} (hM : Ct l G y bytes mL (some .int) rm [] M (PoI G (Rd e M)) mc ms) (hM0 : rm.cells = mc ∧ rm.slots = ms) (ok : CalOk y bytes mL (some .int) 0) (sk : Cond.static y ∈ tG) (w : Cond.methodLink own i y ∈ tG) (hf : Fits rm rm0 mL st) (hL : Lft k n rm0 mc ms) (hdg : decode cc pc = .ok (.invokestatic i, 3)) (kk : WM G X (k + mc) (n + ms) Q M (pc + 3) lv (.int (iI e) :: st)) : WM G X k n Q M pc lv (st) :=
  r_Si0 B hM hM0 ok sk w hf hL hdg (fun r M' h => by rw [h.1, h.2]; exact kk)
theorem r_pSi1 (B : Bx l G X cc nL own rm0 ret0) {y : MethodName} {bytes : ByteArray} {mL i mc ms : Nat} {rm : Room} {a0 : Value} {e : Int} (hM : Ct l G y bytes mL (some .int) rm [a0] M (PoI G (Rd e M)) mc ms) (hM0 : rm.cells = mc ∧ rm.slots = ms) (ok : CalOk y bytes mL (some .int) 1) (sk : Cond.static y ∈ tG) (w : Cond.methodLink own i y ∈ tG) (hf : Fits rm rm0 mL st) (hL : Lft k n rm0 mc ms) (hdg : decode cc pc = .ok (.invokestatic i, 3)) (kk : WM G X (k + mc) (n + ms) Q M (pc + 3) lv (.int (iI e) :: st)) : WM G X k n Q M pc lv (a0 :: st) :=
  r_Si1 B hM hM0 ok sk w hf hL hdg (fun r M' h => by rw [h.1, h.2]; exact kk)
theorem r_pSi2 (B : Bx l G X cc nL own rm0 ret0) {y : MethodName} {bytes : ByteArray} {mL i mc ms : Nat} {rm : Room} {a0 a1 : Value} {e : Int} (hM : Ct l G y bytes mL (some .int) rm [a0, a1] M (PoI G (Rd e M)) mc ms) (hM0 : rm.cells = mc ∧ rm.slots = ms) (ok : CalOk y bytes mL (some .int) 2) (sk : Cond.static y ∈ tG) (w : Cond.methodLink own i y ∈ tG) (hf : Fits rm rm0 mL st) (hL : Lft k n rm0 mc ms) (hdg : decode cc pc = .ok (.invokestatic i, 3)) (kk : WM G X (k + mc) (n + ms) Q M (pc + 3) lv (.int (iI e) :: st)) : WM G X k n Q M pc lv (a1 :: a0 :: st) :=
  r_Si2 B hM hM0 ok sk w hf hL hdg (fun r M' h => by rw [h.1, h.2]; exact kk)
theorem r_pSi3 (B : Bx l G X cc nL own rm0 ret0) {y : MethodName} {bytes : ByteArray} {mL i mc ms : Nat} {rm : Room} {a0 a1 a2 : Value} {e : Int} (hM : Ct l G y bytes mL (some .int) rm [a0, a1, a2] M (PoI G (Rd e M)) mc ms) (hM0 : rm.cells = mc ∧ rm.slots = ms) (ok : CalOk y bytes mL (some .int) 3) (sk : Cond.static y ∈ tG) (w : Cond.methodLink own i y ∈ tG) (hf : Fits rm rm0 mL st) (hL : Lft k n rm0 mc ms) (hdg : decode cc pc = .ok (.invokestatic i, 3)) (kk : WM G X (k + mc) (n + ms) Q M (pc + 3) lv (.int (iI e) :: st)) : WM G X k n Q M pc lv (a2 :: a1 :: a0 :: st) :=
  r_Si3 B hM hM0 ok sk w hf hL hdg (fun r M' h => by rw [h.1, h.2]; exact kk)
theorem r_pSi4 (B : Bx l G X cc nL own rm0 ret0) {y : MethodName} {bytes : ByteArray} {mL i mc ms : Nat} {rm : Room} {a0 a1 a2 a3 : Value} {e : Int} (hM : Ct l G y bytes mL (some .int) rm [a0, a1, a2, a3] M (PoI G (Rd e M)) mc ms) (hM0 : rm.cells = mc ∧ rm.slots = ms) (ok : CalOk y bytes mL (some .int) 4) (sk : Cond.static y ∈ tG) (w : Cond.methodLink own i y ∈ tG) (hf : Fits rm rm0 mL st) (hL : Lft k n rm0 mc ms) (hdg : decode cc pc = .ok (.invokestatic i, 3)) (kk : WM G X (k + mc) (n + ms) Q M (pc + 3) lv (.int (iI e) :: st)) : WM G X k n Q M pc lv (a3 :: a2 :: a1 :: a0 :: st) :=
  r_Si4 B hM hM0 ok sk w hf hL hdg (fun r M' h => by rw [h.1, h.2]; exact kk)
theorem r_pSi5 (B : Bx l G X cc nL own rm0 ret0) {y : MethodName} {bytes : ByteArray} {mL i mc ms : Nat} {rm : Room} {a0 a1 a2 a3 a4 : Value} {e : Int} (hM : Ct l G y bytes mL (some .int) rm [a0, a1, a2, a3, a4] M (PoI G (Rd e M)) mc ms) (hM0 : rm.cells = mc ∧ rm.slots = ms) (ok : CalOk y bytes mL (some .int) 5) (sk : Cond.static y ∈ tG) (w : Cond.methodLink own i y ∈ tG) (hf : Fits rm rm0 mL st) (hL : Lft k n rm0 mc ms) (hdg : decode cc pc = .ok (.invokestatic i, 3)) (kk : WM G X (k + mc) (n + ms) Q M (pc + 3) lv (.int (iI e) :: st)) : WM G X k n Q M pc lv (a4 :: a3 :: a2 :: a1 :: a0 :: st) :=
  r_Si5 B hM hM0 ok sk w hf hL hdg (fun r M' h => by rw [h.1, h.2]; exact kk)
theorem r_pSz0 (B : Bx l G X cc nL own rm0 ret0) {y : MethodName} {bytes : ByteArray} {mL i mc ms : Nat} {rm : Room} {e : Int} (hM : Ct l G y bytes mL (some .boolean) rm [] M (PoI G (Rd e M)) mc ms) (hM0 : rm.cells = mc ∧ rm.slots = ms) (ok : CalOk y bytes mL (some .boolean) 0) (sk : Cond.static y ∈ tG) (w : Cond.methodLink own i y ∈ tG) (hf : Fits rm rm0 mL st) (hL : Lft k n rm0 mc ms) (hdg : decode cc pc = .ok (.invokestatic i, 3)) (kk : WM G X (k + mc) (n + ms) Q M (pc + 3) lv (.int (iI e) :: st)) : WM G X k n Q M pc lv (st) :=
  r_Sz0 B hM hM0 ok sk w hf hL hdg (fun r M' h => by rw [h.1, h.2]; exact kk)
theorem r_pSz1 (B : Bx l G X cc nL own rm0 ret0) {y : MethodName} {bytes : ByteArray} {mL i mc ms : Nat} {rm : Room} {a0 : Value} {e : Int} (hM : Ct l G y bytes mL (some .boolean) rm [a0] M (PoI G (Rd e M)) mc ms) (hM0 : rm.cells = mc ∧ rm.slots = ms) (ok : CalOk y bytes mL (some .boolean) 1) (sk : Cond.static y ∈ tG) (w : Cond.methodLink own i y ∈ tG) (hf : Fits rm rm0 mL st) (hL : Lft k n rm0 mc ms) (hdg : decode cc pc = .ok (.invokestatic i, 3)) (kk : WM G X (k + mc) (n + ms) Q M (pc + 3) lv (.int (iI e) :: st)) : WM G X k n Q M pc lv (a0 :: st) :=
  r_Sz1 B hM hM0 ok sk w hf hL hdg (fun r M' h => by rw [h.1, h.2]; exact kk)
theorem r_pSz2 (B : Bx l G X cc nL own rm0 ret0) {y : MethodName} {bytes : ByteArray} {mL i mc ms : Nat} {rm : Room} {a0 a1 : Value} {e : Int} (hM : Ct l G y bytes mL (some .boolean) rm [a0, a1] M (PoI G (Rd e M)) mc ms) (hM0 : rm.cells = mc ∧ rm.slots = ms) (ok : CalOk y bytes mL (some .boolean) 2) (sk : Cond.static y ∈ tG) (w : Cond.methodLink own i y ∈ tG) (hf : Fits rm rm0 mL st) (hL : Lft k n rm0 mc ms) (hdg : decode cc pc = .ok (.invokestatic i, 3)) (kk : WM G X (k + mc) (n + ms) Q M (pc + 3) lv (.int (iI e) :: st)) : WM G X k n Q M pc lv (a1 :: a0 :: st) :=
  r_Sz2 B hM hM0 ok sk w hf hL hdg (fun r M' h => by rw [h.1, h.2]; exact kk)
theorem r_pSz3 (B : Bx l G X cc nL own rm0 ret0) {y : MethodName} {bytes : ByteArray} {mL i mc ms : Nat} {rm : Room} {a0 a1 a2 : Value} {e : Int} (hM : Ct l G y bytes mL (some .boolean) rm [a0, a1, a2] M (PoI G (Rd e M)) mc ms) (hM0 : rm.cells = mc ∧ rm.slots = ms) (ok : CalOk y bytes mL (some .boolean) 3) (sk : Cond.static y ∈ tG) (w : Cond.methodLink own i y ∈ tG) (hf : Fits rm rm0 mL st) (hL : Lft k n rm0 mc ms) (hdg : decode cc pc = .ok (.invokestatic i, 3)) (kk : WM G X (k + mc) (n + ms) Q M (pc + 3) lv (.int (iI e) :: st)) : WM G X k n Q M pc lv (a2 :: a1 :: a0 :: st) :=
  r_Sz3 B hM hM0 ok sk w hf hL hdg (fun r M' h => by rw [h.1, h.2]; exact kk)
theorem r_pSz4 (B : Bx l G X cc nL own rm0 ret0) {y : MethodName} {bytes : ByteArray} {mL i mc ms : Nat} {rm : Room} {a0 a1 a2 a3 : Value} {e : Int} (hM : Ct l G y bytes mL (some .boolean) rm [a0, a1, a2, a3] M (PoI G (Rd e M)) mc ms) (hM0 : rm.cells = mc ∧ rm.slots = ms) (ok : CalOk y bytes mL (some .boolean) 4) (sk : Cond.static y ∈ tG) (w : Cond.methodLink own i y ∈ tG) (hf : Fits rm rm0 mL st) (hL : Lft k n rm0 mc ms) (hdg : decode cc pc = .ok (.invokestatic i, 3)) (kk : WM G X (k + mc) (n + ms) Q M (pc + 3) lv (.int (iI e) :: st)) : WM G X k n Q M pc lv (a3 :: a2 :: a1 :: a0 :: st) :=
  r_Sz4 B hM hM0 ok sk w hf hL hdg (fun r M' h => by rw [h.1, h.2]; exact kk)
theorem r_pSz5 (B : Bx l G X cc nL own rm0 ret0) {y : MethodName} {bytes : ByteArray} {mL i mc ms : Nat} {rm : Room} {a0 a1 a2 a3 a4 : Value} {e : Int} (hM : Ct l G y bytes mL (some .boolean) rm [a0, a1, a2, a3, a4] M (PoI G (Rd e M)) mc ms) (hM0 : rm.cells = mc ∧ rm.slots = ms) (ok : CalOk y bytes mL (some .boolean) 5) (sk : Cond.static y ∈ tG) (w : Cond.methodLink own i y ∈ tG) (hf : Fits rm rm0 mL st) (hL : Lft k n rm0 mc ms) (hdg : decode cc pc = .ok (.invokestatic i, 3)) (kk : WM G X (k + mc) (n + ms) Q M (pc + 3) lv (.int (iI e) :: st)) : WM G X k n Q M pc lv (a4 :: a3 :: a2 :: a1 :: a0 :: st) :=
  r_Sz5 B hM hM0 ok sk w hf hL hdg (fun r M' h => by rw [h.1, h.2]; exact kk)
theorem r_pSl0 (B : Bx l G X cc nL own rm0 ret0) {y : MethodName} {bytes : ByteArray} {mL i mc ms : Nat} {rm : Room} {e : Int} (hM : Ct l G y bytes mL (some .long) rm [] M (PoL G (Rd e M)) mc ms) (hM0 : rm.cells = mc ∧ rm.slots = ms) (ok : CalOk y bytes mL (some .long) 0) (sk : Cond.static y ∈ tG) (w : Cond.methodLink own i y ∈ tG) (hf : Fits rm rm0 mL st) (hL : Lft k n rm0 mc ms) (hdg : decode cc pc = .ok (.invokestatic i, 3)) (kk : WM G X (k + mc) (n + ms) Q M (pc + 3) lv (.long (lI e) :: st)) : WM G X k n Q M pc lv (st) :=
  r_Sl0 B hM hM0 ok sk w hf hL hdg (fun r M' h => by rw [h.1, h.2]; exact kk)
theorem r_pSl1 (B : Bx l G X cc nL own rm0 ret0) {y : MethodName} {bytes : ByteArray} {mL i mc ms : Nat} {rm : Room} {a0 : Value} {e : Int} (hM : Ct l G y bytes mL (some .long) rm [a0] M (PoL G (Rd e M)) mc ms) (hM0 : rm.cells = mc ∧ rm.slots = ms) (ok : CalOk y bytes mL (some .long) 1) (sk : Cond.static y ∈ tG) (w : Cond.methodLink own i y ∈ tG) (hf : Fits rm rm0 mL st) (hL : Lft k n rm0 mc ms) (hdg : decode cc pc = .ok (.invokestatic i, 3)) (kk : WM G X (k + mc) (n + ms) Q M (pc + 3) lv (.long (lI e) :: st)) : WM G X k n Q M pc lv (a0 :: st) :=
  r_Sl1 B hM hM0 ok sk w hf hL hdg (fun r M' h => by rw [h.1, h.2]; exact kk)
theorem r_pSl2 (B : Bx l G X cc nL own rm0 ret0) {y : MethodName} {bytes : ByteArray} {mL i mc ms : Nat} {rm : Room} {a0 a1 : Value} {e : Int} (hM : Ct l G y bytes mL (some .long) rm [a0, a1] M (PoL G (Rd e M)) mc ms) (hM0 : rm.cells = mc ∧ rm.slots = ms) (ok : CalOk y bytes mL (some .long) 2) (sk : Cond.static y ∈ tG) (w : Cond.methodLink own i y ∈ tG) (hf : Fits rm rm0 mL st) (hL : Lft k n rm0 mc ms) (hdg : decode cc pc = .ok (.invokestatic i, 3)) (kk : WM G X (k + mc) (n + ms) Q M (pc + 3) lv (.long (lI e) :: st)) : WM G X k n Q M pc lv (a1 :: a0 :: st) :=
  r_Sl2 B hM hM0 ok sk w hf hL hdg (fun r M' h => by rw [h.1, h.2]; exact kk)
theorem r_pSl3 (B : Bx l G X cc nL own rm0 ret0) {y : MethodName} {bytes : ByteArray} {mL i mc ms : Nat} {rm : Room} {a0 a1 a2 : Value} {e : Int} (hM : Ct l G y bytes mL (some .long) rm [a0, a1, a2] M (PoL G (Rd e M)) mc ms) (hM0 : rm.cells = mc ∧ rm.slots = ms) (ok : CalOk y bytes mL (some .long) 3) (sk : Cond.static y ∈ tG) (w : Cond.methodLink own i y ∈ tG) (hf : Fits rm rm0 mL st) (hL : Lft k n rm0 mc ms) (hdg : decode cc pc = .ok (.invokestatic i, 3)) (kk : WM G X (k + mc) (n + ms) Q M (pc + 3) lv (.long (lI e) :: st)) : WM G X k n Q M pc lv (a2 :: a1 :: a0 :: st) :=
  r_Sl3 B hM hM0 ok sk w hf hL hdg (fun r M' h => by rw [h.1, h.2]; exact kk)
theorem r_pSl4 (B : Bx l G X cc nL own rm0 ret0) {y : MethodName} {bytes : ByteArray} {mL i mc ms : Nat} {rm : Room} {a0 a1 a2 a3 : Value} {e : Int} (hM : Ct l G y bytes mL (some .long) rm [a0, a1, a2, a3] M (PoL G (Rd e M)) mc ms) (hM0 : rm.cells = mc ∧ rm.slots = ms) (ok : CalOk y bytes mL (some .long) 4) (sk : Cond.static y ∈ tG) (w : Cond.methodLink own i y ∈ tG) (hf : Fits rm rm0 mL st) (hL : Lft k n rm0 mc ms) (hdg : decode cc pc = .ok (.invokestatic i, 3)) (kk : WM G X (k + mc) (n + ms) Q M (pc + 3) lv (.long (lI e) :: st)) : WM G X k n Q M pc lv (a3 :: a2 :: a1 :: a0 :: st) :=
  r_Sl4 B hM hM0 ok sk w hf hL hdg (fun r M' h => by rw [h.1, h.2]; exact kk)
theorem r_pSl5 (B : Bx l G X cc nL own rm0 ret0) {y : MethodName} {bytes : ByteArray} {mL i mc ms : Nat} {rm : Room} {a0 a1 a2 a3 a4 : Value} {e : Int} (hM : Ct l G y bytes mL (some .long) rm [a0, a1, a2, a3, a4] M (PoL G (Rd e M)) mc ms) (hM0 : rm.cells = mc ∧ rm.slots = ms) (ok : CalOk y bytes mL (some .long) 5) (sk : Cond.static y ∈ tG) (w : Cond.methodLink own i y ∈ tG) (hf : Fits rm rm0 mL st) (hL : Lft k n rm0 mc ms) (hdg : decode cc pc = .ok (.invokestatic i, 3)) (kk : WM G X (k + mc) (n + ms) Q M (pc + 3) lv (.long (lI e) :: st)) : WM G X k n Q M pc lv (a4 :: a3 :: a2 :: a1 :: a0 :: st) :=
  r_Sl5 B hM hM0 ok sk w hf hL hdg (fun r M' h => by rw [h.1, h.2]; exact kk)
theorem r_pNi0 (B : Bx l G X cc nL own rm0 ret0) {y : MethodName} {bytes : ByteArray} {mL i mc ms : Nat} {rm : Room} {host : String} {e : Int} (hM : Ct l G y bytes mL (some .int) rm [] M (PoI G (Rd e M)) mc ms) (hM0 : rm.cells = mc ∧ rm.slots = ms) (ok : CalOk y bytes mL (some .int) 0) (sk : Cond.static y ∈ tG) (w : (own, i, y, host) ∈ nestL) (hf : Fits rm rm0 mL st) (hL : Lft k n rm0 mc ms) (hdg : decode cc pc = .ok (.invokestatic i, 3)) (kk : WM G X (k + mc) (n + ms) Q M (pc + 3) lv (.int (iI e) :: st)) : WM G X k n Q M pc lv (st) :=
  r_Ni0 B hM hM0 ok sk w hf hL hdg (fun r M' h => by rw [h.1, h.2]; exact kk)
theorem r_pNi1 (B : Bx l G X cc nL own rm0 ret0) {y : MethodName} {bytes : ByteArray} {mL i mc ms : Nat} {rm : Room} {host : String} {a0 : Value} {e : Int} (hM : Ct l G y bytes mL (some .int) rm [a0] M (PoI G (Rd e M)) mc ms) (hM0 : rm.cells = mc ∧ rm.slots = ms) (ok : CalOk y bytes mL (some .int) 1) (sk : Cond.static y ∈ tG) (w : (own, i, y, host) ∈ nestL) (hf : Fits rm rm0 mL st) (hL : Lft k n rm0 mc ms) (hdg : decode cc pc = .ok (.invokestatic i, 3)) (kk : WM G X (k + mc) (n + ms) Q M (pc + 3) lv (.int (iI e) :: st)) : WM G X k n Q M pc lv (a0 :: st) :=
  r_Ni1 B hM hM0 ok sk w hf hL hdg (fun r M' h => by rw [h.1, h.2]; exact kk)
theorem r_pNi2 (B : Bx l G X cc nL own rm0 ret0) {y : MethodName} {bytes : ByteArray} {mL i mc ms : Nat} {rm : Room} {host : String} {a0 a1 : Value} {e : Int} (hM : Ct l G y bytes mL (some .int) rm [a0, a1] M (PoI G (Rd e M)) mc ms) (hM0 : rm.cells = mc ∧ rm.slots = ms) (ok : CalOk y bytes mL (some .int) 2) (sk : Cond.static y ∈ tG) (w : (own, i, y, host) ∈ nestL) (hf : Fits rm rm0 mL st) (hL : Lft k n rm0 mc ms) (hdg : decode cc pc = .ok (.invokestatic i, 3)) (kk : WM G X (k + mc) (n + ms) Q M (pc + 3) lv (.int (iI e) :: st)) : WM G X k n Q M pc lv (a1 :: a0 :: st) :=
  r_Ni2 B hM hM0 ok sk w hf hL hdg (fun r M' h => by rw [h.1, h.2]; exact kk)
theorem r_pNi3 (B : Bx l G X cc nL own rm0 ret0) {y : MethodName} {bytes : ByteArray} {mL i mc ms : Nat} {rm : Room} {host : String} {a0 a1 a2 : Value} {e : Int} (hM : Ct l G y bytes mL (some .int) rm [a0, a1, a2] M (PoI G (Rd e M)) mc ms) (hM0 : rm.cells = mc ∧ rm.slots = ms) (ok : CalOk y bytes mL (some .int) 3) (sk : Cond.static y ∈ tG) (w : (own, i, y, host) ∈ nestL) (hf : Fits rm rm0 mL st) (hL : Lft k n rm0 mc ms) (hdg : decode cc pc = .ok (.invokestatic i, 3)) (kk : WM G X (k + mc) (n + ms) Q M (pc + 3) lv (.int (iI e) :: st)) : WM G X k n Q M pc lv (a2 :: a1 :: a0 :: st) :=
  r_Ni3 B hM hM0 ok sk w hf hL hdg (fun r M' h => by rw [h.1, h.2]; exact kk)
theorem r_pNi4 (B : Bx l G X cc nL own rm0 ret0) {y : MethodName} {bytes : ByteArray} {mL i mc ms : Nat} {rm : Room} {host : String} {a0 a1 a2 a3 : Value} {e : Int} (hM : Ct l G y bytes mL (some .int) rm [a0, a1, a2, a3] M (PoI G (Rd e M)) mc ms) (hM0 : rm.cells = mc ∧ rm.slots = ms) (ok : CalOk y bytes mL (some .int) 4) (sk : Cond.static y ∈ tG) (w : (own, i, y, host) ∈ nestL) (hf : Fits rm rm0 mL st) (hL : Lft k n rm0 mc ms) (hdg : decode cc pc = .ok (.invokestatic i, 3)) (kk : WM G X (k + mc) (n + ms) Q M (pc + 3) lv (.int (iI e) :: st)) : WM G X k n Q M pc lv (a3 :: a2 :: a1 :: a0 :: st) :=
  r_Ni4 B hM hM0 ok sk w hf hL hdg (fun r M' h => by rw [h.1, h.2]; exact kk)
theorem r_pNi5 (B : Bx l G X cc nL own rm0 ret0) {y : MethodName} {bytes : ByteArray} {mL i mc ms : Nat} {rm : Room} {host : String} {a0 a1 a2 a3 a4 : Value} {e : Int} (hM : Ct l G y bytes mL (some .int) rm [a0, a1, a2, a3, a4] M (PoI G (Rd e M)) mc ms) (hM0 : rm.cells = mc ∧ rm.slots = ms) (ok : CalOk y bytes mL (some .int) 5) (sk : Cond.static y ∈ tG) (w : (own, i, y, host) ∈ nestL) (hf : Fits rm rm0 mL st) (hL : Lft k n rm0 mc ms) (hdg : decode cc pc = .ok (.invokestatic i, 3)) (kk : WM G X (k + mc) (n + ms) Q M (pc + 3) lv (.int (iI e) :: st)) : WM G X k n Q M pc lv (a4 :: a3 :: a2 :: a1 :: a0 :: st) :=
  r_Ni5 B hM hM0 ok sk w hf hL hdg (fun r M' h => by rw [h.1, h.2]; exact kk)
theorem r_pNz0 (B : Bx l G X cc nL own rm0 ret0) {y : MethodName} {bytes : ByteArray} {mL i mc ms : Nat} {rm : Room} {host : String} {e : Int} (hM : Ct l G y bytes mL (some .boolean) rm [] M (PoI G (Rd e M)) mc ms) (hM0 : rm.cells = mc ∧ rm.slots = ms) (ok : CalOk y bytes mL (some .boolean) 0) (sk : Cond.static y ∈ tG) (w : (own, i, y, host) ∈ nestL) (hf : Fits rm rm0 mL st) (hL : Lft k n rm0 mc ms) (hdg : decode cc pc = .ok (.invokestatic i, 3)) (kk : WM G X (k + mc) (n + ms) Q M (pc + 3) lv (.int (iI e) :: st)) : WM G X k n Q M pc lv (st) :=
  r_Nz0 B hM hM0 ok sk w hf hL hdg (fun r M' h => by rw [h.1, h.2]; exact kk)
theorem r_pNz1 (B : Bx l G X cc nL own rm0 ret0) {y : MethodName} {bytes : ByteArray} {mL i mc ms : Nat} {rm : Room} {host : String} {a0 : Value} {e : Int} (hM : Ct l G y bytes mL (some .boolean) rm [a0] M (PoI G (Rd e M)) mc ms) (hM0 : rm.cells = mc ∧ rm.slots = ms) (ok : CalOk y bytes mL (some .boolean) 1) (sk : Cond.static y ∈ tG) (w : (own, i, y, host) ∈ nestL) (hf : Fits rm rm0 mL st) (hL : Lft k n rm0 mc ms) (hdg : decode cc pc = .ok (.invokestatic i, 3)) (kk : WM G X (k + mc) (n + ms) Q M (pc + 3) lv (.int (iI e) :: st)) : WM G X k n Q M pc lv (a0 :: st) :=
  r_Nz1 B hM hM0 ok sk w hf hL hdg (fun r M' h => by rw [h.1, h.2]; exact kk)
theorem r_pNz2 (B : Bx l G X cc nL own rm0 ret0) {y : MethodName} {bytes : ByteArray} {mL i mc ms : Nat} {rm : Room} {host : String} {a0 a1 : Value} {e : Int} (hM : Ct l G y bytes mL (some .boolean) rm [a0, a1] M (PoI G (Rd e M)) mc ms) (hM0 : rm.cells = mc ∧ rm.slots = ms) (ok : CalOk y bytes mL (some .boolean) 2) (sk : Cond.static y ∈ tG) (w : (own, i, y, host) ∈ nestL) (hf : Fits rm rm0 mL st) (hL : Lft k n rm0 mc ms) (hdg : decode cc pc = .ok (.invokestatic i, 3)) (kk : WM G X (k + mc) (n + ms) Q M (pc + 3) lv (.int (iI e) :: st)) : WM G X k n Q M pc lv (a1 :: a0 :: st) :=
  r_Nz2 B hM hM0 ok sk w hf hL hdg (fun r M' h => by rw [h.1, h.2]; exact kk)
theorem r_pNz3 (B : Bx l G X cc nL own rm0 ret0) {y : MethodName} {bytes : ByteArray} {mL i mc ms : Nat} {rm : Room} {host : String} {a0 a1 a2 : Value} {e : Int} (hM : Ct l G y bytes mL (some .boolean) rm [a0, a1, a2] M (PoI G (Rd e M)) mc ms) (hM0 : rm.cells = mc ∧ rm.slots = ms) (ok : CalOk y bytes mL (some .boolean) 3) (sk : Cond.static y ∈ tG) (w : (own, i, y, host) ∈ nestL) (hf : Fits rm rm0 mL st) (hL : Lft k n rm0 mc ms) (hdg : decode cc pc = .ok (.invokestatic i, 3)) (kk : WM G X (k + mc) (n + ms) Q M (pc + 3) lv (.int (iI e) :: st)) : WM G X k n Q M pc lv (a2 :: a1 :: a0 :: st) :=
  r_Nz3 B hM hM0 ok sk w hf hL hdg (fun r M' h => by rw [h.1, h.2]; exact kk)
theorem r_pNz4 (B : Bx l G X cc nL own rm0 ret0) {y : MethodName} {bytes : ByteArray} {mL i mc ms : Nat} {rm : Room} {host : String} {a0 a1 a2 a3 : Value} {e : Int} (hM : Ct l G y bytes mL (some .boolean) rm [a0, a1, a2, a3] M (PoI G (Rd e M)) mc ms) (hM0 : rm.cells = mc ∧ rm.slots = ms) (ok : CalOk y bytes mL (some .boolean) 4) (sk : Cond.static y ∈ tG) (w : (own, i, y, host) ∈ nestL) (hf : Fits rm rm0 mL st) (hL : Lft k n rm0 mc ms) (hdg : decode cc pc = .ok (.invokestatic i, 3)) (kk : WM G X (k + mc) (n + ms) Q M (pc + 3) lv (.int (iI e) :: st)) : WM G X k n Q M pc lv (a3 :: a2 :: a1 :: a0 :: st) :=
  r_Nz4 B hM hM0 ok sk w hf hL hdg (fun r M' h => by rw [h.1, h.2]; exact kk)
theorem r_pNz5 (B : Bx l G X cc nL own rm0 ret0) {y : MethodName} {bytes : ByteArray} {mL i mc ms : Nat} {rm : Room} {host : String} {a0 a1 a2 a3 a4 : Value} {e : Int} (hM : Ct l G y bytes mL (some .boolean) rm [a0, a1, a2, a3, a4] M (PoI G (Rd e M)) mc ms) (hM0 : rm.cells = mc ∧ rm.slots = ms) (ok : CalOk y bytes mL (some .boolean) 5) (sk : Cond.static y ∈ tG) (w : (own, i, y, host) ∈ nestL) (hf : Fits rm rm0 mL st) (hL : Lft k n rm0 mc ms) (hdg : decode cc pc = .ok (.invokestatic i, 3)) (kk : WM G X (k + mc) (n + ms) Q M (pc + 3) lv (.int (iI e) :: st)) : WM G X k n Q M pc lv (a4 :: a3 :: a2 :: a1 :: a0 :: st) :=
  r_Nz5 B hM hM0 ok sk w hf hL hdg (fun r M' h => by rw [h.1, h.2]; exact kk)
theorem r_pNl0 (B : Bx l G X cc nL own rm0 ret0) {y : MethodName} {bytes : ByteArray} {mL i mc ms : Nat} {rm : Room} {host : String} {e : Int} (hM : Ct l G y bytes mL (some .long) rm [] M (PoL G (Rd e M)) mc ms) (hM0 : rm.cells = mc ∧ rm.slots = ms) (ok : CalOk y bytes mL (some .long) 0) (sk : Cond.static y ∈ tG) (w : (own, i, y, host) ∈ nestL) (hf : Fits rm rm0 mL st) (hL : Lft k n rm0 mc ms) (hdg : decode cc pc = .ok (.invokestatic i, 3)) (kk : WM G X (k + mc) (n + ms) Q M (pc + 3) lv (.long (lI e) :: st)) : WM G X k n Q M pc lv (st) :=
  r_Nl0 B hM hM0 ok sk w hf hL hdg (fun r M' h => by rw [h.1, h.2]; exact kk)
theorem r_pNl1 (B : Bx l G X cc nL own rm0 ret0) {y : MethodName} {bytes : ByteArray} {mL i mc ms : Nat} {rm : Room} {host : String} {a0 : Value} {e : Int} (hM : Ct l G y bytes mL (some .long) rm [a0] M (PoL G (Rd e M)) mc ms) (hM0 : rm.cells = mc ∧ rm.slots = ms) (ok : CalOk y bytes mL (some .long) 1) (sk : Cond.static y ∈ tG) (w : (own, i, y, host) ∈ nestL) (hf : Fits rm rm0 mL st) (hL : Lft k n rm0 mc ms) (hdg : decode cc pc = .ok (.invokestatic i, 3)) (kk : WM G X (k + mc) (n + ms) Q M (pc + 3) lv (.long (lI e) :: st)) : WM G X k n Q M pc lv (a0 :: st) :=
  r_Nl1 B hM hM0 ok sk w hf hL hdg (fun r M' h => by rw [h.1, h.2]; exact kk)
theorem r_pNl2 (B : Bx l G X cc nL own rm0 ret0) {y : MethodName} {bytes : ByteArray} {mL i mc ms : Nat} {rm : Room} {host : String} {a0 a1 : Value} {e : Int} (hM : Ct l G y bytes mL (some .long) rm [a0, a1] M (PoL G (Rd e M)) mc ms) (hM0 : rm.cells = mc ∧ rm.slots = ms) (ok : CalOk y bytes mL (some .long) 2) (sk : Cond.static y ∈ tG) (w : (own, i, y, host) ∈ nestL) (hf : Fits rm rm0 mL st) (hL : Lft k n rm0 mc ms) (hdg : decode cc pc = .ok (.invokestatic i, 3)) (kk : WM G X (k + mc) (n + ms) Q M (pc + 3) lv (.long (lI e) :: st)) : WM G X k n Q M pc lv (a1 :: a0 :: st) :=
  r_Nl2 B hM hM0 ok sk w hf hL hdg (fun r M' h => by rw [h.1, h.2]; exact kk)
theorem r_pNl3 (B : Bx l G X cc nL own rm0 ret0) {y : MethodName} {bytes : ByteArray} {mL i mc ms : Nat} {rm : Room} {host : String} {a0 a1 a2 : Value} {e : Int} (hM : Ct l G y bytes mL (some .long) rm [a0, a1, a2] M (PoL G (Rd e M)) mc ms) (hM0 : rm.cells = mc ∧ rm.slots = ms) (ok : CalOk y bytes mL (some .long) 3) (sk : Cond.static y ∈ tG) (w : (own, i, y, host) ∈ nestL) (hf : Fits rm rm0 mL st) (hL : Lft k n rm0 mc ms) (hdg : decode cc pc = .ok (.invokestatic i, 3)) (kk : WM G X (k + mc) (n + ms) Q M (pc + 3) lv (.long (lI e) :: st)) : WM G X k n Q M pc lv (a2 :: a1 :: a0 :: st) :=
  r_Nl3 B hM hM0 ok sk w hf hL hdg (fun r M' h => by rw [h.1, h.2]; exact kk)
theorem r_pNl4 (B : Bx l G X cc nL own rm0 ret0) {y : MethodName} {bytes : ByteArray} {mL i mc ms : Nat} {rm : Room} {host : String} {a0 a1 a2 a3 : Value} {e : Int} (hM : Ct l G y bytes mL (some .long) rm [a0, a1, a2, a3] M (PoL G (Rd e M)) mc ms) (hM0 : rm.cells = mc ∧ rm.slots = ms) (ok : CalOk y bytes mL (some .long) 4) (sk : Cond.static y ∈ tG) (w : (own, i, y, host) ∈ nestL) (hf : Fits rm rm0 mL st) (hL : Lft k n rm0 mc ms) (hdg : decode cc pc = .ok (.invokestatic i, 3)) (kk : WM G X (k + mc) (n + ms) Q M (pc + 3) lv (.long (lI e) :: st)) : WM G X k n Q M pc lv (a3 :: a2 :: a1 :: a0 :: st) :=
  r_Nl4 B hM hM0 ok sk w hf hL hdg (fun r M' h => by rw [h.1, h.2]; exact kk)
theorem r_pNl5 (B : Bx l G X cc nL own rm0 ret0) {y : MethodName} {bytes : ByteArray} {mL i mc ms : Nat} {rm : Room} {host : String} {a0 a1 a2 a3 a4 : Value} {e : Int} (hM : Ct l G y bytes mL (some .long) rm [a0, a1, a2, a3, a4] M (PoL G (Rd e M)) mc ms) (hM0 : rm.cells = mc ∧ rm.slots = ms) (ok : CalOk y bytes mL (some .long) 5) (sk : Cond.static y ∈ tG) (w : (own, i, y, host) ∈ nestL) (hf : Fits rm rm0 mL st) (hL : Lft k n rm0 mc ms) (hdg : decode cc pc = .ok (.invokestatic i, 3)) (kk : WM G X (k + mc) (n + ms) Q M (pc + 3) lv (.long (lI e) :: st)) : WM G X k n Q M pc lv (a4 :: a3 :: a2 :: a1 :: a0 :: st) :=
  r_Nl5 B hM hM0 ok sk w hf hL hdg (fun r M' h => by rw [h.1, h.2]; exact kk)
end R
