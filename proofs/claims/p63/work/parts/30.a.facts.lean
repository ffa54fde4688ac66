set_option maxRecDepth 20000 in
theorem w_499 : Cond.laysFinal "LostWood" "LostWood" "reader" "LLostWood$Reader;" ∈ wl := tm_2 (List.mem_of_getElem? (i := 123) rfl) rfl
set_option maxRecDepth 20000 in
theorem w_500 : Cond.laysFinal "LostWood" "LostWood" "here" "LLostWood$Wood;" ∈ wl := tm_2 (List.mem_of_getElem? (i := 125) rfl) rfl
set_option maxRecDepth 20000 in
theorem w_501 : Cond.laysFinal "LostWood" "LostWood" "party" "LLostWood$Party;" ∈ wl := tm_2 (List.mem_of_getElem? (i := 127) rfl) rfl
set_option maxRecDepth 20000 in
theorem w_502 : Cond.laysFinal "LostWood" "LostWood" "walker" "LLostWood$Walker;" ∈ wl := tm_2 (List.mem_of_getElem? (i := 129) rfl) rfl
set_option maxRecDepth 20000 in
theorem w_503 : Cond.laysFinal "LostWood" "LostWood" "rows" "LLostWood$Rows;" ∈ wl := tm_2 (List.mem_of_getElem? (i := 131) rfl) rfl
set_option maxRecDepth 20000 in
theorem w_504 : Cond.laysFinal "LostWood" "LostWood" "minds" "LLostWood$Minds;" ∈ wl := tm_2 (List.mem_of_getElem? (i := 133) rfl) rfl
set_option maxRecDepth 20000 in
theorem w_505 : Cond.laysFinal "LostWood" "LostWood" "sets" "LLostWood$Sets;" ∈ wl := tm_2 (List.mem_of_getElem? (i := 135) rfl) rfl
set_option maxRecDepth 20000 in
theorem w_506 : Cond.laysFinal "LostWood" "LostWood" "plans" "LLostWood$Plans;" ∈ wl := tm_2 (List.mem_of_getElem? (i := 137) rfl) rfl
set_option maxRecDepth 20000 in
theorem w_507 : Cond.laysFinal "LostWood" "LostWood" "courses" "LLostWood$Courses;" ∈ wl := tm_2 (List.mem_of_getElem? (i := 139) rfl) rfl
set_option maxRecDepth 20000 in
theorem w_508 : Cond.laysFinal "LostWood" "LostWood" "travel" "LLostWood$Travel;" ∈ wl := tm_2 (List.mem_of_getElem? (i := 141) rfl) rfl
set_option maxRecDepth 20000 in
theorem w_509 : Cond.laysFinal "LostWood" "LostWood" "imageWoods" "[LLostWood$Wood;" ∈ wl := tm_2 (List.mem_of_getElem? (i := 143) rfl) rfl
set_option maxRecDepth 20000 in
theorem w_510 : Cond.laysFinal "LostWood" "LostWood" "imageParties" "[LLostWood$Party;" ∈ wl := tm_2 (List.mem_of_getElem? (i := 145) rfl) rfl
set_option maxRecDepth 20000 in
theorem w_511 : Cond.fieldLink RX11 19 "LostWood" "here" "LLostWood$Wood;" ∈ wl := tm_2 (List.mem_of_getElem? (i := 112) rfl) rfl
set_option maxRecDepth 20000 in
theorem w_512 : Cond.methodLink RX11 126 yX10_hasPlace ∈ wl := tm_3 (List.mem_of_getElem? (i := 108) rfl) rfl
set_option maxRecDepth 20000 in
theorem w_513 : Cond.fieldLink RX11 33 "LostWood" "walker" "LLostWood$Walker;" ∈ wl := tm_2 (List.mem_of_getElem? (i := 114) rfl) rfl
set_option maxRecDepth 20000 in
theorem w_514 : Cond.fieldLink RX11 26 "LostWood" "party" "LLostWood$Party;" ∈ wl := tm_2 (List.mem_of_getElem? (i := 113) rfl) rfl
set_option maxRecDepth 20000 in
theorem w_515 : Cond.fieldLink RX11 376 "LostWood$Party" "at" "[I" ∈ wl := tm_1 (List.mem_of_getElem? (i := 142) rfl) rfl
set_option maxRecDepth 20000 in
theorem w_516 : Cond.fieldLink RX11 378 "LostWood$Party" "thought" "[I" ∈ wl := tm_1 (List.mem_of_getElem? (i := 144) rfl) rfl
set_option maxRecDepth 20000 in
theorem w_517 : Cond.fieldLink RX11 380 "LostWood$Wood" "turns" "[I" ∈ wl := tm_1 (List.mem_of_getElem? (i := 47) rfl) rfl
set_option maxRecDepth 20000 in
theorem w_518 : Cond.code yX10_hasPupil cX10_hasPupil 2 (some .boolean) ∈ wl := tm_3 (List.mem_of_getElem? (i := 160) rfl) rfl
set_option maxRecDepth 20000 in
theorem w_519 : Cond.methodLink RX11 334 yX10_hasPupil ∈ wl := tm_3 (List.mem_of_getElem? (i := 157) rfl) rfl
set_option maxRecDepth 20000 in
theorem w_520 : Cond.instanceMethod yX10_hasPupil ∈ wl := tm_3 (List.mem_of_getElem? (i := 158) rfl) rfl
set_option maxRecDepth 20000 in
theorem w_521 : Cond.selects RX10 yX10_hasPupil yX10_hasPupil ∈ wl := tm_3 (List.mem_of_getElem? (i := 159) rfl) rfl
set_option maxRecDepth 20000 in
theorem w_522 : Cond.methodLink RX11 383 yX9_place ∈ wl := tm_3 (List.mem_of_getElem? (i := 161) rfl) rfl
set_option maxRecDepth 20000 in
theorem w_523 : Cond.fieldLink RX11 40 "LostWood" "rows" "LLostWood$Rows;" ∈ wl := tm_2 (List.mem_of_getElem? (i := 115) rfl) rfl
set_option maxRecDepth 20000 in
theorem w_524 : Cond.methodLink RX11 352 yX11_isSlot ∈ wl := tm_4 (List.mem_of_getElem? (i := 0) rfl) rfl
set_option maxRecDepth 20000 in
theorem w_525 : Cond.code yX11_stand cX11_stand 2 (some .boolean) ∈ wl := tm_3 (List.mem_of_getElem? (i := 156) rfl) rfl
set_option maxRecDepth 20000 in
theorem w_526 : Cond.methodLink RX11 152 yX11_stand ∈ wl := tm_3 (List.mem_of_getElem? (i := 153) rfl) rfl
set_option maxRecDepth 20000 in
theorem w_527 : Cond.instanceMethod yX11_stand ∈ wl := tm_3 (List.mem_of_getElem? (i := 155) rfl) rfl
set_option maxRecDepth 20000 in
theorem w_528 : Cond.selects RX11 yX11_stand yX11_stand ∈ wl := tp_1 (q := (yX11_stand, 12)) (List.mem_of_getElem? (i := 15) rfl)
set_option maxRecDepth 20000 in
theorem w_529 : Cond.methodLink RX11 358 yX5_has ∈ wl := tm_4 (List.mem_of_getElem? (i := 3) rfl) rfl
set_option maxRecDepth 20000 in
theorem w_530 : Cond.methodLink RX11 201 yX5_size ∈ wl := tm_4 (List.mem_of_getElem? (i := 8) rfl) rfl
set_option maxRecDepth 20000 in
theorem w_531 : Cond.code yX5_isWithin cX5_isWithin 6 (some .boolean) ∈ wl := tm_4 (List.mem_of_getElem? (i := 16) rfl) rfl
set_option maxRecDepth 20000 in
theorem w_532 : Cond.methodLink RX11 386 yX5_isWithin ∈ wl := tm_4 (List.mem_of_getElem? (i := 13) rfl) rfl
set_option maxRecDepth 20000 in
theorem w_533 : Cond.instanceMethod yX5_isWithin ∈ wl := tm_4 (List.mem_of_getElem? (i := 14) rfl) rfl
set_option maxRecDepth 20000 in
theorem w_534 : Cond.selects RX5 yX5_isWithin yX5_isWithin ∈ wl := tm_4 (List.mem_of_getElem? (i := 15) rfl) rfl
set_option maxRecDepth 20000 in
theorem w_535 : Cond.methodLink RX11 204 yX5_small ∈ wl := tm_4 (List.mem_of_getElem? (i := 22) rfl) rfl
set_option maxRecDepth 20000 in
theorem w_536 : Cond.methodLink RX11 177 yX9_step ∈ wl := tm_3 (List.mem_of_getElem? (i := 195) rfl) rfl
set_option maxRecDepth 20000 in
theorem w_537 : Cond.methodLink RX11 317 Lib.Math.min.name ∈ wl := tm_4 (List.mem_of_getElem? (i := 38) rfl) rfl
set_option maxRecDepth 20000 in
theorem w_538 : Cond.methodLink RX11 171 yX9_isAstray ∈ wl := tm_3 (List.mem_of_getElem? (i := 187) rfl) rfl
set_option maxRecDepth 20000 in
theorem w_539 : Cond.methodLink RX11 168 yX9_isSure ∈ wl := tm_3 (List.mem_of_getElem? (i := 183) rfl) rfl
set_option maxRecDepth 20000 in
theorem w_540 : Cond.fieldLink RX11 47 "LostWood" "minds" "LLostWood$Minds;" ∈ wl := tm_2 (List.mem_of_getElem? (i := 116) rfl) rfl
set_option maxRecDepth 20000 in
theorem w_541 : Cond.fieldLink RX11 161 "LostWood$Walker" "turn" "I" ∈ wl := tm_1 (List.mem_of_getElem? (i := 181) rfl) rfl
set_option maxRecDepth 20000 in
theorem w_542 : Cond.fieldLink RX11 155 "LostWood$Walker" "at" "I" ∈ wl := tm_1 (List.mem_of_getElem? (i := 173) rfl) rfl
set_option maxRecDepth 20000 in
theorem w_543 : Cond.fieldLink RX11 158 "LostWood$Walker" "thought" "I" ∈ wl := tm_1 (List.mem_of_getElem? (i := 178) rfl) rfl
set_option maxRecDepth 20000 in
theorem w_544 : Cond.code yX1_aimAt cX1_aimAt 4 none ∈ wl := tm_4 (List.mem_of_getElem? (i := 59) rfl) rfl
set_option maxRecDepth 20000 in
theorem w_545 : Cond.methodLink RX11 389 yX1_aimAt ∈ wl := tm_4 (List.mem_of_getElem? (i := 56) rfl) rfl
set_option maxRecDepth 20000 in
theorem w_546 : Cond.instanceMethod yX1_aimAt ∈ wl := tm_4 (List.mem_of_getElem? (i := 57) rfl) rfl
set_option maxRecDepth 20000 in
theorem w_547 : Cond.selects RX1 yX1_aimAt yX1_aimAt ∈ wl := tm_4 (List.mem_of_getElem? (i := 58) rfl) rfl
set_option maxRecDepth 20000 in
theorem w_548 : Cond.methodLink RX11 392 ⟨"LostWood$Minds", "explore", "(LLostWood$Wood;I)V"⟩ ∈ wl := tm_4 (List.mem_of_getElem? (i := 60) rfl) rfl
set_option maxRecDepth 20000 in
theorem w_549 : Cond.sameMethod "LostWood$Minds" "LostWood$Search" "explore" "(LLostWood$Wood;I)V" ∈ wl := tm_4 (List.mem_of_getElem? (i := 61) rfl) rfl
set_option maxRecDepth 20000 in
theorem w_550 : Cond.selects RX1 ⟨"LostWood$Minds", "explore", "(LLostWood$Wood;I)V"⟩ yX6_explore ∈ wl := tm_4 (List.mem_of_getElem? (i := 63) rfl) rfl
set_option maxRecDepth 20000 in
theorem w_551 : Cond.fieldLink RX11 54 "LostWood" "sets" "LLostWood$Sets;" ∈ wl := tm_2 (List.mem_of_getElem? (i := 117) rfl) rfl
set_option maxRecDepth 20000 in
theorem w_552 : Cond.fieldLink RX11 395 "LostWood$Sets" "goal" "I" ∈ wl := tm_1 (List.mem_of_getElem? (i := 239) rfl) rfl
set_option maxRecDepth 20000 in
theorem w_553 : Cond.methodLink RX11 243 yX7_seek ∈ wl := tm_4 (List.mem_of_getElem? (i := 205) rfl) rfl
set_option maxRecDepth 20000 in
theorem w_554 : Cond.sameField "LostWood$Sets" "LostWood$Search" "goal" "I" ∈ wl := tm_2 (List.mem_of_getElem? (i := 0) rfl) rfl
set_option maxRecDepth 20000 in
theorem w_555 : Cond.code yX10_marked cX10_marked 1 (some .int) ∈ wl := tm_5 (List.mem_of_getElem? (i := 1) rfl) rfl
set_option maxRecDepth 20000 in
theorem w_556 : Cond.methodLink RX11 340 yX10_marked ∈ wl := tm_4 (List.mem_of_getElem? (i := 238) rfl) rfl
set_option maxRecDepth 20000 in
theorem w_557 : Cond.instanceMethod yX10_marked ∈ wl := tm_4 (List.mem_of_getElem? (i := 239) rfl) rfl
set_option maxRecDepth 20000 in
theorem w_558 : Cond.selects RX10 yX10_marked yX10_marked ∈ wl := tm_5 (List.mem_of_getElem? (i := 0) rfl) rfl
set_option maxRecDepth 20000 in
theorem w_559 : Cond.methodLink RX11 251 yJ6_bitCount_0f7a4 ∈ wl := tm_5 (List.mem_of_getElem? (i := 3) rfl) rfl
set_option maxRecDepth 20000 in
theorem w_560 : Cond.code yX7_allShowOne cX7_allShowOne 4 (some .boolean) ∈ wl := tm_5 (List.mem_of_getElem? (i := 7) rfl) rfl
set_option maxRecDepth 20000 in
theorem w_561 : Cond.methodLink RX11 398 yX7_allShowOne ∈ wl := tm_5 (List.mem_of_getElem? (i := 4) rfl) rfl
set_option maxRecDepth 20000 in
theorem w_562 : Cond.instanceMethod yX7_allShowOne ∈ wl := tm_5 (List.mem_of_getElem? (i := 5) rfl) rfl
set_option maxRecDepth 20000 in
theorem w_563 : Cond.selects RX7 yX7_allShowOne yX7_allShowOne ∈ wl := tm_5 (List.mem_of_getElem? (i := 6) rfl) rfl
set_option maxRecDepth 20000 in
theorem w_564 : Cond.code yX10_spreadAnyhow cX10_spreadAnyhow 4 (some .int) ∈ wl := tm_5 (List.mem_of_getElem? (i := 47) rfl) rfl
set_option maxRecDepth 20000 in
theorem w_565 : Cond.methodLink RX11 402 yX10_spreadAnyhow ∈ wl := tm_5 (List.mem_of_getElem? (i := 44) rfl) rfl
set_option maxRecDepth 20000 in
theorem w_566 : Cond.instanceMethod yX10_spreadAnyhow ∈ wl := tm_5 (List.mem_of_getElem? (i := 45) rfl) rfl
set_option maxRecDepth 20000 in
theorem w_567 : Cond.selects RX10 yX10_spreadAnyhow yX10_spreadAnyhow ∈ wl := tm_5 (List.mem_of_getElem? (i := 46) rfl) rfl
set_option maxRecDepth 20000 in
theorem w_568 : Cond.code yX10_stands cX10_stands 1 (some .boolean) ∈ wl := tm_3 (List.mem_of_getElem? (i := 215) rfl) rfl
set_option maxRecDepth 20000 in
theorem w_569 : Cond.methodLink RX11 185 yX10_stands ∈ wl := tm_3 (List.mem_of_getElem? (i := 212) rfl) rfl
set_option maxRecDepth 20000 in
theorem w_570 : Cond.instanceMethod yX10_stands ∈ wl := tm_3 (List.mem_of_getElem? (i := 213) rfl) rfl
set_option maxRecDepth 20000 in
theorem w_571 : Cond.selects RX10 yX10_stands yX10_stands ∈ wl := tm_3 (List.mem_of_getElem? (i := 214) rfl) rfl
set_option maxRecDepth 20000 in
theorem w_572 : Cond.methodLink RX11 143 yX10_spread ∈ wl := tm_3 (List.mem_of_getElem? (i := 134) rfl) rfl
set_option maxRecDepth 20000 in
theorem w_573 : Cond.methodLink RX11 149 yX10_showing ∈ wl := tm_3 (List.mem_of_getElem? (i := 145) rfl) rfl
set_option maxRecDepth 20000 in
theorem w_574 : Cond.methodLink RX11 207 Lib.Math.max.name ∈ wl := tm_4 (List.mem_of_getElem? (i := 47) rfl) rfl
set_option maxRecDepth 20000 in
theorem w_575 : Cond.code yX11_worstLeft cX11_worstLeft 4 (some .int) ∈ wl := tm_5 (List.mem_of_getElem? (i := 86) rfl) rfl
set_option maxRecDepth 20000 in
theorem w_576 : Cond.methodLink RX11 281 yX11_worstLeft ∈ wl := tm_5 (List.mem_of_getElem? (i := 83) rfl) rfl
set_option maxRecDepth 20000 in
theorem w_577 : Cond.instanceMethod yX11_worstLeft ∈ wl := tm_5 (List.mem_of_getElem? (i := 85) rfl) rfl
set_option maxRecDepth 20000 in
theorem w_578 : Cond.selects RX11 yX11_worstLeft yX11_worstLeft ∈ wl := tp_2 (q := (yX11_worstLeft, 12)) (List.mem_of_getElem? (i := 15) rfl)
set_option maxRecDepth 20000 in
theorem w_579 : Cond.constantLong RX11 405 (1103515245) ∈ wl := tm_5 (List.mem_of_getElem? (i := 205) rfl) rfl
set_option maxRecDepth 20000 in
theorem w_580 : Cond.constantLong RX11 407 (12345) ∈ wl := tm_5 (List.mem_of_getElem? (i := 206) rfl) rfl
set_option maxRecDepth 20000 in
theorem w_581 : Cond.constantLong RX11 409 (2147483647) ∈ wl := tm_5 (List.mem_of_getElem? (i := 207) rfl) rfl
set_option maxRecDepth 20000 in
theorem in_X11 : ∀ w ∈ wsX110, w ∈ wl := List.forall_mem_cons.mpr ⟨w_499, List.forall_mem_cons.mpr ⟨w_500, List.forall_mem_cons.mpr ⟨w_501, List.forall_mem_cons.mpr ⟨w_502, List.forall_mem_cons.mpr ⟨w_503, List.forall_mem_cons.mpr ⟨w_504, List.forall_mem_cons.mpr ⟨w_505, List.forall_mem_cons.mpr ⟨w_506, List.forall_mem_cons.mpr ⟨w_507, List.forall_mem_cons.mpr ⟨w_508, List.forall_mem_cons.mpr ⟨w_509, List.forall_mem_cons.mpr ⟨w_510, fun _ h => absurd h List.not_mem_nil⟩⟩⟩⟩⟩⟩⟩⟩⟩⟩⟩⟩
theorem kd_X10_hasPupil : okD yX10_hasPupil 1 := by decide +kernel
theorem kd_X11_stand : okD yX11_stand 1 := by decide +kernel
theorem kd_X5_isWithin : okD yX5_isWithin 3 := by decide +kernel
theorem kd_X1_aimAt : okD yX1_aimAt 3 := by decide +kernel
theorem kd_X10_marked : okD yX10_marked 0 := by decide +kernel
theorem kd_X7_allShowOne : okD yX7_allShowOne 2 := by decide +kernel
theorem kd_X10_spreadAnyhow : okD yX10_spreadAnyhow 1 := by decide +kernel
theorem kd_X10_stands : okD yX10_stands 0 := by decide +kernel
theorem kd_X11_worstLeft : okD yX11_worstLeft 1 := by decide +kernel
set_option maxRecDepth 20000 in
theorem kV_X11_126 : okV RX11 126 yX10_hasPlace cX10_hasPlace 2 (some .boolean) 1 := ⟨⟨w_512, w_29, w_25, kd_X10_hasPlace⟩, w_31, w_32⟩
set_option maxRecDepth 20000 in
theorem kV_X11_334 : okV RX11 334 yX10_hasPupil cX10_hasPupil 2 (some .boolean) 1 := ⟨⟨w_519, w_518, w_25, kd_X10_hasPupil⟩, w_520, w_521⟩
set_option maxRecDepth 20000 in
theorem kV_X11_383 : okV RX11 383 yX9_place cX9_place 4 none 3 := ⟨⟨w_522, w_229, w_230, kd_X9_place⟩, w_232, w_233⟩
set_option maxRecDepth 20000 in
theorem kS_X11_352 : okS RX11 352 yX11_isSlot cX11_isSlot 1 (some .boolean) 1 := ⟨⟨w_524, w_97, w_34, kd_X11_isSlot⟩, w_98⟩
set_option maxRecDepth 20000 in
theorem kV_X11_152 : okV RX11 152 yX11_stand cX11_stand 2 (some .boolean) 1 := ⟨⟨w_526, w_525, w_34, kd_X11_stand⟩, w_527, w_528⟩
set_option maxRecDepth 20000 in
theorem kV_X11_358 : okV RX11 358 yX5_has cX5_has 2 (some .boolean) 1 := ⟨⟨w_529, w_104, w_105, kd_X5_has⟩, w_107, w_108⟩
set_option maxRecDepth 20000 in
theorem kV_X11_201 : okV RX11 201 yX5_size cX5_size 2 (some .int) 1 := ⟨⟨w_530, w_109, w_105, kd_X5_size⟩, w_111, w_112⟩
set_option maxRecDepth 20000 in
theorem kV_X11_386 : okV RX11 386 yX5_isWithin cX5_isWithin 6 (some .boolean) 3 := ⟨⟨w_532, w_531, w_105, kd_X5_isWithin⟩, w_533, w_534⟩
set_option maxRecDepth 20000 in
theorem kV_X11_204 : okV RX11 204 yX5_small cX5_small 3 (some .int) 2 := ⟨⟨w_535, w_243, w_105, kd_X5_small⟩, w_245, w_246⟩
set_option maxRecDepth 20000 in
theorem kV_X11_177 : okV RX11 177 yX9_step cX9_step 5 none 2 := ⟨⟨w_536, w_247, w_230, kd_X9_step⟩, w_249, w_250⟩
set_option maxRecDepth 20000 in
theorem kV_X11_171 : okV RX11 171 yX9_isAstray cX9_isAstray 1 (some .boolean) 0 := ⟨⟨w_538, w_309, w_230, kd_X9_isAstray⟩, w_311, w_312⟩
set_option maxRecDepth 20000 in
theorem kV_X11_168 : okV RX11 168 yX9_isSure cX9_isSure 1 (some .boolean) 0 := ⟨⟨w_539, w_313, w_230, kd_X9_isSure⟩, w_315, w_316⟩
set_option maxRecDepth 20000 in
theorem kV_X11_389 : okV RX11 389 yX1_aimAt cX1_aimAt 4 none 3 := ⟨⟨w_545, w_544, w_331, kd_X1_aimAt⟩, w_546, w_547⟩
set_option maxRecDepth 20000 in
theorem kU_X11_392_X6_explore : okU RX11 392 RX6 ⟨"LostWood$Minds", "explore", "(LLostWood$Wood;I)V"⟩ yX6_explore cX6_explore 5 none 2 := ⟨w_548, w_549, w_347, w_283, w_348, by decide +kernel⟩
set_option maxRecDepth 20000 in
theorem kV_X11_243 : okV RX11 243 yX7_seek cX7_seek 4 none 3 := ⟨⟨w_553, w_355, w_321, kd_X7_seek⟩, w_357, w_358⟩
set_option maxRecDepth 20000 in
theorem kV_X11_340 : okV RX11 340 yX10_marked cX10_marked 1 (some .int) 0 := ⟨⟨w_556, w_555, w_25, kd_X10_marked⟩, w_557, w_558⟩
set_option maxRecDepth 20000 in
theorem kS_X11_251 : okS RX11 251 yJ6_bitCount_0f7a4 cJ6_bitCount_0f7a4 1 (some .int) 1 := ⟨⟨w_559, w_54, w_6, kd_J6_bitCount_0f7a4⟩, w_56⟩
set_option maxRecDepth 20000 in
theorem kV_X11_398 : okV RX11 398 yX7_allShowOne cX7_allShowOne 4 (some .boolean) 2 := ⟨⟨w_561, w_560, w_321, kd_X7_allShowOne⟩, w_562, w_563⟩
set_option maxRecDepth 20000 in
theorem kV_X11_402 : okV RX11 402 yX10_spreadAnyhow cX10_spreadAnyhow 4 (some .int) 1 := ⟨⟨w_565, w_564, w_25, kd_X10_spreadAnyhow⟩, w_566, w_567⟩
set_option maxRecDepth 20000 in
theorem kV_X11_185 : okV RX11 185 yX10_stands cX10_stands 1 (some .boolean) 0 := ⟨⟨w_569, w_568, w_25, kd_X10_stands⟩, w_570, w_571⟩
set_option maxRecDepth 20000 in
theorem kV_X11_143 : okV RX11 143 yX10_spread cX10_spread 5 (some .int) 2 := ⟨⟨w_572, w_38, w_25, kd_X10_spread⟩, w_40, w_41⟩
set_option maxRecDepth 20000 in
theorem kV_X11_149 : okV RX11 149 yX10_showing cX10_showing 5 (some .int) 2 := ⟨⟨w_573, w_42, w_25, kd_X10_showing⟩, w_44, w_45⟩
set_option maxRecDepth 20000 in
theorem kV_X11_281 : okV RX11 281 yX11_worstLeft cX11_worstLeft 4 (some .int) 1 := ⟨⟨w_576, w_575, w_34, kd_X11_worstLeft⟩, w_577, w_578⟩
