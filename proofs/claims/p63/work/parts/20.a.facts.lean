set_option maxRecDepth 20000 in
theorem w_366 : Cond.fieldLink RJ0 38 "java/lang/String" "COMPACT_STRINGS" "Z" ∈ wl := tm_2 (List.mem_of_getElem? (i := 218) rfl) rfl
set_option maxRecDepth 20000 in
theorem w_367 : Cond.fieldLink RJ0 15 "java/lang/String" "coder" "B" ∈ wl := tm_9 (List.mem_of_getElem? (i := 86) rfl) rfl
set_option maxRecDepth 20000 in
theorem w_368 : Cond.fieldLink RJ0 9 "java/lang/String" "value" "[B" ∈ wl := tm_9 (List.mem_of_getElem? (i := 85) rfl) rfl
set_option maxRecDepth 20000 in
theorem w_369 : Cond.code yJ0_coder_7d493 cJ0_coder_7d493 1 (some .byte) ∈ wl := tm_2 (List.mem_of_getElem? (i := 217) rfl) rfl
set_option maxRecDepth 20000 in
theorem w_370 : Cond.initialized "java/lang/String" ∈ wl := tm_1 (List.mem_of_getElem? (i := 16) rfl) rfl
set_option maxRecDepth 20000 in
theorem w_371 : Cond.methodLink RJ0 335 yJ0_coder_7d493 ∈ wl := tm_2 (List.mem_of_getElem? (i := 214) rfl) rfl
set_option maxRecDepth 20000 in
theorem w_372 : Cond.instanceMethod yJ0_coder_7d493 ∈ wl := tm_2 (List.mem_of_getElem? (i := 215) rfl) rfl
set_option maxRecDepth 20000 in
theorem w_373 : Cond.selects RJ0 yJ0_coder_7d493 yJ0_coder_7d493 ∈ wl := tm_2 (List.mem_of_getElem? (i := 216) rfl) rfl
set_option maxRecDepth 20000 in
theorem w_374 : Cond.fieldLink RJ0 1053 "jdk/internal/util/Preconditions" "SIOOBE_FORMATTER" "Ljava/util/function/BiFunction;" ∈ wl := tm_2 (List.mem_of_getElem? (i := 234) rfl) rfl
set_option maxRecDepth 20000 in
theorem w_375 : Cond.code yJ3_checkIndex_8e157 cJ3_checkIndex_8e157 3 (some .int) ∈ wl := tm_2 (List.mem_of_getElem? (i := 238) rfl) rfl
set_option maxRecDepth 20000 in
theorem w_376 : Cond.initialized RJ3 ∈ wl := tm_1 (List.mem_of_getElem? (i := 18) rfl) rfl
set_option maxRecDepth 20000 in
theorem w_377 : Cond.methodLink RJ0 1059 yJ3_checkIndex_8e157 ∈ wl := tm_2 (List.mem_of_getElem? (i := 236) rfl) rfl
set_option maxRecDepth 20000 in
theorem w_378 : Cond.static yJ3_checkIndex_8e157 ∈ wl := tm_2 (List.mem_of_getElem? (i := 237) rfl) rfl
set_option maxRecDepth 20000 in
theorem w_379 : Cond.code yJ0_checkIndex_df160 cJ0_checkIndex_df160 2 none ∈ wl := tm_2 (List.mem_of_getElem? (i := 233) rfl) rfl
set_option maxRecDepth 20000 in
theorem w_380 : Cond.methodLink RJ1 9 yJ0_checkIndex_df160 ∈ wl := tm_2 (List.mem_of_getElem? (i := 231) rfl) rfl
set_option maxRecDepth 20000 in
theorem w_381 : Cond.static yJ0_checkIndex_df160 ∈ wl := tm_2 (List.mem_of_getElem? (i := 232) rfl) rfl
set_option maxRecDepth 20000 in
theorem w_382 : Cond.code yJ0_isLatin1_aae02 cJ0_isLatin1_aae02 1 (some .boolean) ∈ wl := tm_2 (List.mem_of_getElem? (i := 227) rfl) rfl
set_option maxRecDepth 20000 in
theorem w_383 : Cond.methodLink RJ0 492 yJ0_isLatin1_aae02 ∈ wl := tm_2 (List.mem_of_getElem? (i := 224) rfl) rfl
set_option maxRecDepth 20000 in
theorem w_384 : Cond.instanceMethod yJ0_isLatin1_aae02 ∈ wl := tm_2 (List.mem_of_getElem? (i := 225) rfl) rfl
set_option maxRecDepth 20000 in
theorem w_385 : Cond.selects RJ0 yJ0_isLatin1_aae02 yJ0_isLatin1_aae02 ∈ wl := tm_2 (List.mem_of_getElem? (i := 226) rfl) rfl
set_option maxRecDepth 20000 in
theorem w_386 : Cond.code yJ1_charAt_3b067 cJ1_charAt_3b067 2 (some .char) ∈ wl := tm_2 (List.mem_of_getElem? (i := 230) rfl) rfl
set_option maxRecDepth 20000 in
theorem w_387 : Cond.initialized "java/lang/StringLatin1" ∈ wl := tm_1 (List.mem_of_getElem? (i := 17) rfl) rfl
set_option maxRecDepth 20000 in
theorem w_388 : Cond.methodLink RJ0 495 yJ1_charAt_3b067 ∈ wl := tm_2 (List.mem_of_getElem? (i := 228) rfl) rfl
set_option maxRecDepth 20000 in
theorem w_389 : Cond.static yJ1_charAt_3b067 ∈ wl := tm_2 (List.mem_of_getElem? (i := 229) rfl) rfl
set_option maxRecDepth 20000 in
theorem w_390 : Cond.laysFinal "LostWood$Reader" "LostWood$Reader" "tape" "[B" ∈ wl := tm_1 (List.mem_of_getElem? (i := 112) rfl) rfl
set_option maxRecDepth 20000 in
theorem w_391 : Cond.lays "LostWood$Reader" "LostWood$Reader" "length" "I" ∈ wl := tm_1 (List.mem_of_getElem? (i := 114) rfl) rfl
set_option maxRecDepth 20000 in
theorem w_392 : Cond.lays "LostWood$Reader" "LostWood$Reader" "faultKind" "I" ∈ wl := tm_1 (List.mem_of_getElem? (i := 116) rfl) rfl
set_option maxRecDepth 20000 in
theorem w_393 : Cond.lays "LostWood$Reader" "LostWood$Reader" "faultPlace" "I" ∈ wl := tm_1 (List.mem_of_getElem? (i := 118) rfl) rfl
set_option maxRecDepth 20000 in
theorem w_394 : Cond.laysFinal "LostWood$Reader" "LostWood$Reader" "draft" "LLostWood$Wood;" ∈ wl := tm_1 (List.mem_of_getElem? (i := 120) rfl) rfl
set_option maxRecDepth 20000 in
theorem w_395 : Cond.lays "LostWood$Reader" "LostWood$Reader" "kind" "I" ∈ wl := tm_1 (List.mem_of_getElem? (i := 122) rfl) rfl
set_option maxRecDepth 20000 in
theorem w_396 : Cond.lays "LostWood$Reader" "LostWood$Reader" "from" "I" ∈ wl := tm_1 (List.mem_of_getElem? (i := 124) rfl) rfl
set_option maxRecDepth 20000 in
theorem w_397 : Cond.lays "LostWood$Reader" "LostWood$Reader" "behind" "I" ∈ wl := tm_1 (List.mem_of_getElem? (i := 126) rfl) rfl
set_option maxRecDepth 20000 in
theorem w_398 : Cond.lays "LostWood$Reader" "LostWood$Reader" "number" "I" ∈ wl := tm_1 (List.mem_of_getElem? (i := 128) rfl) rfl
set_option maxRecDepth 20000 in
theorem w_399 : Cond.lays "LostWood$Reader" "LostWood$Reader" "taken" "I" ∈ wl := tm_1 (List.mem_of_getElem? (i := 130) rfl) rfl
set_option maxRecDepth 20000 in
theorem w_400 : Cond.fieldLink RX4 26 "LostWood$Reader" "length" "I" ∈ wl := tm_1 (List.mem_of_getElem? (i := 99) rfl) rfl
set_option maxRecDepth 20000 in
theorem w_401 : Cond.fieldLink RX4 9 "LostWood$Reader" "tape" "[B" ∈ wl := tm_1 (List.mem_of_getElem? (i := 98) rfl) rfl
set_option maxRecDepth 20000 in
theorem w_402 : Cond.fieldLink RX4 35 "LostWood$Reader" "behind" "I" ∈ wl := tm_1 (List.mem_of_getElem? (i := 109) rfl) rfl
set_option maxRecDepth 20000 in
theorem w_403 : Cond.fieldLink RX4 54 "LostWood$Reader" "from" "I" ∈ wl := tm_1 (List.mem_of_getElem? (i := 108) rfl) rfl
set_option maxRecDepth 20000 in
theorem w_404 : Cond.fieldLink RX4 41 "LostWood$Reader" "kind" "I" ∈ wl := tm_1 (List.mem_of_getElem? (i := 107) rfl) rfl
set_option maxRecDepth 20000 in
theorem w_405 : Cond.fieldLink RX4 64 "LostWood$Reader" "number" "I" ∈ wl := tm_1 (List.mem_of_getElem? (i := 110) rfl) rfl
set_option maxRecDepth 20000 in
theorem w_406 : Cond.methodLink RX4 68 Lib.Math.min.name ∈ wl := tm_2 (List.mem_of_getElem? (i := 190) rfl) rfl
set_option maxRecDepth 20000 in
theorem w_407 : Cond.code yX4_kindAt cX4_kindAt 3 (some .int) ∈ wl := tm_2 (List.mem_of_getElem? (i := 184) rfl) rfl
set_option maxRecDepth 20000 in
theorem w_408 : Cond.initialized RX4 ∈ wl := tm_1 (List.mem_of_getElem? (i := 2) rfl) rfl
set_option maxRecDepth 20000 in
theorem w_409 : Cond.methodLink RX4 57 yX4_kindAt ∈ wl := tm_2 (List.mem_of_getElem? (i := 181) rfl) rfl
set_option maxRecDepth 20000 in
theorem w_410 : Cond.instanceMethod yX4_kindAt ∈ wl := tm_2 (List.mem_of_getElem? (i := 183) rfl) rfl
set_option maxRecDepth 20000 in
theorem w_411 : Cond.selects RX4 yX4_kindAt yX4_kindAt ∈ wl := tp_1 (q := (yX4_kindAt, 10)) (List.mem_of_getElem? (i := 1) rfl)
set_option maxRecDepth 20000 in
theorem w_412 : Cond.code yX4_byteAt cX4_byteAt 2 (some .int) ∈ wl := tm_2 (List.mem_of_getElem? (i := 188) rfl) rfl
set_option maxRecDepth 20000 in
theorem w_413 : Cond.methodLink RX4 61 yX4_byteAt ∈ wl := tm_2 (List.mem_of_getElem? (i := 185) rfl) rfl
set_option maxRecDepth 20000 in
theorem w_414 : Cond.instanceMethod yX4_byteAt ∈ wl := tm_2 (List.mem_of_getElem? (i := 187) rfl) rfl
set_option maxRecDepth 20000 in
theorem w_415 : Cond.selects RX4 yX4_byteAt yX4_byteAt ∈ wl := tp_1 (q := (yX4_byteAt, 10)) (List.mem_of_getElem? (i := 2) rfl)
set_option maxRecDepth 20000 in
theorem w_416 : Cond.constant RX4 67 (1000000) ∈ wl := tm_2 (List.mem_of_getElem? (i := 189) rfl) rfl
set_option maxRecDepth 20000 in
theorem w_417 : Cond.fieldLink RX4 32 "LostWood$Reader" "faultKind" "I" ∈ wl := tm_1 (List.mem_of_getElem? (i := 101) rfl) rfl
set_option maxRecDepth 20000 in
theorem w_418 : Cond.fieldLink RX4 15 "LostWood$Reader" "faultPlace" "I" ∈ wl := tm_1 (List.mem_of_getElem? (i := 103) rfl) rfl
set_option maxRecDepth 20000 in
theorem w_419 : Cond.code yJ0_length_8abf5 cJ0_length_8abf5 1 (some .int) ∈ wl := tm_2 (List.mem_of_getElem? (i := 213) rfl) rfl
set_option maxRecDepth 20000 in
theorem w_420 : Cond.methodLink RX4 74 yJ0_length_8abf5 ∈ wl := tm_2 (List.mem_of_getElem? (i := 210) rfl) rfl
set_option maxRecDepth 20000 in
theorem w_421 : Cond.instanceMethod yJ0_length_8abf5 ∈ wl := tm_2 (List.mem_of_getElem? (i := 211) rfl) rfl
set_option maxRecDepth 20000 in
theorem w_422 : Cond.selects RJ0 yJ0_length_8abf5 yJ0_length_8abf5 ∈ wl := tm_2 (List.mem_of_getElem? (i := 212) rfl) rfl
set_option maxRecDepth 20000 in
theorem w_423 : Cond.code yJ0_charAt_5068e cJ0_charAt_5068e 2 (some .char) ∈ wl := tm_2 (List.mem_of_getElem? (i := 223) rfl) rfl
set_option maxRecDepth 20000 in
theorem w_424 : Cond.methodLink RX4 79 yJ0_charAt_5068e ∈ wl := tm_2 (List.mem_of_getElem? (i := 220) rfl) rfl
set_option maxRecDepth 20000 in
theorem w_425 : Cond.instanceMethod yJ0_charAt_5068e ∈ wl := tm_2 (List.mem_of_getElem? (i := 221) rfl) rfl
set_option maxRecDepth 20000 in
theorem w_426 : Cond.selects RJ0 yJ0_charAt_5068e yJ0_charAt_5068e ∈ wl := tm_2 (List.mem_of_getElem? (i := 222) rfl) rfl
set_option maxRecDepth 20000 in
theorem w_427 : Cond.code yX4_isWord cX4_isWord 3 (some .boolean) ∈ wl := tm_2 (List.mem_of_getElem? (i := 209) rfl) rfl
set_option maxRecDepth 20000 in
theorem w_428 : Cond.methodLink RX4 83 yX4_isWord ∈ wl := tm_2 (List.mem_of_getElem? (i := 206) rfl) rfl
set_option maxRecDepth 20000 in
theorem w_429 : Cond.instanceMethod yX4_isWord ∈ wl := tm_2 (List.mem_of_getElem? (i := 208) rfl) rfl
set_option maxRecDepth 20000 in
theorem w_430 : Cond.selects RX4 yX4_isWord yX4_isWord ∈ wl := tp_1 (q := (yX4_isWord, 10)) (List.mem_of_getElem? (i := 6) rfl)
set_option maxRecDepth 20000 in
theorem w_431 : Cond.code yX4_refuse cX4_refuse 2 (some .boolean) ∈ wl := tm_3 (List.mem_of_getElem? (i := 21) rfl) rfl
set_option maxRecDepth 20000 in
theorem w_432 : Cond.methodLink RX4 87 yX4_refuse ∈ wl := tm_3 (List.mem_of_getElem? (i := 18) rfl) rfl
set_option maxRecDepth 20000 in
theorem w_433 : Cond.instanceMethod yX4_refuse ∈ wl := tm_3 (List.mem_of_getElem? (i := 20) rfl) rfl
set_option maxRecDepth 20000 in
theorem w_434 : Cond.selects RX4 yX4_refuse yX4_refuse ∈ wl := tp_1 (q := (yX4_refuse, 10)) (List.mem_of_getElem? (i := 7) rfl)
set_option maxRecDepth 20000 in
theorem w_435 : Cond.code yX4_advance cX4_advance 3 none ∈ wl := tm_2 (List.mem_of_getElem? (i := 180) rfl) rfl
set_option maxRecDepth 20000 in
theorem w_436 : Cond.methodLink RX4 38 yX4_advance ∈ wl := tm_2 (List.mem_of_getElem? (i := 177) rfl) rfl
set_option maxRecDepth 20000 in
theorem w_437 : Cond.instanceMethod yX4_advance ∈ wl := tm_2 (List.mem_of_getElem? (i := 179) rfl) rfl
set_option maxRecDepth 20000 in
theorem w_438 : Cond.selects RX4 yX4_advance yX4_advance ∈ wl := tp_1 (q := (yX4_advance, 10)) (List.mem_of_getElem? (i := 0) rfl)
set_option maxRecDepth 20000 in
theorem w_439 : Cond.fieldLink RX4 91 "LostWood$Reader" "taken" "I" ∈ wl := tm_1 (List.mem_of_getElem? (i := 111) rfl) rfl
set_option maxRecDepth 20000 in
theorem w_440 : Cond.fieldLink RX4 22 "LostWood$Reader" "draft" "LLostWood$Wood;" ∈ wl := tm_1 (List.mem_of_getElem? (i := 105) rfl) rfl
set_option maxRecDepth 20000 in
theorem w_441 : Cond.fieldLink RX4 136 "LostWood$Wood" "places" "I" ∈ wl := tm_1 (List.mem_of_getElem? (i := 59) rfl) rfl
set_option maxRecDepth 20000 in
theorem w_442 : Cond.code yX4_takeWord cX4_takeWord 2 (some .boolean) ∈ wl := tm_2 (List.mem_of_getElem? (i := 205) rfl) rfl
set_option maxRecDepth 20000 in
theorem w_443 : Cond.methodLink RX4 127 yX4_takeWord ∈ wl := tm_2 (List.mem_of_getElem? (i := 202) rfl) rfl
set_option maxRecDepth 20000 in
theorem w_444 : Cond.instanceMethod yX4_takeWord ∈ wl := tm_2 (List.mem_of_getElem? (i := 204) rfl) rfl
set_option maxRecDepth 20000 in
theorem w_445 : Cond.selects RX4 yX4_takeWord yX4_takeWord ∈ wl := tp_1 (q := (yX4_takeWord, 10)) (List.mem_of_getElem? (i := 5) rfl)
set_option maxRecDepth 20000 in
theorem w_446 : Cond.code yX4_takeNumber cX4_takeNumber 3 (some .boolean) ∈ wl := tm_3 (List.mem_of_getElem? (i := 26) rfl) rfl
set_option maxRecDepth 20000 in
theorem w_447 : Cond.methodLink RX4 132 yX4_takeNumber ∈ wl := tm_3 (List.mem_of_getElem? (i := 23) rfl) rfl
set_option maxRecDepth 20000 in
theorem w_448 : Cond.instanceMethod yX4_takeNumber ∈ wl := tm_3 (List.mem_of_getElem? (i := 25) rfl) rfl
set_option maxRecDepth 20000 in
theorem w_449 : Cond.selects RX4 yX4_takeNumber yX4_takeNumber ∈ wl := tp_1 (q := (yX4_takeNumber, 10)) (List.mem_of_getElem? (i := 8) rfl)
set_option maxRecDepth 20000 in
theorem w_450 : Cond.code yX4_takeWind cX4_takeWind 1 (some .boolean) ∈ wl := tm_3 (List.mem_of_getElem? (i := 35) rfl) rfl
set_option maxRecDepth 20000 in
theorem w_451 : Cond.methodLink RX4 138 yX4_takeWind ∈ wl := tm_3 (List.mem_of_getElem? (i := 32) rfl) rfl
set_option maxRecDepth 20000 in
theorem w_452 : Cond.instanceMethod yX4_takeWind ∈ wl := tm_3 (List.mem_of_getElem? (i := 34) rfl) rfl
set_option maxRecDepth 20000 in
theorem w_453 : Cond.selects RX4 yX4_takeWind yX4_takeWind ∈ wl := tp_1 (q := (yX4_takeWind, 10)) (List.mem_of_getElem? (i := 10) rfl)
set_option maxRecDepth 20000 in
theorem w_454 : Cond.methodLink RX4 143 yX10_setWay ∈ wl := tm_3 (List.mem_of_getElem? (i := 41) rfl) rfl
set_option maxRecDepth 20000 in
theorem w_455 : Cond.methodLink RX4 149 yX10_setSign ∈ wl := tm_3 (List.mem_of_getElem? (i := 58) rfl) rfl
set_option maxRecDepth 20000 in
theorem w_456 : Cond.fieldLink RX4 153 "LostWood$Wood" "pupils" "I" ∈ wl := tm_1 (List.mem_of_getElem? (i := 62) rfl) rfl
set_option maxRecDepth 20000 in
theorem w_457 : Cond.code yX10_addPupil cX10_addPupil 4 none ∈ wl := tm_3 (List.mem_of_getElem? (i := 73) rfl) rfl
set_option maxRecDepth 20000 in
theorem w_458 : Cond.methodLink RX4 162 yX10_addPupil ∈ wl := tm_3 (List.mem_of_getElem? (i := 70) rfl) rfl
set_option maxRecDepth 20000 in
theorem w_459 : Cond.instanceMethod yX10_addPupil ∈ wl := tm_3 (List.mem_of_getElem? (i := 71) rfl) rfl
set_option maxRecDepth 20000 in
theorem w_460 : Cond.selects RX10 yX10_addPupil yX10_addPupil ∈ wl := tm_3 (List.mem_of_getElem? (i := 72) rfl) rfl
set_option maxRecDepth 20000 in
theorem w_461 : Cond.fieldLink RX4 165 "LostWood$Wood" "lessons" "I" ∈ wl := tm_1 (List.mem_of_getElem? (i := 66) rfl) rfl
set_option maxRecDepth 20000 in
theorem w_462 : Cond.code yX10_addLesson cX10_addLesson 4 none ∈ wl := tm_3 (List.mem_of_getElem? (i := 83) rfl) rfl
set_option maxRecDepth 20000 in
theorem w_463 : Cond.methodLink RX4 170 yX10_addLesson ∈ wl := tm_3 (List.mem_of_getElem? (i := 80) rfl) rfl
set_option maxRecDepth 20000 in
theorem w_464 : Cond.instanceMethod yX10_addLesson ∈ wl := tm_3 (List.mem_of_getElem? (i := 81) rfl) rfl
set_option maxRecDepth 20000 in
theorem w_465 : Cond.selects RX10 yX10_addLesson yX10_addLesson ∈ wl := tm_3 (List.mem_of_getElem? (i := 82) rfl) rfl
set_option maxRecDepth 20000 in
theorem w_466 : Cond.fieldLink RX4 51 "LostWood$Wood" "lines" "I" ∈ wl := tm_1 (List.mem_of_getElem? (i := 70) rfl) rfl
set_option maxRecDepth 20000 in
theorem w_467 : Cond.code yX4_takeLessonLine cX4_takeLessonLine 3 (some .boolean) ∈ wl := tm_3 (List.mem_of_getElem? (i := 78) rfl) rfl
set_option maxRecDepth 20000 in
theorem w_468 : Cond.methodLink RX4 122 yX4_takeLessonLine ∈ wl := tm_3 (List.mem_of_getElem? (i := 75) rfl) rfl
set_option maxRecDepth 20000 in
theorem w_469 : Cond.instanceMethod yX4_takeLessonLine ∈ wl := tm_3 (List.mem_of_getElem? (i := 77) rfl) rfl
set_option maxRecDepth 20000 in
theorem w_470 : Cond.selects RX4 yX4_takeLessonLine yX4_takeLessonLine ∈ wl := tp_1 (q := (yX4_takeLessonLine, 10)) (List.mem_of_getElem? (i := 13) rfl)
set_option maxRecDepth 20000 in
theorem w_471 : Cond.code yX4_takePupilLine cX4_takePupilLine 5 (some .boolean) ∈ wl := tm_3 (List.mem_of_getElem? (i := 66) rfl) rfl
set_option maxRecDepth 20000 in
theorem w_472 : Cond.methodLink RX4 117 yX4_takePupilLine ∈ wl := tm_3 (List.mem_of_getElem? (i := 63) rfl) rfl
set_option maxRecDepth 20000 in
theorem w_473 : Cond.instanceMethod yX4_takePupilLine ∈ wl := tm_3 (List.mem_of_getElem? (i := 65) rfl) rfl
set_option maxRecDepth 20000 in
theorem w_474 : Cond.selects RX4 yX4_takePupilLine yX4_takePupilLine ∈ wl := tp_1 (q := (yX4_takePupilLine, 10)) (List.mem_of_getElem? (i := 12) rfl)
set_option maxRecDepth 20000 in
theorem w_475 : Cond.code yX4_takeMarkLine cX4_takeMarkLine 2 (some .boolean) ∈ wl := tm_3 (List.mem_of_getElem? (i := 57) rfl) rfl
set_option maxRecDepth 20000 in
theorem w_476 : Cond.methodLink RX4 112 yX4_takeMarkLine ∈ wl := tm_3 (List.mem_of_getElem? (i := 54) rfl) rfl
set_option maxRecDepth 20000 in
theorem w_477 : Cond.instanceMethod yX4_takeMarkLine ∈ wl := tm_3 (List.mem_of_getElem? (i := 56) rfl) rfl
set_option maxRecDepth 20000 in
theorem w_478 : Cond.selects RX4 yX4_takeMarkLine yX4_takeMarkLine ∈ wl := tp_1 (q := (yX4_takeMarkLine, 10)) (List.mem_of_getElem? (i := 11) rfl)
set_option maxRecDepth 20000 in
theorem w_479 : Cond.code yX4_takeWayLine cX4_takeWayLine 4 (some .boolean) ∈ wl := tm_3 (List.mem_of_getElem? (i := 31) rfl) rfl
set_option maxRecDepth 20000 in
theorem w_480 : Cond.methodLink RX4 107 yX4_takeWayLine ∈ wl := tm_3 (List.mem_of_getElem? (i := 28) rfl) rfl
set_option maxRecDepth 20000 in
theorem w_481 : Cond.instanceMethod yX4_takeWayLine ∈ wl := tm_3 (List.mem_of_getElem? (i := 30) rfl) rfl
set_option maxRecDepth 20000 in
theorem w_482 : Cond.selects RX4 yX4_takeWayLine yX4_takeWayLine ∈ wl := tp_1 (q := (yX4_takeWayLine, 10)) (List.mem_of_getElem? (i := 9) rfl)
set_option maxRecDepth 20000 in
theorem w_483 : Cond.code yX4_takeWoodLine cX4_takeWoodLine 1 (some .boolean) ∈ wl := tm_2 (List.mem_of_getElem? (i := 200) rfl) rfl
set_option maxRecDepth 20000 in
theorem w_484 : Cond.methodLink RX4 102 yX4_takeWoodLine ∈ wl := tm_2 (List.mem_of_getElem? (i := 197) rfl) rfl
set_option maxRecDepth 20000 in
theorem w_485 : Cond.instanceMethod yX4_takeWoodLine ∈ wl := tm_2 (List.mem_of_getElem? (i := 199) rfl) rfl
set_option maxRecDepth 20000 in
theorem w_486 : Cond.selects RX4 yX4_takeWoodLine yX4_takeWoodLine ∈ wl := tp_1 (q := (yX4_takeWoodLine, 10)) (List.mem_of_getElem? (i := 4) rfl)
set_option maxRecDepth 20000 in
theorem w_487 : Cond.code yX10_clear cX10_clear 2 none ∈ wl := tm_2 (List.mem_of_getElem? (i := 175) rfl) rfl
set_option maxRecDepth 20000 in
theorem w_488 : Cond.methodLink RX4 29 yX10_clear ∈ wl := tm_2 (List.mem_of_getElem? (i := 172) rfl) rfl
set_option maxRecDepth 20000 in
theorem w_489 : Cond.instanceMethod yX10_clear ∈ wl := tm_2 (List.mem_of_getElem? (i := 173) rfl) rfl
set_option maxRecDepth 20000 in
theorem w_490 : Cond.selects RX10 yX10_clear yX10_clear ∈ wl := tm_2 (List.mem_of_getElem? (i := 174) rfl) rfl
set_option maxRecDepth 20000 in
theorem w_491 : Cond.code yX4_takeLine cX4_takeLine 1 (some .boolean) ∈ wl := tm_2 (List.mem_of_getElem? (i := 196) rfl) rfl
set_option maxRecDepth 20000 in
theorem w_492 : Cond.methodLink RX4 44 yX4_takeLine ∈ wl := tm_2 (List.mem_of_getElem? (i := 193) rfl) rfl
set_option maxRecDepth 20000 in
theorem w_493 : Cond.instanceMethod yX4_takeLine ∈ wl := tm_2 (List.mem_of_getElem? (i := 195) rfl) rfl
set_option maxRecDepth 20000 in
theorem w_494 : Cond.selects RX4 yX4_takeLine yX4_takeLine ∈ wl := tp_1 (q := (yX4_takeLine, 10)) (List.mem_of_getElem? (i := 3) rfl)
set_option maxRecDepth 20000 in
theorem w_495 : Cond.code yX4_takeSemicolon cX4_takeSemicolon 1 (some .boolean) ∈ wl := tm_3 (List.mem_of_getElem? (i := 88) rfl) rfl
set_option maxRecDepth 20000 in
theorem w_496 : Cond.methodLink RX4 48 yX4_takeSemicolon ∈ wl := tm_3 (List.mem_of_getElem? (i := 85) rfl) rfl
set_option maxRecDepth 20000 in
theorem w_497 : Cond.instanceMethod yX4_takeSemicolon ∈ wl := tm_3 (List.mem_of_getElem? (i := 87) rfl) rfl
set_option maxRecDepth 20000 in
theorem w_498 : Cond.selects RX4 yX4_takeSemicolon yX4_takeSemicolon ∈ wl := tp_1 (q := (yX4_takeSemicolon, 10)) (List.mem_of_getElem? (i := 14) rfl)
set_option maxRecDepth 20000 in
theorem in_X4 : ∀ w ∈ wsX40, w ∈ wl := List.forall_mem_cons.mpr ⟨w_390, List.forall_mem_cons.mpr ⟨w_391, List.forall_mem_cons.mpr ⟨w_392, List.forall_mem_cons.mpr ⟨w_393, List.forall_mem_cons.mpr ⟨w_394, List.forall_mem_cons.mpr ⟨w_395, List.forall_mem_cons.mpr ⟨w_396, List.forall_mem_cons.mpr ⟨w_397, List.forall_mem_cons.mpr ⟨w_398, List.forall_mem_cons.mpr ⟨w_399, fun _ h => absurd h List.not_mem_nil⟩⟩⟩⟩⟩⟩⟩⟩⟩⟩
theorem kd_J0_coder_7d493 : okD yJ0_coder_7d493 0 := by decide +kernel
theorem kd_J3_checkIndex_8e157 : okD yJ3_checkIndex_8e157 3 := by decide +kernel
theorem kd_J0_checkIndex_df160 : okD yJ0_checkIndex_df160 2 := by decide +kernel
theorem kd_J0_isLatin1_aae02 : okD yJ0_isLatin1_aae02 0 := by decide +kernel
theorem kd_J1_charAt_3b067 : okD yJ1_charAt_3b067 2 := by decide +kernel
theorem kd_X4_kindAt : okD yX4_kindAt 1 := by decide +kernel
theorem kd_X4_byteAt : okD yX4_byteAt 1 := by decide +kernel
theorem kd_J0_length_8abf5 : okD yJ0_length_8abf5 0 := by decide +kernel
theorem kd_J0_charAt_5068e : okD yJ0_charAt_5068e 1 := by decide +kernel
theorem kd_X4_isWord : okD yX4_isWord 1 := by decide +kernel
theorem kd_X4_refuse : okD yX4_refuse 1 := by decide +kernel
theorem kd_X4_advance : okD yX4_advance 0 := by decide +kernel
theorem kd_X4_takeWord : okD yX4_takeWord 1 := by decide +kernel
theorem kd_X4_takeNumber : okD yX4_takeNumber 2 := by decide +kernel
theorem kd_X4_takeWind : okD yX4_takeWind 0 := by decide +kernel
theorem kd_X10_addPupil : okD yX10_addPupil 3 := by decide +kernel
theorem kd_X10_addLesson : okD yX10_addLesson 3 := by decide +kernel
theorem kd_X4_takeLessonLine : okD yX4_takeLessonLine 0 := by decide +kernel
theorem kd_X4_takePupilLine : okD yX4_takePupilLine 0 := by decide +kernel
theorem kd_X4_takeMarkLine : okD yX4_takeMarkLine 0 := by decide +kernel
theorem kd_X4_takeWayLine : okD yX4_takeWayLine 0 := by decide +kernel
theorem kd_X4_takeWoodLine : okD yX4_takeWoodLine 0 := by decide +kernel
theorem kd_X10_clear : okD yX10_clear 0 := by decide +kernel
theorem kd_X4_takeLine : okD yX4_takeLine 0 := by decide +kernel
theorem kd_X4_takeSemicolon : okD yX4_takeSemicolon 0 := by decide +kernel
set_option maxRecDepth 20000 in
theorem kV_J0_335 : okV RJ0 335 yJ0_coder_7d493 cJ0_coder_7d493 1 (some .byte) 0 := ⟨⟨w_371, w_369, w_370, kd_J0_coder_7d493⟩, w_372, w_373⟩
set_option maxRecDepth 20000 in
theorem kS_J0_1059 : okS RJ0 1059 yJ3_checkIndex_8e157 cJ3_checkIndex_8e157 3 (some .int) 3 := ⟨⟨w_377, w_375, w_376, kd_J3_checkIndex_8e157⟩, w_378⟩
set_option maxRecDepth 20000 in
theorem kS_J1_9 : okS RJ1 9 yJ0_checkIndex_df160 cJ0_checkIndex_df160 2 none 2 := ⟨⟨w_380, w_379, w_370, kd_J0_checkIndex_df160⟩, w_381⟩
set_option maxRecDepth 20000 in
theorem kV_J0_492 : okV RJ0 492 yJ0_isLatin1_aae02 cJ0_isLatin1_aae02 1 (some .boolean) 0 := ⟨⟨w_383, w_382, w_370, kd_J0_isLatin1_aae02⟩, w_384, w_385⟩
set_option maxRecDepth 20000 in
theorem kS_J0_495 : okS RJ0 495 yJ1_charAt_3b067 cJ1_charAt_3b067 2 (some .char) 2 := ⟨⟨w_388, w_386, w_387, kd_J1_charAt_3b067⟩, w_389⟩
set_option maxRecDepth 20000 in
theorem kV_X4_57 : okV RX4 57 yX4_kindAt cX4_kindAt 3 (some .int) 1 := ⟨⟨w_409, w_407, w_408, kd_X4_kindAt⟩, w_410, w_411⟩
set_option maxRecDepth 20000 in
theorem kV_X4_61 : okV RX4 61 yX4_byteAt cX4_byteAt 2 (some .int) 1 := ⟨⟨w_413, w_412, w_408, kd_X4_byteAt⟩, w_414, w_415⟩
set_option maxRecDepth 20000 in
theorem kV_X4_74 : okV RX4 74 yJ0_length_8abf5 cJ0_length_8abf5 1 (some .int) 0 := ⟨⟨w_420, w_419, w_370, kd_J0_length_8abf5⟩, w_421, w_422⟩
set_option maxRecDepth 20000 in
theorem kV_X4_79 : okV RX4 79 yJ0_charAt_5068e cJ0_charAt_5068e 2 (some .char) 1 := ⟨⟨w_424, w_423, w_370, kd_J0_charAt_5068e⟩, w_425, w_426⟩
set_option maxRecDepth 20000 in
theorem kV_X4_83 : okV RX4 83 yX4_isWord cX4_isWord 3 (some .boolean) 1 := ⟨⟨w_428, w_427, w_408, kd_X4_isWord⟩, w_429, w_430⟩
set_option maxRecDepth 20000 in
theorem kV_X4_87 : okV RX4 87 yX4_refuse cX4_refuse 2 (some .boolean) 1 := ⟨⟨w_432, w_431, w_408, kd_X4_refuse⟩, w_433, w_434⟩
set_option maxRecDepth 20000 in
theorem kV_X4_38 : okV RX4 38 yX4_advance cX4_advance 3 none 0 := ⟨⟨w_436, w_435, w_408, kd_X4_advance⟩, w_437, w_438⟩
set_option maxRecDepth 20000 in
theorem kV_X4_127 : okV RX4 127 yX4_takeWord cX4_takeWord 2 (some .boolean) 1 := ⟨⟨w_443, w_442, w_408, kd_X4_takeWord⟩, w_444, w_445⟩
set_option maxRecDepth 20000 in
theorem kV_X4_132 : okV RX4 132 yX4_takeNumber cX4_takeNumber 3 (some .boolean) 2 := ⟨⟨w_447, w_446, w_408, kd_X4_takeNumber⟩, w_448, w_449⟩
set_option maxRecDepth 20000 in
theorem kV_X4_138 : okV RX4 138 yX4_takeWind cX4_takeWind 1 (some .boolean) 0 := ⟨⟨w_451, w_450, w_408, kd_X4_takeWind⟩, w_452, w_453⟩
set_option maxRecDepth 20000 in
theorem kV_X4_143 : okV RX4 143 yX10_setWay cX10_setWay 4 none 3 := ⟨⟨w_454, w_218, w_25, kd_X10_setWay⟩, w_220, w_221⟩
set_option maxRecDepth 20000 in
theorem kV_X4_149 : okV RX4 149 yX10_setSign cX10_setSign 3 none 2 := ⟨⟨w_455, w_214, w_25, kd_X10_setSign⟩, w_216, w_217⟩
set_option maxRecDepth 20000 in
theorem kV_X4_162 : okV RX4 162 yX10_addPupil cX10_addPupil 4 none 3 := ⟨⟨w_458, w_457, w_25, kd_X10_addPupil⟩, w_459, w_460⟩
set_option maxRecDepth 20000 in
theorem kV_X4_170 : okV RX4 170 yX10_addLesson cX10_addLesson 4 none 3 := ⟨⟨w_463, w_462, w_25, kd_X10_addLesson⟩, w_464, w_465⟩
set_option maxRecDepth 20000 in
theorem kV_X4_122 : okV RX4 122 yX4_takeLessonLine cX4_takeLessonLine 3 (some .boolean) 0 := ⟨⟨w_468, w_467, w_408, kd_X4_takeLessonLine⟩, w_469, w_470⟩
set_option maxRecDepth 20000 in
theorem kV_X4_117 : okV RX4 117 yX4_takePupilLine cX4_takePupilLine 5 (some .boolean) 0 := ⟨⟨w_472, w_471, w_408, kd_X4_takePupilLine⟩, w_473, w_474⟩
set_option maxRecDepth 20000 in
theorem kV_X4_112 : okV RX4 112 yX4_takeMarkLine cX4_takeMarkLine 2 (some .boolean) 0 := ⟨⟨w_476, w_475, w_408, kd_X4_takeMarkLine⟩, w_477, w_478⟩
set_option maxRecDepth 20000 in
theorem kV_X4_107 : okV RX4 107 yX4_takeWayLine cX4_takeWayLine 4 (some .boolean) 0 := ⟨⟨w_480, w_479, w_408, kd_X4_takeWayLine⟩, w_481, w_482⟩
set_option maxRecDepth 20000 in
theorem kV_X4_102 : okV RX4 102 yX4_takeWoodLine cX4_takeWoodLine 1 (some .boolean) 0 := ⟨⟨w_484, w_483, w_408, kd_X4_takeWoodLine⟩, w_485, w_486⟩
set_option maxRecDepth 20000 in
theorem kV_X4_29 : okV RX4 29 yX10_clear cX10_clear 2 none 0 := ⟨⟨w_488, w_487, w_25, kd_X10_clear⟩, w_489, w_490⟩
set_option maxRecDepth 20000 in
theorem kV_X4_44 : okV RX4 44 yX4_takeLine cX4_takeLine 1 (some .boolean) 0 := ⟨⟨w_492, w_491, w_408, kd_X4_takeLine⟩, w_493, w_494⟩
set_option maxRecDepth 20000 in
theorem kV_X4_48 : okV RX4 48 yX4_takeSemicolon cX4_takeSemicolon 1 (some .boolean) 0 := ⟨⟨w_496, w_495, w_408, kd_X4_takeSemicolon⟩, w_497, w_498⟩
