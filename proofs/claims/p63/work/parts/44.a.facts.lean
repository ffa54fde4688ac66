set_option maxRecDepth 20000 in
theorem w_925 : Cond.code yX12_bit cX12_bit 2 (some .int) ∈ wl := tm_7 (List.mem_of_getElem? (i := 139) rfl) rfl
set_option maxRecDepth 20000 in
theorem w_926 : Cond.methodLink RX12 270 yX12_bit ∈ wl := tm_7 (List.mem_of_getElem? (i := 137) rfl) rfl
set_option maxRecDepth 20000 in
theorem w_927 : Cond.static yX12_bit ∈ wl := tm_7 (List.mem_of_getElem? (i := 138) rfl) rfl
set_option maxRecDepth 20000 in
theorem w_928 : Cond.code yX12_leadsTo cX12_leadsTo 3 (some .int) ∈ wl := tm_7 (List.mem_of_getElem? (i := 108) rfl) rfl
set_option maxRecDepth 20000 in
theorem w_929 : Cond.methodLink RX12 273 yX12_leadsTo ∈ wl := tm_7 (List.mem_of_getElem? (i := 105) rfl) rfl
set_option maxRecDepth 20000 in
theorem w_930 : Cond.instanceMethod yX12_leadsTo ∈ wl := tm_7 (List.mem_of_getElem? (i := 107) rfl) rfl
set_option maxRecDepth 20000 in
theorem w_931 : Cond.selects RX12 yX12_leadsTo yX12_leadsTo ∈ wl := tp_4 (q := (yX12_leadsTo, 53)) (List.mem_of_getElem? (i := 9) rfl)
set_option maxRecDepth 20000 in
theorem w_932 : Cond.code yX12_markOf cX12_markOf 2 (some .int) ∈ wl := tm_7 (List.mem_of_getElem? (i := 116) rfl) rfl
set_option maxRecDepth 20000 in
theorem w_933 : Cond.methodLink RX12 276 yX12_markOf ∈ wl := tm_7 (List.mem_of_getElem? (i := 113) rfl) rfl
set_option maxRecDepth 20000 in
theorem w_934 : Cond.instanceMethod yX12_markOf ∈ wl := tm_7 (List.mem_of_getElem? (i := 115) rfl) rfl
set_option maxRecDepth 20000 in
theorem w_935 : Cond.selects RX12 yX12_markOf yX12_markOf ∈ wl := tp_4 (q := (yX12_markOf, 53)) (List.mem_of_getElem? (i := 10) rfl)
set_option maxRecDepth 20000 in
theorem w_936 : Cond.code yX12_isWind cX12_isWind 2 (some .boolean) ∈ wl := tm_7 (List.mem_of_getElem? (i := 103) rfl) rfl
set_option maxRecDepth 20000 in
theorem w_937 : Cond.methodLink RX12 279 yX12_isWind ∈ wl := tm_7 (List.mem_of_getElem? (i := 101) rfl) rfl
set_option maxRecDepth 20000 in
theorem w_938 : Cond.static yX12_isWind ∈ wl := tm_7 (List.mem_of_getElem? (i := 102) rfl) rfl
set_option maxRecDepth 20000 in
theorem w_939 : Cond.code yX12_isSet cX12_isSet 2 (some .boolean) ∈ wl := tm_7 (List.mem_of_getElem? (i := 124) rfl) rfl
set_option maxRecDepth 20000 in
theorem w_940 : Cond.methodLink RX12 282 yX12_isSet ∈ wl := tm_7 (List.mem_of_getElem? (i := 121) rfl) rfl
set_option maxRecDepth 20000 in
theorem w_941 : Cond.instanceMethod yX12_isSet ∈ wl := tm_7 (List.mem_of_getElem? (i := 123) rfl) rfl
set_option maxRecDepth 20000 in
theorem w_942 : Cond.selects RX12 yX12_isSet yX12_isSet ∈ wl := tp_4 (q := (yX12_isSet, 53)) (List.mem_of_getElem? (i := 11) rfl)
set_option maxRecDepth 20000 in
theorem w_943 : Cond.code yX12_becomesOf cX12_becomesOf 5 (some .int) ∈ wl := tm_7 (List.mem_of_getElem? (i := 136) rfl) rfl
set_option maxRecDepth 20000 in
theorem w_944 : Cond.methodLink RX12 286 yX12_becomesOf ∈ wl := tm_7 (List.mem_of_getElem? (i := 133) rfl) rfl
set_option maxRecDepth 20000 in
theorem w_945 : Cond.instanceMethod yX12_becomesOf ∈ wl := tm_7 (List.mem_of_getElem? (i := 135) rfl) rfl
set_option maxRecDepth 20000 in
theorem w_946 : Cond.selects RX12 yX12_becomesOf yX12_becomesOf ∈ wl := tp_4 (q := (yX12_becomesOf, 53)) (List.mem_of_getElem? (i := 14) rfl)
set_option maxRecDepth 20000 in
theorem w_947 : Cond.constantLong RX12 289 (9) ∈ wl := tm_7 (List.mem_of_getElem? (i := 144) rfl) rfl
set_option maxRecDepth 20000 in
theorem w_948 : Cond.code yX12_seenOf cX12_seenOf 5 (some .int) ∈ wl := tm_7 (List.mem_of_getElem? (i := 148) rfl) rfl
set_option maxRecDepth 20000 in
theorem w_949 : Cond.methodLink RX12 291 yX12_seenOf ∈ wl := tm_7 (List.mem_of_getElem? (i := 145) rfl) rfl
set_option maxRecDepth 20000 in
theorem w_950 : Cond.instanceMethod yX12_seenOf ∈ wl := tm_7 (List.mem_of_getElem? (i := 147) rfl) rfl
set_option maxRecDepth 20000 in
theorem w_951 : Cond.selects RX12 yX12_seenOf yX12_seenOf ∈ wl := tp_4 (q := (yX12_seenOf, 53)) (List.mem_of_getElem? (i := 15) rfl)
set_option maxRecDepth 20000 in
theorem w_952 : Cond.fieldLink RX12 297 "LostWoodModel" "where" "I" ∈ wl := tm_6 (List.mem_of_getElem? (i := 62) rfl) rfl
set_option maxRecDepth 20000 in
theorem w_953 : Cond.fieldLink RX12 303 "LostWoodModel" "thinks" "I" ∈ wl := tm_6 (List.mem_of_getElem? (i := 63) rfl) rfl
set_option maxRecDepth 20000 in
theorem w_954 : Cond.fieldLink RX12 308 "LostWoodModel" "lies" "I" ∈ wl := tm_6 (List.mem_of_getElem? (i := 64) rfl) rfl
set_option maxRecDepth 20000 in
theorem w_955 : Cond.code yX12_whereOf cX12_whereOf 2 (some .int) ∈ wl := tm_7 (List.mem_of_getElem? (i := 160) rfl) rfl
set_option maxRecDepth 20000 in
theorem w_956 : Cond.methodLink RX12 294 yX12_whereOf ∈ wl := tm_7 (List.mem_of_getElem? (i := 157) rfl) rfl
set_option maxRecDepth 20000 in
theorem w_957 : Cond.instanceMethod yX12_whereOf ∈ wl := tm_7 (List.mem_of_getElem? (i := 159) rfl) rfl
set_option maxRecDepth 20000 in
theorem w_958 : Cond.selects RX12 yX12_whereOf yX12_whereOf ∈ wl := tp_5 (q := (yX12_whereOf, 53)) (List.mem_of_getElem? (i := 1) rfl)
set_option maxRecDepth 20000 in
theorem w_959 : Cond.code yX12_thinksOf cX12_thinksOf 2 (some .int) ∈ wl := tm_7 (List.mem_of_getElem? (i := 168) rfl) rfl
set_option maxRecDepth 20000 in
theorem w_960 : Cond.methodLink RX12 300 yX12_thinksOf ∈ wl := tm_7 (List.mem_of_getElem? (i := 165) rfl) rfl
set_option maxRecDepth 20000 in
theorem w_961 : Cond.instanceMethod yX12_thinksOf ∈ wl := tm_7 (List.mem_of_getElem? (i := 167) rfl) rfl
set_option maxRecDepth 20000 in
theorem w_962 : Cond.selects RX12 yX12_thinksOf yX12_thinksOf ∈ wl := tp_5 (q := (yX12_thinksOf, 53)) (List.mem_of_getElem? (i := 2) rfl)
set_option maxRecDepth 20000 in
theorem w_963 : Cond.code yX12_liesOf cX12_liesOf 2 (some .int) ∈ wl := tm_7 (List.mem_of_getElem? (i := 180) rfl) rfl
set_option maxRecDepth 20000 in
theorem w_964 : Cond.methodLink RX12 305 yX12_liesOf ∈ wl := tm_7 (List.mem_of_getElem? (i := 177) rfl) rfl
set_option maxRecDepth 20000 in
theorem w_965 : Cond.instanceMethod yX12_liesOf ∈ wl := tm_7 (List.mem_of_getElem? (i := 179) rfl) rfl
set_option maxRecDepth 20000 in
theorem w_966 : Cond.selects RX12 yX12_liesOf yX12_liesOf ∈ wl := tp_5 (q := (yX12_liesOf, 53)) (List.mem_of_getElem? (i := 4) rfl)
set_option maxRecDepth 20000 in
theorem w_967 : Cond.code yX12_isPupil cX12_isPupil 2 (some .boolean) ∈ wl := tm_7 (List.mem_of_getElem? (i := 156) rfl) rfl
set_option maxRecDepth 20000 in
theorem w_968 : Cond.methodLink RX12 310 yX12_isPupil ∈ wl := tm_7 (List.mem_of_getElem? (i := 153) rfl) rfl
set_option maxRecDepth 20000 in
theorem w_969 : Cond.instanceMethod yX12_isPupil ∈ wl := tm_7 (List.mem_of_getElem? (i := 155) rfl) rfl
set_option maxRecDepth 20000 in
theorem w_970 : Cond.selects RX12 yX12_isPupil yX12_isPupil ∈ wl := tp_5 (q := (yX12_isPupil, 53)) (List.mem_of_getElem? (i := 0) rfl)
set_option maxRecDepth 20000 in
theorem w_971 : Cond.code yX12_be cX12_be 2 none ∈ wl := tm_7 (List.mem_of_getElem? (i := 176) rfl) rfl
set_option maxRecDepth 20000 in
theorem w_972 : Cond.methodLink RX12 313 yX12_be ∈ wl := tm_7 (List.mem_of_getElem? (i := 173) rfl) rfl
set_option maxRecDepth 20000 in
theorem w_973 : Cond.instanceMethod yX12_be ∈ wl := tm_7 (List.mem_of_getElem? (i := 175) rfl) rfl
set_option maxRecDepth 20000 in
theorem w_974 : Cond.selects RX12 yX12_be yX12_be ∈ wl := tp_5 (q := (yX12_be, 53)) (List.mem_of_getElem? (i := 3) rfl)
set_option maxRecDepth 20000 in
theorem w_975 : Cond.code yX12_isLost cX12_isLost 1 (some .boolean) ∈ wl := tm_7 (List.mem_of_getElem? (i := 191) rfl) rfl
set_option maxRecDepth 20000 in
theorem w_976 : Cond.methodLink RX12 322 yX12_isLost ∈ wl := tm_7 (List.mem_of_getElem? (i := 188) rfl) rfl
set_option maxRecDepth 20000 in
theorem w_977 : Cond.instanceMethod yX12_isLost ∈ wl := tm_7 (List.mem_of_getElem? (i := 190) rfl) rfl
set_option maxRecDepth 20000 in
theorem w_978 : Cond.selects RX12 yX12_isLost yX12_isLost ∈ wl := tp_5 (q := (yX12_isLost, 53)) (List.mem_of_getElem? (i := 6) rfl)
set_option maxRecDepth 20000 in
theorem w_979 : Cond.code yX12_isKnowing cX12_isKnowing 1 (some .boolean) ∈ wl := tm_7 (List.mem_of_getElem? (i := 187) rfl) rfl
set_option maxRecDepth 20000 in
theorem w_980 : Cond.methodLink RX12 319 yX12_isKnowing ∈ wl := tm_7 (List.mem_of_getElem? (i := 184) rfl) rfl
set_option maxRecDepth 20000 in
theorem w_981 : Cond.instanceMethod yX12_isKnowing ∈ wl := tm_7 (List.mem_of_getElem? (i := 186) rfl) rfl
set_option maxRecDepth 20000 in
theorem w_982 : Cond.selects RX12 yX12_isKnowing yX12_isKnowing ∈ wl := tp_5 (q := (yX12_isKnowing, 53)) (List.mem_of_getElem? (i := 5) rfl)
set_option maxRecDepth 20000 in
theorem w_983 : Cond.code yX12_bits cX12_bits 3 (some .int) ∈ wl := tm_7 (List.mem_of_getElem? (i := 183) rfl) rfl
set_option maxRecDepth 20000 in
theorem w_984 : Cond.methodLink RX12 316 yX12_bits ∈ wl := tm_7 (List.mem_of_getElem? (i := 181) rfl) rfl
set_option maxRecDepth 20000 in
theorem w_985 : Cond.static yX12_bits ∈ wl := tm_7 (List.mem_of_getElem? (i := 182) rfl) rfl
set_option maxRecDepth 20000 in
theorem w_986 : Cond.code yX12_step cX12_step 3 none ∈ wl := tm_7 (List.mem_of_getElem? (i := 199) rfl) rfl
set_option maxRecDepth 20000 in
theorem w_987 : Cond.methodLink RX12 325 yX12_step ∈ wl := tm_7 (List.mem_of_getElem? (i := 196) rfl) rfl
set_option maxRecDepth 20000 in
theorem w_988 : Cond.instanceMethod yX12_step ∈ wl := tm_7 (List.mem_of_getElem? (i := 198) rfl) rfl
set_option maxRecDepth 20000 in
theorem w_989 : Cond.selects RX12 yX12_step yX12_step ∈ wl := tp_5 (q := (yX12_step, 53)) (List.mem_of_getElem? (i := 7) rfl)
set_option maxRecDepth 20000 in
theorem w_990 : Cond.methodLink RX12 328 Lib.Math.max.name ∈ wl := tm_7 (List.mem_of_getElem? (i := 204) rfl) rfl
set_option maxRecDepth 20000 in
theorem w_991 : Cond.code yX12_takeBack cX12_takeBack 2 none ∈ wl := tm_7 (List.mem_of_getElem? (i := 216) rfl) rfl
set_option maxRecDepth 20000 in
theorem w_992 : Cond.methodLink RX12 331 yX12_takeBack ∈ wl := tm_7 (List.mem_of_getElem? (i := 213) rfl) rfl
set_option maxRecDepth 20000 in
theorem w_993 : Cond.instanceMethod yX12_takeBack ∈ wl := tm_7 (List.mem_of_getElem? (i := 215) rfl) rfl
set_option maxRecDepth 20000 in
theorem w_994 : Cond.selects RX12 yX12_takeBack yX12_takeBack ∈ wl := tp_5 (q := (yX12_takeBack, 53)) (List.mem_of_getElem? (i := 8) rfl)
set_option maxRecDepth 20000 in
theorem w_995 : Cond.fieldLink RX12 103 "LostWoodModel" "numbers" "[J" ∈ wl := tm_6 (List.mem_of_getElem? (i := 98) rfl) rfl
set_option maxRecDepth 20000 in
theorem w_996 : Cond.code yX12_isSlot cX12_isSlot 1 (some .boolean) ∈ wl := tm_7 (List.mem_of_getElem? (i := 231) rfl) rfl
set_option maxRecDepth 20000 in
theorem w_997 : Cond.methodLink RX12 334 yX12_isSlot ∈ wl := tm_7 (List.mem_of_getElem? (i := 229) rfl) rfl
set_option maxRecDepth 20000 in
theorem w_998 : Cond.static yX12_isSlot ∈ wl := tm_7 (List.mem_of_getElem? (i := 230) rfl) rfl
set_option maxRecDepth 20000 in
theorem w_999 : Cond.fieldLink RX12 97 "LostWoodModel" "many" "[I" ∈ wl := tm_6 (List.mem_of_getElem? (i := 96) rfl) rfl
set_option maxRecDepth 20000 in
theorem w_1000 : Cond.code yX12_numberAt cX12_numberAt 3 (some .long) ∈ wl := tm_7 (List.mem_of_getElem? (i := 235) rfl) rfl
set_option maxRecDepth 20000 in
theorem w_1001 : Cond.methodLink RX12 337 yX12_numberAt ∈ wl := tm_7 (List.mem_of_getElem? (i := 232) rfl) rfl
set_option maxRecDepth 20000 in
theorem w_1002 : Cond.instanceMethod yX12_numberAt ∈ wl := tm_7 (List.mem_of_getElem? (i := 234) rfl) rfl
set_option maxRecDepth 20000 in
theorem w_1003 : Cond.selects RX12 yX12_numberAt yX12_numberAt ∈ wl := tp_5 (q := (yX12_numberAt, 53)) (List.mem_of_getElem? (i := 10) rfl)
set_option maxRecDepth 20000 in
theorem w_1004 : Cond.fieldLink RX12 341 "LostWoodModel" "firstKnows" "I" ∈ wl := tm_6 (List.mem_of_getElem? (i := 65) rfl) rfl
set_option maxRecDepth 20000 in
theorem w_1005 : Cond.fieldLink RX12 344 "LostWoodModel" "firstLost" "I" ∈ wl := tm_6 (List.mem_of_getElem? (i := 66) rfl) rfl
set_option maxRecDepth 20000 in
theorem w_1006 : Cond.fieldLink RX12 347 "LostWoodModel" "mostDoubt" "I" ∈ wl := tm_6 (List.mem_of_getElem? (i := 67) rfl) rfl
set_option maxRecDepth 20000 in
theorem w_1007 : Cond.code yX12_note cX12_note 2 none ∈ wl := tm_8 (List.mem_of_getElem? (i := 3) rfl) rfl
set_option maxRecDepth 20000 in
theorem w_1008 : Cond.methodLink RX12 350 yX12_note ∈ wl := tm_8 (List.mem_of_getElem? (i := 0) rfl) rfl
set_option maxRecDepth 20000 in
theorem w_1009 : Cond.instanceMethod yX12_note ∈ wl := tm_8 (List.mem_of_getElem? (i := 2) rfl) rfl
set_option maxRecDepth 20000 in
theorem w_1010 : Cond.selects RX12 yX12_note yX12_note ∈ wl := tp_5 (q := (yX12_note, 53)) (List.mem_of_getElem? (i := 12) rfl)
set_option maxRecDepth 20000 in
theorem w_1011 : Cond.code yX12_asksWalk cX12_asksWalk 4 (some .int) ∈ wl := tm_7 (List.mem_of_getElem? (i := 228) rfl) rfl
set_option maxRecDepth 20000 in
theorem w_1012 : Cond.methodLink RX12 353 yX12_asksWalk ∈ wl := tm_7 (List.mem_of_getElem? (i := 225) rfl) rfl
set_option maxRecDepth 20000 in
theorem w_1013 : Cond.instanceMethod yX12_asksWalk ∈ wl := tm_7 (List.mem_of_getElem? (i := 227) rfl) rfl
set_option maxRecDepth 20000 in
theorem w_1014 : Cond.selects RX12 yX12_asksWalk yX12_asksWalk ∈ wl := tp_5 (q := (yX12_asksWalk, 53)) (List.mem_of_getElem? (i := 9) rfl)
set_option maxRecDepth 20000 in
theorem w_1015 : Cond.code yX12_walk cX12_walk 4 none ∈ wl := tm_7 (List.mem_of_getElem? (i := 239) rfl) rfl
set_option maxRecDepth 20000 in
theorem w_1016 : Cond.methodLink RX12 356 yX12_walk ∈ wl := tm_7 (List.mem_of_getElem? (i := 236) rfl) rfl
set_option maxRecDepth 20000 in
theorem w_1017 : Cond.instanceMethod yX12_walk ∈ wl := tm_7 (List.mem_of_getElem? (i := 238) rfl) rfl
set_option maxRecDepth 20000 in
theorem w_1018 : Cond.selects RX12 yX12_walk yX12_walk ∈ wl := tp_5 (q := (yX12_walk, 53)) (List.mem_of_getElem? (i := 11) rfl)
theorem kd_X12_bit : okD yX12_bit 2 := by decide +kernel
theorem kd_X12_leadsTo : okD yX12_leadsTo 2 := by decide +kernel
theorem kd_X12_markOf : okD yX12_markOf 1 := by decide +kernel
theorem kd_X12_isWind : okD yX12_isWind 1 := by decide +kernel
theorem kd_X12_isSet : okD yX12_isSet 1 := by decide +kernel
theorem kd_X12_becomesOf : okD yX12_becomesOf 2 := by decide +kernel
theorem kd_X12_seenOf : okD yX12_seenOf 2 := by decide +kernel
theorem kd_X12_whereOf : okD yX12_whereOf 1 := by decide +kernel
theorem kd_X12_thinksOf : okD yX12_thinksOf 1 := by decide +kernel
theorem kd_X12_liesOf : okD yX12_liesOf 1 := by decide +kernel
theorem kd_X12_isPupil : okD yX12_isPupil 1 := by decide +kernel
theorem kd_X12_be : okD yX12_be 1 := by decide +kernel
theorem kd_X12_isLost : okD yX12_isLost 0 := by decide +kernel
theorem kd_X12_isKnowing : okD yX12_isKnowing 0 := by decide +kernel
theorem kd_X12_bits : okD yX12_bits 1 := by decide +kernel
theorem kd_X12_step : okD yX12_step 1 := by decide +kernel
theorem kd_X12_takeBack : okD yX12_takeBack 0 := by decide +kernel
theorem kd_X12_isSlot : okD yX12_isSlot 1 := by decide +kernel
theorem kd_X12_numberAt : okD yX12_numberAt 2 := by decide +kernel
theorem kd_X12_note : okD yX12_note 1 := by decide +kernel
theorem kd_X12_asksWalk : okD yX12_asksWalk 2 := by decide +kernel
theorem kd_X12_walk : okD yX12_walk 2 := by decide +kernel
set_option maxRecDepth 20000 in
theorem kS_X12_270 : okS RX12 270 yX12_bit cX12_bit 2 (some .int) 2 := ⟨⟨w_926, w_925, w_765, kd_X12_bit⟩, w_927⟩
set_option maxRecDepth 20000 in
theorem kV_X12_273 : okV RX12 273 yX12_leadsTo cX12_leadsTo 3 (some .int) 2 := ⟨⟨w_929, w_928, w_765, kd_X12_leadsTo⟩, w_930, w_931⟩
set_option maxRecDepth 20000 in
theorem kV_X12_276 : okV RX12 276 yX12_markOf cX12_markOf 2 (some .int) 1 := ⟨⟨w_933, w_932, w_765, kd_X12_markOf⟩, w_934, w_935⟩
set_option maxRecDepth 20000 in
theorem kS_X12_279 : okS RX12 279 yX12_isWind cX12_isWind 2 (some .boolean) 1 := ⟨⟨w_937, w_936, w_765, kd_X12_isWind⟩, w_938⟩
set_option maxRecDepth 20000 in
theorem kV_X12_282 : okV RX12 282 yX12_isSet cX12_isSet 2 (some .boolean) 1 := ⟨⟨w_940, w_939, w_765, kd_X12_isSet⟩, w_941, w_942⟩
set_option maxRecDepth 20000 in
theorem kV_X12_286 : okV RX12 286 yX12_becomesOf cX12_becomesOf 5 (some .int) 2 := ⟨⟨w_944, w_943, w_765, kd_X12_becomesOf⟩, w_945, w_946⟩
set_option maxRecDepth 20000 in
theorem kV_X12_291 : okV RX12 291 yX12_seenOf cX12_seenOf 5 (some .int) 2 := ⟨⟨w_949, w_948, w_765, kd_X12_seenOf⟩, w_950, w_951⟩
set_option maxRecDepth 20000 in
theorem kV_X12_294 : okV RX12 294 yX12_whereOf cX12_whereOf 2 (some .int) 1 := ⟨⟨w_956, w_955, w_765, kd_X12_whereOf⟩, w_957, w_958⟩
set_option maxRecDepth 20000 in
theorem kV_X12_300 : okV RX12 300 yX12_thinksOf cX12_thinksOf 2 (some .int) 1 := ⟨⟨w_960, w_959, w_765, kd_X12_thinksOf⟩, w_961, w_962⟩
set_option maxRecDepth 20000 in
theorem kV_X12_305 : okV RX12 305 yX12_liesOf cX12_liesOf 2 (some .int) 1 := ⟨⟨w_964, w_963, w_765, kd_X12_liesOf⟩, w_965, w_966⟩
set_option maxRecDepth 20000 in
theorem kV_X12_310 : okV RX12 310 yX12_isPupil cX12_isPupil 2 (some .boolean) 1 := ⟨⟨w_968, w_967, w_765, kd_X12_isPupil⟩, w_969, w_970⟩
set_option maxRecDepth 20000 in
theorem kV_X12_313 : okV RX12 313 yX12_be cX12_be 2 none 1 := ⟨⟨w_972, w_971, w_765, kd_X12_be⟩, w_973, w_974⟩
set_option maxRecDepth 20000 in
theorem kV_X12_322 : okV RX12 322 yX12_isLost cX12_isLost 1 (some .boolean) 0 := ⟨⟨w_976, w_975, w_765, kd_X12_isLost⟩, w_977, w_978⟩
set_option maxRecDepth 20000 in
theorem kV_X12_319 : okV RX12 319 yX12_isKnowing cX12_isKnowing 1 (some .boolean) 0 := ⟨⟨w_980, w_979, w_765, kd_X12_isKnowing⟩, w_981, w_982⟩
set_option maxRecDepth 20000 in
theorem kS_X12_316 : okS RX12 316 yX12_bits cX12_bits 3 (some .int) 1 := ⟨⟨w_984, w_983, w_765, kd_X12_bits⟩, w_985⟩
set_option maxRecDepth 20000 in
theorem kV_X12_325 : okV RX12 325 yX12_step cX12_step 3 none 1 := ⟨⟨w_987, w_986, w_765, kd_X12_step⟩, w_988, w_989⟩
set_option maxRecDepth 20000 in
theorem kV_X12_331 : okV RX12 331 yX12_takeBack cX12_takeBack 2 none 0 := ⟨⟨w_992, w_991, w_765, kd_X12_takeBack⟩, w_993, w_994⟩
set_option maxRecDepth 20000 in
theorem kS_X12_334 : okS RX12 334 yX12_isSlot cX12_isSlot 1 (some .boolean) 1 := ⟨⟨w_997, w_996, w_765, kd_X12_isSlot⟩, w_998⟩
set_option maxRecDepth 20000 in
theorem kV_X12_337 : okV RX12 337 yX12_numberAt cX12_numberAt 3 (some .long) 2 := ⟨⟨w_1001, w_1000, w_765, kd_X12_numberAt⟩, w_1002, w_1003⟩
set_option maxRecDepth 20000 in
theorem kV_X12_350 : okV RX12 350 yX12_note cX12_note 2 none 1 := ⟨⟨w_1008, w_1007, w_765, kd_X12_note⟩, w_1009, w_1010⟩
set_option maxRecDepth 20000 in
theorem kV_X12_353 : okV RX12 353 yX12_asksWalk cX12_asksWalk 4 (some .int) 2 := ⟨⟨w_1012, w_1011, w_765, kd_X12_asksWalk⟩, w_1013, w_1014⟩
set_option maxRecDepth 20000 in
theorem kV_X12_356 : okV RX12 356 yX12_walk cX12_walk 4 none 2 := ⟨⟨w_1016, w_1015, w_765, kd_X12_walk⟩, w_1017, w_1018⟩
