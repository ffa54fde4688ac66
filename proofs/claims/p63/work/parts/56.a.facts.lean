set_option maxRecDepth 20000 in
theorem w_1118 : Cond.fieldLink RX12 88 "LostWoodModel" "cost" "[I" ∈ wl := tm_6 (List.mem_of_getElem? (i := 92) rfl) rfl
set_option maxRecDepth 20000 in
theorem w_1119 : Cond.code yX12_fillCosts cX12_fillCosts 8 none ∈ wl := tm_9 (List.mem_of_getElem? (i := 1) rfl) rfl
set_option maxRecDepth 20000 in
theorem w_1120 : Cond.methodLink RX12 459 yX12_fillCosts ∈ wl := tm_8 (List.mem_of_getElem? (i := 238) rfl) rfl
set_option maxRecDepth 20000 in
theorem w_1121 : Cond.instanceMethod yX12_fillCosts ∈ wl := tm_9 (List.mem_of_getElem? (i := 0) rfl) rfl
set_option maxRecDepth 20000 in
theorem w_1122 : Cond.selects RX12 yX12_fillCosts yX12_fillCosts ∈ wl := tp_7 (q := (yX12_fillCosts, 53)) (List.mem_of_getElem? (i := 6) rfl)
set_option maxRecDepth 20000 in
theorem w_1123 : Cond.fieldLink RX12 91 "LostWoodModel" "rows" "[I" ∈ wl := tm_6 (List.mem_of_getElem? (i := 93) rfl) rfl
set_option maxRecDepth 20000 in
theorem w_1124 : Cond.fieldLink RX12 94 "LostWoodModel" "rowsThen" "[I" ∈ wl := tm_6 (List.mem_of_getElem? (i := 94) rfl) rfl
set_option maxRecDepth 20000 in
theorem w_1125 : Cond.constantLong RX12 462 (15) ∈ wl := tm_9 (List.mem_of_getElem? (i := 14) rfl) rfl
set_option maxRecDepth 20000 in
theorem w_1126 : Cond.code yX12_goFog cX12_goFog 6 none ∈ wl := tm_9 (List.mem_of_getElem? (i := 18) rfl) rfl
set_option maxRecDepth 20000 in
theorem w_1127 : Cond.methodLink RX12 464 yX12_goFog ∈ wl := tm_9 (List.mem_of_getElem? (i := 15) rfl) rfl
set_option maxRecDepth 20000 in
theorem w_1128 : Cond.instanceMethod yX12_goFog ∈ wl := tm_9 (List.mem_of_getElem? (i := 17) rfl) rfl
set_option maxRecDepth 20000 in
theorem w_1129 : Cond.selects RX12 yX12_goFog yX12_goFog ∈ wl := tp_7 (q := (yX12_goFog, 53)) (List.mem_of_getElem? (i := 7) rfl)
set_option maxRecDepth 20000 in
theorem w_1130 : Cond.code yX12_divisor cX12_divisor 5 (some .int) ∈ wl := tm_9 (List.mem_of_getElem? (i := 21) rfl) rfl
set_option maxRecDepth 20000 in
theorem w_1131 : Cond.methodLink RX12 467 yX12_divisor ∈ wl := tm_9 (List.mem_of_getElem? (i := 19) rfl) rfl
set_option maxRecDepth 20000 in
theorem w_1132 : Cond.static yX12_divisor ∈ wl := tm_9 (List.mem_of_getElem? (i := 20) rfl) rfl
set_option maxRecDepth 20000 in
theorem w_1133 : Cond.fieldLink RX12 470 "LostWoodModel" "knewOften" "I" ∈ wl := tm_6 (List.mem_of_getElem? (i := 95) rfl) rfl
set_option maxRecDepth 20000 in
theorem w_1134 : Cond.constantLong RX12 473 (1103515245) ∈ wl := tm_9 (List.mem_of_getElem? (i := 52) rfl) rfl
set_option maxRecDepth 20000 in
theorem w_1135 : Cond.constantLong RX12 475 (12345) ∈ wl := tm_9 (List.mem_of_getElem? (i := 53) rfl) rfl
set_option maxRecDepth 20000 in
theorem w_1136 : Cond.constantLong RX12 477 (2147483648) ∈ wl := tm_9 (List.mem_of_getElem? (i := 54) rfl) rfl
set_option maxRecDepth 20000 in
theorem w_1137 : Cond.constantLong RX12 479 (65536) ∈ wl := tm_9 (List.mem_of_getElem? (i := 55) rfl) rfl
set_option maxRecDepth 20000 in
theorem w_1138 : Cond.constantLong RX12 481 (2000000000) ∈ wl := tm_9 (List.mem_of_getElem? (i := 46) rfl) rfl
set_option maxRecDepth 20000 in
theorem w_1139 : Cond.constantLong RX12 483 (40) ∈ wl := tm_9 (List.mem_of_getElem? (i := 47) rfl) rfl
set_option maxRecDepth 20000 in
theorem w_1140 : Cond.constantLong RX12 113 (2) ∈ wl := tm_6 (List.mem_of_getElem? (i := 212) rfl) rfl
set_option maxRecDepth 20000 in
theorem w_1141 : Cond.code yX12_isDrawn cX12_isDrawn 4 (some .boolean) ∈ wl := tm_9 (List.mem_of_getElem? (i := 45) rfl) rfl
set_option maxRecDepth 20000 in
theorem w_1142 : Cond.methodLink RX12 485 yX12_isDrawn ∈ wl := tm_9 (List.mem_of_getElem? (i := 42) rfl) rfl
set_option maxRecDepth 20000 in
theorem w_1143 : Cond.instanceMethod yX12_isDrawn ∈ wl := tm_9 (List.mem_of_getElem? (i := 44) rfl) rfl
set_option maxRecDepth 20000 in
theorem w_1144 : Cond.selects RX12 yX12_isDrawn yX12_isDrawn ∈ wl := tp_7 (q := (yX12_isDrawn, 53)) (List.mem_of_getElem? (i := 8) rfl)
set_option maxRecDepth 20000 in
theorem w_1145 : Cond.code yX12_goDrawn cX12_goDrawn 8 none ∈ wl := tm_9 (List.mem_of_getElem? (i := 51) rfl) rfl
set_option maxRecDepth 20000 in
theorem w_1146 : Cond.methodLink RX12 489 yX12_goDrawn ∈ wl := tm_9 (List.mem_of_getElem? (i := 48) rfl) rfl
set_option maxRecDepth 20000 in
theorem w_1147 : Cond.instanceMethod yX12_goDrawn ∈ wl := tm_9 (List.mem_of_getElem? (i := 50) rfl) rfl
set_option maxRecDepth 20000 in
theorem w_1148 : Cond.selects RX12 yX12_goDrawn yX12_goDrawn ∈ wl := tp_7 (q := (yX12_goDrawn, 53)) (List.mem_of_getElem? (i := 9) rfl)
set_option maxRecDepth 20000 in
theorem w_1149 : Cond.constantLong RX12 493 (20) ∈ wl := tm_9 (List.mem_of_getElem? (i := 60) rfl) rfl
theorem kd_X12_fillCosts : okD yX12_fillCosts 2 := by decide +kernel
theorem kd_X12_goFog : okD yX12_goFog 2 := by decide +kernel
theorem kd_X12_divisor : okD yX12_divisor 2 := by decide +kernel
theorem kd_X12_isDrawn : okD yX12_isDrawn 3 := by decide +kernel
theorem kd_X12_goDrawn : okD yX12_goDrawn 3 := by decide +kernel
set_option maxRecDepth 20000 in
theorem kV_X12_459 : okV RX12 459 yX12_fillCosts cX12_fillCosts 8 none 2 := ⟨⟨w_1120, w_1119, w_765, kd_X12_fillCosts⟩, w_1121, w_1122⟩
set_option maxRecDepth 20000 in
theorem kV_X12_464 : okV RX12 464 yX12_goFog cX12_goFog 6 none 2 := ⟨⟨w_1127, w_1126, w_765, kd_X12_goFog⟩, w_1128, w_1129⟩
set_option maxRecDepth 20000 in
theorem kS_X12_467 : okS RX12 467 yX12_divisor cX12_divisor 5 (some .int) 2 := ⟨⟨w_1131, w_1130, w_765, kd_X12_divisor⟩, w_1132⟩
set_option maxRecDepth 20000 in
theorem kV_X12_485 : okV RX12 485 yX12_isDrawn cX12_isDrawn 4 (some .boolean) 3 := ⟨⟨w_1142, w_1141, w_765, kd_X12_isDrawn⟩, w_1143, w_1144⟩
set_option maxRecDepth 20000 in
theorem kV_X12_489 : okV RX12 489 yX12_goDrawn cX12_goDrawn 8 none 3 := ⟨⟨w_1146, w_1145, w_765, kd_X12_goDrawn⟩, w_1147, w_1148⟩
