set_option maxRecDepth 20000 in
theorem w_1044 : Cond.fieldLink RX12 58 "LostWoodModel" "twoFar" "[I" ∈ wl := tm_6 (List.mem_of_getElem? (i := 77) rfl) rfl
set_option maxRecDepth 20000 in
theorem w_1045 : Cond.fieldLink RX12 55 "LostWoodModel" "twos" "[I" ∈ wl := tm_6 (List.mem_of_getElem? (i := 76) rfl) rfl
set_option maxRecDepth 20000 in
theorem w_1046 : Cond.fieldLink RX12 61 "LostWoodModel" "twoBy" "[I" ∈ wl := tm_6 (List.mem_of_getElem? (i := 78) rfl) rfl
set_option maxRecDepth 20000 in
theorem w_1047 : Cond.fieldLink RX12 64 "LostWoodModel" "twoFrom" "[I" ∈ wl := tm_6 (List.mem_of_getElem? (i := 79) rfl) rfl
set_option maxRecDepth 20000 in
theorem w_1048 : Cond.code yX12_areTwo cX12_areTwo 3 (some .boolean) ∈ wl := tm_8 (List.mem_of_getElem? (i := 100) rfl) rfl
set_option maxRecDepth 20000 in
theorem w_1049 : Cond.methodLink RX12 394 yX12_areTwo ∈ wl := tm_8 (List.mem_of_getElem? (i := 97) rfl) rfl
set_option maxRecDepth 20000 in
theorem w_1050 : Cond.instanceMethod yX12_areTwo ∈ wl := tm_8 (List.mem_of_getElem? (i := 99) rfl) rfl
set_option maxRecDepth 20000 in
theorem w_1051 : Cond.selects RX12 yX12_areTwo yX12_areTwo ∈ wl := tp_6 (q := (yX12_areTwo, 53)) (List.mem_of_getElem? (i := 5) rfl)
set_option maxRecDepth 20000 in
theorem w_1052 : Cond.code yX12_findTwo cX12_findTwo 9 (some .int) ∈ wl := tm_8 (List.mem_of_getElem? (i := 120) rfl) rfl
set_option maxRecDepth 20000 in
theorem w_1053 : Cond.methodLink RX12 400 yX12_findTwo ∈ wl := tm_8 (List.mem_of_getElem? (i := 117) rfl) rfl
set_option maxRecDepth 20000 in
theorem w_1054 : Cond.instanceMethod yX12_findTwo ∈ wl := tm_8 (List.mem_of_getElem? (i := 119) rfl) rfl
set_option maxRecDepth 20000 in
theorem w_1055 : Cond.selects RX12 yX12_findTwo yX12_findTwo ∈ wl := tp_6 (q := (yX12_findTwo, 53)) (List.mem_of_getElem? (i := 8) rfl)
set_option maxRecDepth 20000 in
theorem w_1056 : Cond.fieldLink RX12 406 "LostWoodModel" "setQueued" "I" ∈ wl := tm_6 (List.mem_of_getElem? (i := 84) rfl) rfl
set_option maxRecDepth 20000 in
theorem w_1057 : Cond.fieldLink RX12 67 "LostWoodModel" "setQueue" "[I" ∈ wl := tm_6 (List.mem_of_getElem? (i := 80) rfl) rfl
set_option maxRecDepth 20000 in
theorem w_1058 : Cond.fieldLink RX12 70 "LostWoodModel" "setFar" "[I" ∈ wl := tm_6 (List.mem_of_getElem? (i := 81) rfl) rfl
set_option maxRecDepth 20000 in
theorem w_1059 : Cond.fieldLink RX12 73 "LostWoodModel" "setBy" "[I" ∈ wl := tm_6 (List.mem_of_getElem? (i := 82) rfl) rfl
set_option maxRecDepth 20000 in
theorem w_1060 : Cond.fieldLink RX12 76 "LostWoodModel" "setFrom" "[I" ∈ wl := tm_6 (List.mem_of_getElem? (i := 83) rfl) rfl
set_option maxRecDepth 20000 in
theorem w_1061 : Cond.code yX12_findOne cX12_findOne 7 (some .int) ∈ wl := tm_8 (List.mem_of_getElem? (i := 144) rfl) rfl
set_option maxRecDepth 20000 in
theorem w_1062 : Cond.methodLink RX12 409 yX12_findOne ∈ wl := tm_8 (List.mem_of_getElem? (i := 141) rfl) rfl
set_option maxRecDepth 20000 in
theorem w_1063 : Cond.instanceMethod yX12_findOne ∈ wl := tm_8 (List.mem_of_getElem? (i := 143) rfl) rfl
set_option maxRecDepth 20000 in
theorem w_1064 : Cond.selects RX12 yX12_findOne yX12_findOne ∈ wl := tp_6 (q := (yX12_findOne, 53)) (List.mem_of_getElem? (i := 10) rfl)
theorem kd_X12_areTwo : okD yX12_areTwo 2 := by decide +kernel
theorem kd_X12_findTwo : okD yX12_findTwo 2 := by decide +kernel
theorem kd_X12_findOne : okD yX12_findOne 1 := by decide +kernel
set_option maxRecDepth 20000 in
theorem kV_X12_394 : okV RX12 394 yX12_areTwo cX12_areTwo 3 (some .boolean) 2 := ⟨⟨w_1049, w_1048, w_765, kd_X12_areTwo⟩, w_1050, w_1051⟩
set_option maxRecDepth 20000 in
theorem kV_X12_400 : okV RX12 400 yX12_findTwo cX12_findTwo 9 (some .int) 2 := ⟨⟨w_1053, w_1052, w_765, kd_X12_findTwo⟩, w_1054, w_1055⟩
set_option maxRecDepth 20000 in
theorem kV_X12_409 : okV RX12 409 yX12_findOne cX12_findOne 7 (some .int) 1 := ⟨⟨w_1062, w_1061, w_765, kd_X12_findOne⟩, w_1063, w_1064⟩
