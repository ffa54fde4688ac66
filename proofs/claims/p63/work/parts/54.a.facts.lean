set_option maxRecDepth 20000 in
theorem w_1092 : Cond.fieldLink RX12 85 "LostWoodModel" "kept" "[I" ∈ wl := tm_6 (List.mem_of_getElem? (i := 89) rfl) rfl
set_option maxRecDepth 20000 in
theorem w_1093 : Cond.fieldLink RX12 79 "LostWoodModel" "order" "[I" ∈ wl := tm_6 (List.mem_of_getElem? (i := 87) rfl) rfl
set_option maxRecDepth 20000 in
theorem w_1094 : Cond.code yX12_apply cX12_apply 3 none ∈ wl := tm_8 (List.mem_of_getElem? (i := 217) rfl) rfl
set_option maxRecDepth 20000 in
theorem w_1095 : Cond.methodLink RX12 438 yX12_apply ∈ wl := tm_8 (List.mem_of_getElem? (i := 214) rfl) rfl
set_option maxRecDepth 20000 in
theorem w_1096 : Cond.instanceMethod yX12_apply ∈ wl := tm_8 (List.mem_of_getElem? (i := 216) rfl) rfl
set_option maxRecDepth 20000 in
theorem w_1097 : Cond.selects RX12 yX12_apply yX12_apply ∈ wl := tp_7 (q := (yX12_apply, 53)) (List.mem_of_getElem? (i := 3) rfl)
set_option maxRecDepth 20000 in
theorem w_1098 : Cond.code yX12_swap cX12_swap 4 none ∈ wl := tm_8 (List.mem_of_getElem? (i := 225) rfl) rfl
set_option maxRecDepth 20000 in
theorem w_1099 : Cond.methodLink RX12 441 yX12_swap ∈ wl := tm_8 (List.mem_of_getElem? (i := 222) rfl) rfl
set_option maxRecDepth 20000 in
theorem w_1100 : Cond.instanceMethod yX12_swap ∈ wl := tm_8 (List.mem_of_getElem? (i := 224) rfl) rfl
set_option maxRecDepth 20000 in
theorem w_1101 : Cond.selects RX12 yX12_swap yX12_swap ∈ wl := tp_7 (q := (yX12_swap, 53)) (List.mem_of_getElem? (i := 5) rfl)
set_option maxRecDepth 20000 in
theorem w_1102 : Cond.fieldLink RX12 444 "LostWoodModel" "courseMost" "I" ∈ wl := tm_6 (List.mem_of_getElem? (i := 90) rfl) rfl
set_option maxRecDepth 20000 in
theorem w_1103 : Cond.fieldLink RX12 447 "LostWoodModel" "courseLeast" "I" ∈ wl := tm_6 (List.mem_of_getElem? (i := 91) rfl) rfl
set_option maxRecDepth 20000 in
theorem w_1104 : Cond.fieldLink RX12 82 "LostWoodModel" "bestOrder" "[I" ∈ wl := tm_6 (List.mem_of_getElem? (i := 88) rfl) rfl
set_option maxRecDepth 20000 in
theorem w_1105 : Cond.constant RX12 380 (1000000) ∈ wl := tm_8 (List.mem_of_getElem? (i := 76) rfl) rfl
set_option maxRecDepth 20000 in
theorem w_1106 : Cond.code yX12_doubtBy cX12_doubtBy 5 (some .int) ∈ wl := tm_8 (List.mem_of_getElem? (i := 213) rfl) rfl
set_option maxRecDepth 20000 in
theorem w_1107 : Cond.methodLink RX12 450 yX12_doubtBy ∈ wl := tm_8 (List.mem_of_getElem? (i := 210) rfl) rfl
set_option maxRecDepth 20000 in
theorem w_1108 : Cond.instanceMethod yX12_doubtBy ∈ wl := tm_8 (List.mem_of_getElem? (i := 212) rfl) rfl
set_option maxRecDepth 20000 in
theorem w_1109 : Cond.selects RX12 yX12_doubtBy yX12_doubtBy ∈ wl := tp_7 (q := (yX12_doubtBy, 53)) (List.mem_of_getElem? (i := 2) rfl)
set_option maxRecDepth 20000 in
theorem w_1110 : Cond.code yX12_nextOrder cX12_nextOrder 6 (some .boolean) ∈ wl := tm_8 (List.mem_of_getElem? (i := 221) rfl) rfl
set_option maxRecDepth 20000 in
theorem w_1111 : Cond.methodLink RX12 453 yX12_nextOrder ∈ wl := tm_8 (List.mem_of_getElem? (i := 218) rfl) rfl
set_option maxRecDepth 20000 in
theorem w_1112 : Cond.instanceMethod yX12_nextOrder ∈ wl := tm_8 (List.mem_of_getElem? (i := 220) rfl) rfl
set_option maxRecDepth 20000 in
theorem w_1113 : Cond.selects RX12 yX12_nextOrder yX12_nextOrder ∈ wl := tp_7 (q := (yX12_nextOrder, 53)) (List.mem_of_getElem? (i := 4) rfl)
set_option maxRecDepth 20000 in
theorem w_1114 : Cond.code yX12_findCourse cX12_findCourse 5 none ∈ wl := tm_8 (List.mem_of_getElem? (i := 209) rfl) rfl
set_option maxRecDepth 20000 in
theorem w_1115 : Cond.methodLink RX12 456 yX12_findCourse ∈ wl := tm_8 (List.mem_of_getElem? (i := 206) rfl) rfl
set_option maxRecDepth 20000 in
theorem w_1116 : Cond.instanceMethod yX12_findCourse ∈ wl := tm_8 (List.mem_of_getElem? (i := 208) rfl) rfl
set_option maxRecDepth 20000 in
theorem w_1117 : Cond.selects RX12 yX12_findCourse yX12_findCourse ∈ wl := tp_7 (q := (yX12_findCourse, 53)) (List.mem_of_getElem? (i := 1) rfl)
theorem kd_X12_apply : okD yX12_apply 1 := by decide +kernel
theorem kd_X12_swap : okD yX12_swap 2 := by decide +kernel
theorem kd_X12_doubtBy : okD yX12_doubtBy 2 := by decide +kernel
theorem kd_X12_nextOrder : okD yX12_nextOrder 1 := by decide +kernel
theorem kd_X12_findCourse : okD yX12_findCourse 2 := by decide +kernel
set_option maxRecDepth 20000 in
theorem kV_X12_438 : okV RX12 438 yX12_apply cX12_apply 3 none 1 := ⟨⟨w_1095, w_1094, w_765, kd_X12_apply⟩, w_1096, w_1097⟩
set_option maxRecDepth 20000 in
theorem kV_X12_441 : okV RX12 441 yX12_swap cX12_swap 4 none 2 := ⟨⟨w_1099, w_1098, w_765, kd_X12_swap⟩, w_1100, w_1101⟩
set_option maxRecDepth 20000 in
theorem kV_X12_450 : okV RX12 450 yX12_doubtBy cX12_doubtBy 5 (some .int) 2 := ⟨⟨w_1107, w_1106, w_765, kd_X12_doubtBy⟩, w_1108, w_1109⟩
set_option maxRecDepth 20000 in
theorem kV_X12_453 : okV RX12 453 yX12_nextOrder cX12_nextOrder 6 (some .boolean) 1 := ⟨⟨w_1111, w_1110, w_765, kd_X12_nextOrder⟩, w_1112, w_1113⟩
set_option maxRecDepth 20000 in
theorem kV_X12_456 : okV RX12 456 yX12_findCourse cX12_findCourse 5 none 2 := ⟨⟨w_1115, w_1114, w_765, kd_X12_findCourse⟩, w_1116, w_1117⟩
