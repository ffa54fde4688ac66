set_option maxRecDepth 20000 in
theorem w_1065 : Cond.fieldLink RX12 412 "LostWoodModel" "meetSteps" "I" ∈ wl := tm_6 (List.mem_of_getElem? (i := 85) rfl) rfl
set_option maxRecDepth 20000 in
theorem w_1066 : Cond.fieldLink RX12 415 "LostWoodModel" "meetSet" "I" ∈ wl := tm_6 (List.mem_of_getElem? (i := 86) rfl) rfl
set_option maxRecDepth 20000 in
theorem w_1067 : Cond.code yX12_onward cX12_onward 4 (some .int) ∈ wl := tm_8 (List.mem_of_getElem? (i := 164) rfl) rfl
set_option maxRecDepth 20000 in
theorem w_1068 : Cond.methodLink RX12 418 yX12_onward ∈ wl := tm_8 (List.mem_of_getElem? (i := 161) rfl) rfl
set_option maxRecDepth 20000 in
theorem w_1069 : Cond.instanceMethod yX12_onward ∈ wl := tm_8 (List.mem_of_getElem? (i := 163) rfl) rfl
set_option maxRecDepth 20000 in
theorem w_1070 : Cond.selects RX12 yX12_onward yX12_onward ∈ wl := tp_6 (q := (yX12_onward, 53)) (List.mem_of_getElem? (i := 12) rfl)
set_option maxRecDepth 20000 in
theorem w_1071 : Cond.code yX12_findMeet cX12_findMeet 6 none ∈ wl := tm_8 (List.mem_of_getElem? (i := 160) rfl) rfl
set_option maxRecDepth 20000 in
theorem w_1072 : Cond.methodLink RX12 421 yX12_findMeet ∈ wl := tm_8 (List.mem_of_getElem? (i := 157) rfl) rfl
set_option maxRecDepth 20000 in
theorem w_1073 : Cond.instanceMethod yX12_findMeet ∈ wl := tm_8 (List.mem_of_getElem? (i := 159) rfl) rfl
set_option maxRecDepth 20000 in
theorem w_1074 : Cond.selects RX12 yX12_findMeet yX12_findMeet ∈ wl := tp_6 (q := (yX12_findMeet, 53)) (List.mem_of_getElem? (i := 11) rfl)
set_option maxRecDepth 20000 in
theorem w_1075 : Cond.constantLong RX12 424 (4) ∈ wl := tm_8 (List.mem_of_getElem? (i := 177) rfl) rfl
set_option maxRecDepth 20000 in
theorem w_1076 : Cond.code yX12_asksRead cX12_asksRead 3 (some .int) ∈ wl := tm_8 (List.mem_of_getElem? (i := 176) rfl) rfl
set_option maxRecDepth 20000 in
theorem w_1077 : Cond.methodLink RX12 426 yX12_asksRead ∈ wl := tm_8 (List.mem_of_getElem? (i := 173) rfl) rfl
set_option maxRecDepth 20000 in
theorem w_1078 : Cond.instanceMethod yX12_asksRead ∈ wl := tm_8 (List.mem_of_getElem? (i := 175) rfl) rfl
set_option maxRecDepth 20000 in
theorem w_1079 : Cond.selects RX12 yX12_asksRead yX12_asksRead ∈ wl := tp_6 (q := (yX12_asksRead, 53)) (List.mem_of_getElem? (i := 13) rfl)
set_option maxRecDepth 20000 in
theorem w_1080 : Cond.code yX12_readFrom cX12_readFrom 6 (some .int) ∈ wl := tm_8 (List.mem_of_getElem? (i := 181) rfl) rfl
set_option maxRecDepth 20000 in
theorem w_1081 : Cond.methodLink RX12 429 yX12_readFrom ∈ wl := tm_8 (List.mem_of_getElem? (i := 178) rfl) rfl
set_option maxRecDepth 20000 in
theorem w_1082 : Cond.instanceMethod yX12_readFrom ∈ wl := tm_8 (List.mem_of_getElem? (i := 180) rfl) rfl
set_option maxRecDepth 20000 in
theorem w_1083 : Cond.selects RX12 yX12_readFrom yX12_readFrom ∈ wl := tp_6 (q := (yX12_readFrom, 53)) (List.mem_of_getElem? (i := 14) rfl)
set_option maxRecDepth 20000 in
theorem w_1084 : Cond.code yX12_worstBy cX12_worstBy 5 (some .int) ∈ wl := tm_8 (List.mem_of_getElem? (i := 197) rfl) rfl
set_option maxRecDepth 20000 in
theorem w_1085 : Cond.methodLink RX12 432 yX12_worstBy ∈ wl := tm_8 (List.mem_of_getElem? (i := 194) rfl) rfl
set_option maxRecDepth 20000 in
theorem w_1086 : Cond.instanceMethod yX12_worstBy ∈ wl := tm_8 (List.mem_of_getElem? (i := 196) rfl) rfl
set_option maxRecDepth 20000 in
theorem w_1087 : Cond.selects RX12 yX12_worstBy yX12_worstBy ∈ wl := tp_7 (q := (yX12_worstBy, 53)) (List.mem_of_getElem? (i := 0) rfl)
set_option maxRecDepth 20000 in
theorem w_1088 : Cond.code yX12_askOf cX12_askOf 4 (some .int) ∈ wl := tm_8 (List.mem_of_getElem? (i := 193) rfl) rfl
set_option maxRecDepth 20000 in
theorem w_1089 : Cond.methodLink RX12 435 yX12_askOf ∈ wl := tm_8 (List.mem_of_getElem? (i := 190) rfl) rfl
set_option maxRecDepth 20000 in
theorem w_1090 : Cond.instanceMethod yX12_askOf ∈ wl := tm_8 (List.mem_of_getElem? (i := 192) rfl) rfl
set_option maxRecDepth 20000 in
theorem w_1091 : Cond.selects RX12 yX12_askOf yX12_askOf ∈ wl := tp_6 (q := (yX12_askOf, 53)) (List.mem_of_getElem? (i := 15) rfl)
theorem kd_X12_onward : okD yX12_onward 1 := by decide +kernel
theorem kd_X12_findMeet : okD yX12_findMeet 2 := by decide +kernel
theorem kd_X12_asksRead : okD yX12_asksRead 1 := by decide +kernel
theorem kd_X12_readFrom : okD yX12_readFrom 2 := by decide +kernel
theorem kd_X12_worstBy : okD yX12_worstBy 2 := by decide +kernel
theorem kd_X12_askOf : okD yX12_askOf 1 := by decide +kernel
set_option maxRecDepth 20000 in
theorem kV_X12_418 : okV RX12 418 yX12_onward cX12_onward 4 (some .int) 1 := ⟨⟨w_1068, w_1067, w_765, kd_X12_onward⟩, w_1069, w_1070⟩
set_option maxRecDepth 20000 in
theorem kV_X12_421 : okV RX12 421 yX12_findMeet cX12_findMeet 6 none 2 := ⟨⟨w_1072, w_1071, w_765, kd_X12_findMeet⟩, w_1073, w_1074⟩
set_option maxRecDepth 20000 in
theorem kV_X12_426 : okV RX12 426 yX12_asksRead cX12_asksRead 3 (some .int) 1 := ⟨⟨w_1077, w_1076, w_765, kd_X12_asksRead⟩, w_1078, w_1079⟩
set_option maxRecDepth 20000 in
theorem kV_X12_429 : okV RX12 429 yX12_readFrom cX12_readFrom 6 (some .int) 2 := ⟨⟨w_1081, w_1080, w_765, kd_X12_readFrom⟩, w_1082, w_1083⟩
set_option maxRecDepth 20000 in
theorem kV_X12_432 : okV RX12 432 yX12_worstBy cX12_worstBy 5 (some .int) 2 := ⟨⟨w_1085, w_1084, w_765, kd_X12_worstBy⟩, w_1086, w_1087⟩
set_option maxRecDepth 20000 in
theorem kV_X12_435 : okV RX12 435 yX12_askOf cX12_askOf 4 (some .int) 1 := ⟨⟨w_1089, w_1088, w_765, kd_X12_askOf⟩, w_1090, w_1091⟩
