set_option maxRecDepth 20000 in
theorem w_1019 : Cond.fieldLink RX12 37 "LostWoodModel" "farOf" "[I" ∈ wl := tm_6 (List.mem_of_getElem? (i := 69) rfl) rfl
set_option maxRecDepth 20000 in
theorem w_1020 : Cond.fieldLink RX12 40 "LostWoodModel" "cameBy" "[I" ∈ wl := tm_6 (List.mem_of_getElem? (i := 70) rfl) rfl
set_option maxRecDepth 20000 in
theorem w_1021 : Cond.fieldLink RX12 43 "LostWoodModel" "cameFrom" "[I" ∈ wl := tm_6 (List.mem_of_getElem? (i := 71) rfl) rfl
set_option maxRecDepth 20000 in
theorem w_1022 : Cond.fieldLink RX12 34 "LostWoodModel" "queue" "[I" ∈ wl := tm_6 (List.mem_of_getElem? (i := 68) rfl) rfl
set_option maxRecDepth 20000 in
theorem w_1023 : Cond.fieldLink RX12 360 "LostWoodModel" "queued" "I" ∈ wl := tm_6 (List.mem_of_getElem? (i := 72) rfl) rfl
set_option maxRecDepth 20000 in
theorem w_1024 : Cond.code yX12_meetPair cX12_meetPair 5 none ∈ wl := tm_8 (List.mem_of_getElem? (i := 35) rfl) rfl
set_option maxRecDepth 20000 in
theorem w_1025 : Cond.methodLink RX12 363 yX12_meetPair ∈ wl := tm_8 (List.mem_of_getElem? (i := 32) rfl) rfl
set_option maxRecDepth 20000 in
theorem w_1026 : Cond.instanceMethod yX12_meetPair ∈ wl := tm_8 (List.mem_of_getElem? (i := 34) rfl) rfl
set_option maxRecDepth 20000 in
theorem w_1027 : Cond.selects RX12 yX12_meetPair yX12_meetPair ∈ wl := tp_5 (q := (yX12_meetPair, 53)) (List.mem_of_getElem? (i := 15) rfl)
set_option maxRecDepth 20000 in
theorem w_1028 : Cond.code yX12_goThrough cX12_goThrough 4 none ∈ wl := tm_8 (List.mem_of_getElem? (i := 31) rfl) rfl
set_option maxRecDepth 20000 in
theorem w_1029 : Cond.methodLink RX12 367 yX12_goThrough ∈ wl := tm_8 (List.mem_of_getElem? (i := 28) rfl) rfl
set_option maxRecDepth 20000 in
theorem w_1030 : Cond.instanceMethod yX12_goThrough ∈ wl := tm_8 (List.mem_of_getElem? (i := 30) rfl) rfl
set_option maxRecDepth 20000 in
theorem w_1031 : Cond.selects RX12 yX12_goThrough yX12_goThrough ∈ wl := tp_5 (q := (yX12_goThrough, 53)) (List.mem_of_getElem? (i := 14) rfl)
set_option maxRecDepth 20000 in
theorem w_1032 : Cond.code yX12_findPair cX12_findPair 5 (some .int) ∈ wl := tm_8 (List.mem_of_getElem? (i := 27) rfl) rfl
set_option maxRecDepth 20000 in
theorem w_1033 : Cond.methodLink RX12 370 yX12_findPair ∈ wl := tm_8 (List.mem_of_getElem? (i := 24) rfl) rfl
set_option maxRecDepth 20000 in
theorem w_1034 : Cond.instanceMethod yX12_findPair ∈ wl := tm_8 (List.mem_of_getElem? (i := 26) rfl) rfl
set_option maxRecDepth 20000 in
theorem w_1035 : Cond.selects RX12 yX12_findPair yX12_findPair ∈ wl := tp_5 (q := (yX12_findPair, 53)) (List.mem_of_getElem? (i := 13) rfl)
set_option maxRecDepth 20000 in
theorem w_1036 : Cond.code yX12_farTo cX12_farTo 2 (some .int) ∈ wl := tm_8 (List.mem_of_getElem? (i := 39) rfl) rfl
set_option maxRecDepth 20000 in
theorem w_1037 : Cond.methodLink RX12 374 yX12_farTo ∈ wl := tm_8 (List.mem_of_getElem? (i := 36) rfl) rfl
set_option maxRecDepth 20000 in
theorem w_1038 : Cond.instanceMethod yX12_farTo ∈ wl := tm_8 (List.mem_of_getElem? (i := 38) rfl) rfl
set_option maxRecDepth 20000 in
theorem w_1039 : Cond.selects RX12 yX12_farTo yX12_farTo ∈ wl := tp_6 (q := (yX12_farTo, 53)) (List.mem_of_getElem? (i := 0) rfl)
set_option maxRecDepth 20000 in
theorem w_1040 : Cond.code yX12_windTo cX12_windTo 4 (some .int) ∈ wl := tm_8 (List.mem_of_getElem? (i := 47) rfl) rfl
set_option maxRecDepth 20000 in
theorem w_1041 : Cond.methodLink RX12 377 yX12_windTo ∈ wl := tm_8 (List.mem_of_getElem? (i := 44) rfl) rfl
set_option maxRecDepth 20000 in
theorem w_1042 : Cond.instanceMethod yX12_windTo ∈ wl := tm_8 (List.mem_of_getElem? (i := 46) rfl) rfl
set_option maxRecDepth 20000 in
theorem w_1043 : Cond.selects RX12 yX12_windTo yX12_windTo ∈ wl := tp_6 (q := (yX12_windTo, 53)) (List.mem_of_getElem? (i := 1) rfl)
theorem kd_X12_meetPair : okD yX12_meetPair 4 := by decide +kernel
theorem kd_X12_goThrough : okD yX12_goThrough 1 := by decide +kernel
theorem kd_X12_findPair : okD yX12_findPair 3 := by decide +kernel
theorem kd_X12_farTo : okD yX12_farTo 1 := by decide +kernel
theorem kd_X12_windTo : okD yX12_windTo 2 := by decide +kernel
set_option maxRecDepth 20000 in
theorem kV_X12_363 : okV RX12 363 yX12_meetPair cX12_meetPair 5 none 4 := ⟨⟨w_1025, w_1024, w_765, kd_X12_meetPair⟩, w_1026, w_1027⟩
set_option maxRecDepth 20000 in
theorem kV_X12_367 : okV RX12 367 yX12_goThrough cX12_goThrough 4 none 1 := ⟨⟨w_1029, w_1028, w_765, kd_X12_goThrough⟩, w_1030, w_1031⟩
set_option maxRecDepth 20000 in
theorem kV_X12_370 : okV RX12 370 yX12_findPair cX12_findPair 5 (some .int) 3 := ⟨⟨w_1033, w_1032, w_765, kd_X12_findPair⟩, w_1034, w_1035⟩
set_option maxRecDepth 20000 in
theorem kV_X12_374 : okV RX12 374 yX12_farTo cX12_farTo 2 (some .int) 1 := ⟨⟨w_1037, w_1036, w_765, kd_X12_farTo⟩, w_1038, w_1039⟩
set_option maxRecDepth 20000 in
theorem kV_X12_377 : okV RX12 377 yX12_windTo cX12_windTo 4 (some .int) 2 := ⟨⟨w_1041, w_1040, w_765, kd_X12_windTo⟩, w_1042, w_1043⟩
