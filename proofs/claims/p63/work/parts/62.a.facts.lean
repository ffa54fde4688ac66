set_option maxRecDepth 20000 in
theorem w_1168 : Cond.fieldLink RX12 49 "LostWoodModel" "kind" "[I" ∈ wl := tm_6 (List.mem_of_getElem? (i := 74) rfl) rfl
set_option maxRecDepth 20000 in
theorem w_1169 : Cond.fieldLink RX12 52 "LostWoodModel" "kindThen" "[I" ∈ wl := tm_6 (List.mem_of_getElem? (i := 75) rfl) rfl
set_option maxRecDepth 20000 in
theorem w_1170 : Cond.code yX12_sameOn cX12_sameOn 5 (some .boolean) ∈ wl := tm_8 (List.mem_of_getElem? (i := 108) rfl) rfl
set_option maxRecDepth 20000 in
theorem w_1171 : Cond.methodLink RX12 390 yX12_sameOn ∈ wl := tm_8 (List.mem_of_getElem? (i := 105) rfl) rfl
set_option maxRecDepth 20000 in
theorem w_1172 : Cond.instanceMethod yX12_sameOn ∈ wl := tm_8 (List.mem_of_getElem? (i := 107) rfl) rfl
set_option maxRecDepth 20000 in
theorem w_1173 : Cond.selects RX12 yX12_sameOn yX12_sameOn ∈ wl := tp_6 (q := (yX12_sameOn, 53)) (List.mem_of_getElem? (i := 7) rfl)
set_option maxRecDepth 20000 in
theorem w_1174 : Cond.code yX12_fillKinds cX12_fillKinds 6 (some .int) ∈ wl := tm_8 (List.mem_of_getElem? (i := 104) rfl) rfl
set_option maxRecDepth 20000 in
theorem w_1175 : Cond.methodLink RX12 397 yX12_fillKinds ∈ wl := tm_8 (List.mem_of_getElem? (i := 101) rfl) rfl
set_option maxRecDepth 20000 in
theorem w_1176 : Cond.instanceMethod yX12_fillKinds ∈ wl := tm_8 (List.mem_of_getElem? (i := 103) rfl) rfl
set_option maxRecDepth 20000 in
theorem w_1177 : Cond.selects RX12 yX12_fillKinds yX12_fillKinds ∈ wl := tp_6 (q := (yX12_fillKinds, 53)) (List.mem_of_getElem? (i := 6) rfl)
set_option maxRecDepth 20000 in
theorem w_1178 : Cond.code yX12_baredOf cX12_baredOf 6 (some .int) ∈ wl := tm_8 (List.mem_of_getElem? (i := 132) rfl) rfl
set_option maxRecDepth 20000 in
theorem w_1179 : Cond.methodLink RX12 403 yX12_baredOf ∈ wl := tm_8 (List.mem_of_getElem? (i := 129) rfl) rfl
set_option maxRecDepth 20000 in
theorem w_1180 : Cond.instanceMethod yX12_baredOf ∈ wl := tm_8 (List.mem_of_getElem? (i := 131) rfl) rfl
set_option maxRecDepth 20000 in
theorem w_1181 : Cond.selects RX12 yX12_baredOf yX12_baredOf ∈ wl := tp_6 (q := (yX12_baredOf, 53)) (List.mem_of_getElem? (i := 9) rfl)
set_option maxRecDepth 20000 in
theorem w_1182 : Cond.fieldLink RX12 16 "LostWoodModel" "hasImage" "[Z" ∈ wl := tm_6 (List.mem_of_getElem? (i := 50) rfl) rfl
set_option maxRecDepth 20000 in
theorem w_1183 : Cond.fieldLink RX12 13 "LostWoodModel" "images" "[I" ∈ wl := tm_6 (List.mem_of_getElem? (i := 49) rfl) rfl
theorem kd_X12_sameOn : okD yX12_sameOn 2 := by decide +kernel
theorem kd_X12_fillKinds : okD yX12_fillKinds 1 := by decide +kernel
theorem kd_X12_baredOf : okD yX12_baredOf 2 := by decide +kernel
set_option maxRecDepth 20000 in
theorem kV_X12_390 : okV RX12 390 yX12_sameOn cX12_sameOn 5 (some .boolean) 2 := ⟨⟨w_1171, w_1170, w_765, kd_X12_sameOn⟩, w_1172, w_1173⟩
set_option maxRecDepth 20000 in
theorem kV_X12_397 : okV RX12 397 yX12_fillKinds cX12_fillKinds 6 (some .int) 1 := ⟨⟨w_1175, w_1174, w_765, kd_X12_fillKinds⟩, w_1176, w_1177⟩
set_option maxRecDepth 20000 in
theorem kV_X12_403 : okV RX12 403 yX12_baredOf cX12_baredOf 6 (some .int) 2 := ⟨⟨w_1179, w_1178, w_765, kd_X12_baredOf⟩, w_1180, w_1181⟩
