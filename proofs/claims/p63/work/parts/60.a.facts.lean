set_option maxRecDepth 20000 in
theorem w_1155 : Cond.fieldLink RX12 46 "LostWoodModel" "depth" "[I" ∈ wl := tm_6 (List.mem_of_getElem? (i := 73) rfl) rfl
set_option maxRecDepth 20000 in
theorem w_1156 : Cond.code yX12_depthSplit cX12_depthSplit 4 (some .int) ∈ wl := tm_8 (List.mem_of_getElem? (i := 80) rfl) rfl
set_option maxRecDepth 20000 in
theorem w_1157 : Cond.methodLink RX12 381 yX12_depthSplit ∈ wl := tm_8 (List.mem_of_getElem? (i := 77) rfl) rfl
set_option maxRecDepth 20000 in
theorem w_1158 : Cond.instanceMethod yX12_depthSplit ∈ wl := tm_8 (List.mem_of_getElem? (i := 79) rfl) rfl
set_option maxRecDepth 20000 in
theorem w_1159 : Cond.selects RX12 yX12_depthSplit yX12_depthSplit ∈ wl := tp_6 (q := (yX12_depthSplit, 53)) (List.mem_of_getElem? (i := 3) rfl)
set_option maxRecDepth 20000 in
theorem w_1160 : Cond.code yX12_fillDepths cX12_fillDepths 6 none ∈ wl := tm_8 (List.mem_of_getElem? (i := 75) rfl) rfl
set_option maxRecDepth 20000 in
theorem w_1161 : Cond.methodLink RX12 384 yX12_fillDepths ∈ wl := tm_8 (List.mem_of_getElem? (i := 72) rfl) rfl
set_option maxRecDepth 20000 in
theorem w_1162 : Cond.instanceMethod yX12_fillDepths ∈ wl := tm_8 (List.mem_of_getElem? (i := 74) rfl) rfl
set_option maxRecDepth 20000 in
theorem w_1163 : Cond.selects RX12 yX12_fillDepths yX12_fillDepths ∈ wl := tp_6 (q := (yX12_fillDepths, 53)) (List.mem_of_getElem? (i := 2) rfl)
set_option maxRecDepth 20000 in
theorem w_1164 : Cond.code yX12_areLike cX12_areLike 3 (some .boolean) ∈ wl := tm_8 (List.mem_of_getElem? (i := 88) rfl) rfl
set_option maxRecDepth 20000 in
theorem w_1165 : Cond.methodLink RX12 387 yX12_areLike ∈ wl := tm_8 (List.mem_of_getElem? (i := 85) rfl) rfl
set_option maxRecDepth 20000 in
theorem w_1166 : Cond.instanceMethod yX12_areLike ∈ wl := tm_8 (List.mem_of_getElem? (i := 87) rfl) rfl
set_option maxRecDepth 20000 in
theorem w_1167 : Cond.selects RX12 yX12_areLike yX12_areLike ∈ wl := tp_6 (q := (yX12_areLike, 53)) (List.mem_of_getElem? (i := 4) rfl)
theorem kd_X12_depthSplit : okD yX12_depthSplit 1 := by decide +kernel
theorem kd_X12_fillDepths : okD yX12_fillDepths 0 := by decide +kernel
theorem kd_X12_areLike : okD yX12_areLike 1 := by decide +kernel
set_option maxRecDepth 20000 in
theorem kV_X12_381 : okV RX12 381 yX12_depthSplit cX12_depthSplit 4 (some .int) 1 := ⟨⟨w_1157, w_1156, w_765, kd_X12_depthSplit⟩, w_1158, w_1159⟩
set_option maxRecDepth 20000 in
theorem kV_X12_384 : okV RX12 384 yX12_fillDepths cX12_fillDepths 6 none 0 := ⟨⟨w_1161, w_1160, w_765, kd_X12_fillDepths⟩, w_1162, w_1163⟩
set_option maxRecDepth 20000 in
theorem kV_X12_387 : okV RX12 387 yX12_areLike cX12_areLike 3 (some .boolean) 1 := ⟨⟨w_1165, w_1164, w_765, kd_X12_areLike⟩, w_1166, w_1167⟩
