set_option maxRecDepth 20000 in
theorem w_1150 : Cond.fieldLink RX12 100 "LostWoodModel" "width" "[I" ∈ wl := tm_6 (List.mem_of_getElem? (i := 97) rfl) rfl
set_option maxRecDepth 20000 in
theorem w_1151 : Cond.code yX12_cut cX12_cut 4 (some .long) ∈ wl := tm_9 (List.mem_of_getElem? (i := 75) rfl) rfl
set_option maxRecDepth 20000 in
theorem w_1152 : Cond.methodLink RX12 495 yX12_cut ∈ wl := tm_9 (List.mem_of_getElem? (i := 73) rfl) rfl
set_option maxRecDepth 20000 in
theorem w_1153 : Cond.static yX12_cut ∈ wl := tm_9 (List.mem_of_getElem? (i := 74) rfl) rfl
set_option maxRecDepth 20000 in
theorem w_1154 : Cond.fieldLink RX12 107 "LostWoodModel" "moving" "[J" ∈ wl := tm_6 (List.mem_of_getElem? (i := 99) rfl) rfl
theorem kd_X12_cut : okD yX12_cut 2 := by decide +kernel
set_option maxRecDepth 20000 in
theorem kS_X12_495 : okS RX12 495 yX12_cut cX12_cut 4 (some .long) 2 := ⟨⟨w_1152, w_1151, w_765, kd_X12_cut⟩, w_1153⟩
