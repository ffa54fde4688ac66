set_option maxRecDepth 20000 in
theorem w_921 : Cond.code yX12_readLine cX12_readLine 1 none ∈ wl := tm_7 (List.mem_of_getElem? (i := 17) rfl) rfl
set_option maxRecDepth 20000 in
theorem w_922 : Cond.methodLink RX12 267 yX12_readLine ∈ wl := tm_7 (List.mem_of_getElem? (i := 14) rfl) rfl
set_option maxRecDepth 20000 in
theorem w_923 : Cond.instanceMethod yX12_readLine ∈ wl := tm_7 (List.mem_of_getElem? (i := 16) rfl) rfl
set_option maxRecDepth 20000 in
theorem w_924 : Cond.selects RX12 yX12_readLine yX12_readLine ∈ wl := tp_3 (q := (yX12_readLine, 53)) (List.mem_of_getElem? (i := 9) rfl)
theorem kd_X12_readLine : okD yX12_readLine 0 := by decide +kernel
set_option maxRecDepth 20000 in
theorem kV_X12_267 : okV RX12 267 yX12_readLine cX12_readLine 1 none 0 := ⟨⟨w_922, w_921, w_765, kd_X12_readLine⟩, w_923, w_924⟩
