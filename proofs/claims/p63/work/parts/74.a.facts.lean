set_option maxRecDepth 20000 in
theorem w_1781 : Cond.instantiable RX11 12 ∈ wl := tm_1 (List.mem_of_getElem? (i := 23) rfl) rfl
set_option maxRecDepth 20000 in
theorem w_1782 : Cond.instantiable RX12 53 ∈ wl := tm_6 (List.mem_of_getElem? (i := 43) rfl) rfl
set_option maxRecDepth 20000 in
theorem w_1783 : Cond.code yX11_init cX11_init 1 none ∈ wl := tm_1 (List.mem_of_getElem? (i := 26) rfl) rfl
set_option maxRecDepth 20000 in
theorem w_1784 : Cond.methodLink RL 9 yX11_init ∈ wl := tm_1 (List.mem_of_getElem? (i := 24) rfl) rfl
set_option maxRecDepth 20000 in
theorem w_1785 : Cond.instanceMethod yX11_init ∈ wl := tm_1 (List.mem_of_getElem? (i := 25) rfl) rfl
set_option maxRecDepth 20000 in
theorem w_1786 : Cond.code yX12_init cX12_init 1 none ∈ wl := tm_6 (List.mem_of_getElem? (i := 46) rfl) rfl
set_option maxRecDepth 20000 in
theorem w_1787 : Cond.methodLink RL 12 yX12_init ∈ wl := tm_6 (List.mem_of_getElem? (i := 44) rfl) rfl
set_option maxRecDepth 20000 in
theorem w_1788 : Cond.instanceMethod yX12_init ∈ wl := tm_6 (List.mem_of_getElem? (i := 45) rfl) rfl
set_option maxRecDepth 20000 in
theorem w_1789 : Cond.classLink RL 7 RX11 ∈ wl := tm_1 (List.mem_of_getElem? (i := 22) rfl) rfl
set_option maxRecDepth 20000 in
theorem w_1790 : Cond.classLink RL 10 RX12 ∈ wl := tm_6 (List.mem_of_getElem? (i := 42) rfl) rfl
theorem kd_X11_init : okD yX11_init 0 := by decide +kernel
theorem kd_X12_init : okD yX12_init 0 := by decide +kernel
set_option maxRecDepth 20000 in
theorem kI_L_9 : okI RL 9 yX11_init cX11_init 1 0 := ⟨⟨w_1784, w_1783, w_34, kd_X11_init⟩, rfl, w_1785⟩
set_option maxRecDepth 20000 in
theorem kI_L_12 : okI RL 12 yX12_init cX12_init 1 0 := ⟨⟨w_1787, w_1786, w_765, kd_X12_init⟩, rfl, w_1788⟩
