set_option maxRecDepth 20000 in
theorem w_1256 : Cond.code yX2_copyFrom cX2_copyFrom 2 none ∈ wl := tm_5 (List.mem_of_getElem? (i := 232) rfl) rfl
set_option maxRecDepth 20000 in
theorem w_1257 : Cond.methodLink RX11 349 yX2_copyFrom ∈ wl := tm_5 (List.mem_of_getElem? (i := 229) rfl) rfl
set_option maxRecDepth 20000 in
theorem w_1258 : Cond.instanceMethod yX2_copyFrom ∈ wl := tm_5 (List.mem_of_getElem? (i := 230) rfl) rfl
set_option maxRecDepth 20000 in
theorem w_1259 : Cond.selects RX2 yX2_copyFrom yX2_copyFrom ∈ wl := tm_5 (List.mem_of_getElem? (i := 231) rfl) rfl
theorem kd_X2_copyFrom : okD yX2_copyFrom 1 := by decide +kernel
set_option maxRecDepth 20000 in
theorem kV_X11_349 : okV RX11 349 yX2_copyFrom cX2_copyFrom 2 none 1 := ⟨⟨w_1257, w_1256, w_602, kd_X2_copyFrom⟩, w_1258, w_1259⟩
